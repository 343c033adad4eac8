theorem ggX0_hit_X11_isIn : GoodIn wsX0_hit wsX11_isIn := gga_of 841 rfl rfl rfl
theorem ggX0_begin_X8_driftOn : GoodIn wsX0_begin wsX8_driftOn := gga_of 809 rfl rfl rfl
theorem gX0_begin_X8_driftOn : GoodIn wsX0_begin (wsV RX0 48 RX8 yX8_driftOn wsX8_driftOn) := goodIn_app (ggh_of [834, 807, 808, 64] rfl rfl rfl) ggX0_begin_X8_driftOn
theorem ggX0_spread_X11_isIn : GoodIn wsX0_spread wsX11_isIn := gga_of 841 rfl rfl rfl
theorem ggX0_spread_X11_besideOrSame : GoodIn wsX0_spread wsX11_besideOrSame := gga_of 845 rfl rfl rfl
theorem ggX0_tellHits_X11_isIn : GoodIn wsX0_tellHits wsX11_isIn := gga_of 841 rfl rfl rfl
theorem ggX0_tellHits_X0_hit : GoodIn wsX0_tellHits wsX0_hit := gga_of 874 rfl rfl rfl
theorem gX0_tellHits_X0_hit : GoodIn wsX0_tellHits (va_wsS RX0 73 yX0_hit wsX0_hit) := goodIn_app (ggh_of [872, 873, 68] rfl rfl rfl) ggX0_tellHits_X0_hit
theorem ggX0_tellHits_X11_besideOrSame : GoodIn wsX0_tellHits wsX11_besideOrSame := gga_of 845 rfl rfl rfl
noncomputable def dk15cchances_cX0_hit_0 : List (Nat × Instr × Nat) := [(0, .lload_n 0, 1), (1, .iload_n 2, 1), (2, .invokestatic 44, 3), (5, .ifCond .eq 7, 3), (8, .iconst 1, 1), (9, .goto 4, 3), (13, .ireturn, 1), (12, .iconst 0, 1)]
set_option maxRecDepth 100000 in
theorem dk15cchances_cX0_hit_0_a : dkA cX0_hit dk15cchances_cX0_hit_0 = true := by decide +kernel
theorem dX0_hit_0 : decode cX0_hit 0 = .ok (.lload_n 0, 1) := dkAt dk15cchances_cX0_hit_0_a 0 rfl
theorem dX0_hit_1 : decode cX0_hit 1 = .ok (.iload_n 2, 1) := dkAt dk15cchances_cX0_hit_0_a 1 rfl
theorem dX0_hit_2 : decode cX0_hit 2 = .ok (.invokestatic 44, 3) := dkAt dk15cchances_cX0_hit_0_a 2 rfl
theorem dX0_hit_5 : decode cX0_hit 5 = .ok (.ifCond .eq 7, 3) := dkAt dk15cchances_cX0_hit_0_a 3 rfl
theorem dX0_hit_8 : decode cX0_hit 8 = .ok (.iconst 1, 1) := dkAt dk15cchances_cX0_hit_0_a 4 rfl
theorem dX0_hit_9 : decode cX0_hit 9 = .ok (.goto 4, 3) := dkAt dk15cchances_cX0_hit_0_a 5 rfl
theorem dX0_hit_13 : decode cX0_hit 13 = .ok (.ireturn, 1) := dkAt dk15cchances_cX0_hit_0_a 6 rfl
theorem dX0_hit_12 : decode cX0_hit 12 = .ok (.iconst 0, 1) := dkAt dk15cchances_cX0_hit_0_a 7 rfl
noncomputable def dk15cchances_cX0_begin_0 : List (Nat × Instr × Nat) := [(0, .iconst 0, 1), (1, .istore_n 3, 1), (2, .iload_n 3, 1), (3, .bipush 36, 2), (5, .if_icmp .ge 38, 3), (43, .return_, 1), (8, .aload_n 0, 1), (9, .getfield 9, 3), (12, .iload_n 3, 1), (13, .aload_n 1, 1), (14, .iload_n 3, 1), (15, .invokevirtual 48, 3), (18, .iastore, 1), (19, .aload_n 0, 1), (20, .getfield 17, 3), (23, .iconst 0, 1), (24, .aaload, 1), (25, .iload_n 3, 1), (26, .iload_n 3, 1), (27, .iload_n 2, 1), (36, .lastore, 1), (37, .iinc 3 1, 3), (40, .goto (-38), 3), (28, .if_icmp .ne 7, 3), (35, .lconst 0, 1), (31, .lconst 1, 1), (32, .goto 4, 3)]
set_option maxRecDepth 100000 in
theorem dk15cchances_cX0_begin_0_a : dkA cX0_begin dk15cchances_cX0_begin_0 = true := by decide +kernel
theorem dX0_begin_0 : decode cX0_begin 0 = .ok (.iconst 0, 1) := dkAt dk15cchances_cX0_begin_0_a 0 rfl
theorem dX0_begin_1 : decode cX0_begin 1 = .ok (.istore_n 3, 1) := dkAt dk15cchances_cX0_begin_0_a 1 rfl
theorem dX0_begin_2 : decode cX0_begin 2 = .ok (.iload_n 3, 1) := dkAt dk15cchances_cX0_begin_0_a 2 rfl
theorem dX0_begin_3 : decode cX0_begin 3 = .ok (.bipush 36, 2) := dkAt dk15cchances_cX0_begin_0_a 3 rfl
theorem dX0_begin_5 : decode cX0_begin 5 = .ok (.if_icmp .ge 38, 3) := dkAt dk15cchances_cX0_begin_0_a 4 rfl
theorem dX0_begin_43 : decode cX0_begin 43 = .ok (.return_, 1) := dkAt dk15cchances_cX0_begin_0_a 5 rfl
theorem dX0_begin_8 : decode cX0_begin 8 = .ok (.aload_n 0, 1) := dkAt dk15cchances_cX0_begin_0_a 6 rfl
theorem dX0_begin_9 : decode cX0_begin 9 = .ok (.getfield 9, 3) := dkAt dk15cchances_cX0_begin_0_a 7 rfl
theorem dX0_begin_12 : decode cX0_begin 12 = .ok (.iload_n 3, 1) := dkAt dk15cchances_cX0_begin_0_a 8 rfl
theorem dX0_begin_13 : decode cX0_begin 13 = .ok (.aload_n 1, 1) := dkAt dk15cchances_cX0_begin_0_a 9 rfl
theorem dX0_begin_14 : decode cX0_begin 14 = .ok (.iload_n 3, 1) := dkAt dk15cchances_cX0_begin_0_a 10 rfl
theorem dX0_begin_15 : decode cX0_begin 15 = .ok (.invokevirtual 48, 3) := dkAt dk15cchances_cX0_begin_0_a 11 rfl
theorem dX0_begin_18 : decode cX0_begin 18 = .ok (.iastore, 1) := dkAt dk15cchances_cX0_begin_0_a 12 rfl
theorem dX0_begin_19 : decode cX0_begin 19 = .ok (.aload_n 0, 1) := dkAt dk15cchances_cX0_begin_0_a 13 rfl
theorem dX0_begin_20 : decode cX0_begin 20 = .ok (.getfield 17, 3) := dkAt dk15cchances_cX0_begin_0_a 14 rfl
theorem dX0_begin_23 : decode cX0_begin 23 = .ok (.iconst 0, 1) := dkAt dk15cchances_cX0_begin_0_a 15 rfl
theorem dX0_begin_24 : decode cX0_begin 24 = .ok (.aaload, 1) := dkAt dk15cchances_cX0_begin_0_a 16 rfl
theorem dX0_begin_25 : decode cX0_begin 25 = .ok (.iload_n 3, 1) := dkAt dk15cchances_cX0_begin_0_a 17 rfl
theorem dX0_begin_26 : decode cX0_begin 26 = .ok (.iload_n 3, 1) := dkAt dk15cchances_cX0_begin_0_a 18 rfl
theorem dX0_begin_27 : decode cX0_begin 27 = .ok (.iload_n 2, 1) := dkAt dk15cchances_cX0_begin_0_a 19 rfl
theorem dX0_begin_36 : decode cX0_begin 36 = .ok (.lastore, 1) := dkAt dk15cchances_cX0_begin_0_a 20 rfl
theorem dX0_begin_37 : decode cX0_begin 37 = .ok (.iinc 3 1, 3) := dkAt dk15cchances_cX0_begin_0_a 21 rfl
theorem dX0_begin_40 : decode cX0_begin 40 = .ok (.goto (-38), 3) := dkAt dk15cchances_cX0_begin_0_a 22 rfl
theorem dX0_begin_28 : decode cX0_begin 28 = .ok (.if_icmp .ne 7, 3) := dkAt dk15cchances_cX0_begin_0_a 23 rfl
theorem dX0_begin_35 : decode cX0_begin 35 = .ok (.lconst 0, 1) := dkAt dk15cchances_cX0_begin_0_a 24 rfl
theorem dX0_begin_31 : decode cX0_begin 31 = .ok (.lconst 1, 1) := dkAt dk15cchances_cX0_begin_0_a 25 rfl
theorem dX0_begin_32 : decode cX0_begin 32 = .ok (.goto 4, 3) := dkAt dk15cchances_cX0_begin_0_a 26 rfl
noncomputable def dk15cchances_cX0_spread_0 : List (Nat × Instr × Nat) := [(0, .iconst 0, 1), (1, .istore 5, 2), (3, .iload 5, 2), (5, .bipush 36, 2), (7, .if_icmp .ge 15, 3), (22, .iconst 0, 1), (23, .istore 5, 2), (25, .iload 5, 2), (27, .bipush 36, 2), (29, .if_icmp .ge 133, 3), (162, .return_, 1), (32, .aload_n 2, 1), (33, .iload 5, 2), (35, .laload, 1), (36, .lstore 6, 2), (38, .lload 6, 2), (40, .lconst 0, 1), (41, .lcmp, 1), (42, .ifCond .ne 6, 3), (48, .aload_n 1, 1), (49, .getfield 52, 3), (52, .iload 5, 2), (54, .invokestatic 44, 3), (57, .ifCond .eq 20, 3), (60, .aload 4, 2), (62, .iload 5, 2), (64, .dup2, 1), (65, .laload, 1), (66, .lload 6, 2), (68, .ldc2_w 25, 3), (71, .lmul, 1), (72, .ladd, 1), (73, .lastore, 1), (74, .goto 82, 3), (156, .iinc 5 1, 3), (159, .goto (-134), 3), (77, .aload_n 0, 1), (78, .getfield 9, 3), (81, .iload 5, 2), (83, .iaload, 1)]
set_option maxRecDepth 100000 in
theorem dk15cchances_cX0_spread_0_a : dkA cX0_spread dk15cchances_cX0_spread_0 = true := by decide +kernel
theorem dX0_spread_0 : decode cX0_spread 0 = .ok (.iconst 0, 1) := dkAt dk15cchances_cX0_spread_0_a 0 rfl
theorem dX0_spread_1 : decode cX0_spread 1 = .ok (.istore 5, 2) := dkAt dk15cchances_cX0_spread_0_a 1 rfl
theorem dX0_spread_3 : decode cX0_spread 3 = .ok (.iload 5, 2) := dkAt dk15cchances_cX0_spread_0_a 2 rfl
theorem dX0_spread_5 : decode cX0_spread 5 = .ok (.bipush 36, 2) := dkAt dk15cchances_cX0_spread_0_a 3 rfl
theorem dX0_spread_7 : decode cX0_spread 7 = .ok (.if_icmp .ge 15, 3) := dkAt dk15cchances_cX0_spread_0_a 4 rfl
theorem dX0_spread_22 : decode cX0_spread 22 = .ok (.iconst 0, 1) := dkAt dk15cchances_cX0_spread_0_a 5 rfl
theorem dX0_spread_23 : decode cX0_spread 23 = .ok (.istore 5, 2) := dkAt dk15cchances_cX0_spread_0_a 6 rfl
theorem dX0_spread_25 : decode cX0_spread 25 = .ok (.iload 5, 2) := dkAt dk15cchances_cX0_spread_0_a 7 rfl
theorem dX0_spread_27 : decode cX0_spread 27 = .ok (.bipush 36, 2) := dkAt dk15cchances_cX0_spread_0_a 8 rfl
theorem dX0_spread_29 : decode cX0_spread 29 = .ok (.if_icmp .ge 133, 3) := dkAt dk15cchances_cX0_spread_0_a 9 rfl
theorem dX0_spread_162 : decode cX0_spread 162 = .ok (.return_, 1) := dkAt dk15cchances_cX0_spread_0_a 10 rfl
theorem dX0_spread_32 : decode cX0_spread 32 = .ok (.aload_n 2, 1) := dkAt dk15cchances_cX0_spread_0_a 11 rfl
theorem dX0_spread_33 : decode cX0_spread 33 = .ok (.iload 5, 2) := dkAt dk15cchances_cX0_spread_0_a 12 rfl
theorem dX0_spread_35 : decode cX0_spread 35 = .ok (.laload, 1) := dkAt dk15cchances_cX0_spread_0_a 13 rfl
theorem dX0_spread_36 : decode cX0_spread 36 = .ok (.lstore 6, 2) := dkAt dk15cchances_cX0_spread_0_a 14 rfl
theorem dX0_spread_38 : decode cX0_spread 38 = .ok (.lload 6, 2) := dkAt dk15cchances_cX0_spread_0_a 15 rfl
theorem dX0_spread_40 : decode cX0_spread 40 = .ok (.lconst 0, 1) := dkAt dk15cchances_cX0_spread_0_a 16 rfl
theorem dX0_spread_41 : decode cX0_spread 41 = .ok (.lcmp, 1) := dkAt dk15cchances_cX0_spread_0_a 17 rfl
theorem dX0_spread_42 : decode cX0_spread 42 = .ok (.ifCond .ne 6, 3) := dkAt dk15cchances_cX0_spread_0_a 18 rfl
theorem dX0_spread_48 : decode cX0_spread 48 = .ok (.aload_n 1, 1) := dkAt dk15cchances_cX0_spread_0_a 19 rfl
theorem dX0_spread_49 : decode cX0_spread 49 = .ok (.getfield 52, 3) := dkAt dk15cchances_cX0_spread_0_a 20 rfl
theorem dX0_spread_52 : decode cX0_spread 52 = .ok (.iload 5, 2) := dkAt dk15cchances_cX0_spread_0_a 21 rfl
theorem dX0_spread_54 : decode cX0_spread 54 = .ok (.invokestatic 44, 3) := dkAt dk15cchances_cX0_spread_0_a 22 rfl
theorem dX0_spread_57 : decode cX0_spread 57 = .ok (.ifCond .eq 20, 3) := dkAt dk15cchances_cX0_spread_0_a 23 rfl
theorem dX0_spread_60 : decode cX0_spread 60 = .ok (.aload 4, 2) := dkAt dk15cchances_cX0_spread_0_a 24 rfl
theorem dX0_spread_62 : decode cX0_spread 62 = .ok (.iload 5, 2) := dkAt dk15cchances_cX0_spread_0_a 25 rfl
theorem dX0_spread_64 : decode cX0_spread 64 = .ok (.dup2, 1) := dkAt dk15cchances_cX0_spread_0_a 26 rfl
theorem dX0_spread_65 : decode cX0_spread 65 = .ok (.laload, 1) := dkAt dk15cchances_cX0_spread_0_a 27 rfl
theorem dX0_spread_66 : decode cX0_spread 66 = .ok (.lload 6, 2) := dkAt dk15cchances_cX0_spread_0_a 28 rfl
theorem dX0_spread_68 : decode cX0_spread 68 = .ok (.ldc2_w 25, 3) := dkAt dk15cchances_cX0_spread_0_a 29 rfl
theorem dX0_spread_71 : decode cX0_spread 71 = .ok (.lmul, 1) := dkAt dk15cchances_cX0_spread_0_a 30 rfl
theorem dX0_spread_72 : decode cX0_spread 72 = .ok (.ladd, 1) := dkAt dk15cchances_cX0_spread_0_a 31 rfl
theorem dX0_spread_73 : decode cX0_spread 73 = .ok (.lastore, 1) := dkAt dk15cchances_cX0_spread_0_a 32 rfl
theorem dX0_spread_74 : decode cX0_spread 74 = .ok (.goto 82, 3) := dkAt dk15cchances_cX0_spread_0_a 33 rfl
theorem dX0_spread_156 : decode cX0_spread 156 = .ok (.iinc 5 1, 3) := dkAt dk15cchances_cX0_spread_0_a 34 rfl
theorem dX0_spread_159 : decode cX0_spread 159 = .ok (.goto (-134), 3) := dkAt dk15cchances_cX0_spread_0_a 35 rfl
theorem dX0_spread_77 : decode cX0_spread 77 = .ok (.aload_n 0, 1) := dkAt dk15cchances_cX0_spread_0_a 36 rfl
theorem dX0_spread_78 : decode cX0_spread 78 = .ok (.getfield 9, 3) := dkAt dk15cchances_cX0_spread_0_a 37 rfl
theorem dX0_spread_81 : decode cX0_spread 81 = .ok (.iload 5, 2) := dkAt dk15cchances_cX0_spread_0_a 38 rfl
theorem dX0_spread_83 : decode cX0_spread 83 = .ok (.iaload, 1) := dkAt dk15cchances_cX0_spread_0_a 39 rfl
noncomputable def dk15cchances_cX0_spread_40 : List (Nat × Instr × Nat) := [(84, .istore 8, 2), (86, .aload 4, 2), (88, .iload 5, 2), (90, .iload_n 3, 1), (91, .invokestatic 56, 3), (94, .dup2, 1), (95, .laload, 1), (96, .lload 6, 2), (98, .bipush 20, 2), (100, .iconst 2, 1), (101, .iload 8, 2), (103, .imul, 1), (104, .isub, 1), (105, .i2l, 1), (106, .lmul, 1), (107, .ladd, 1), (108, .lastore, 1), (109, .aload 4, 2), (111, .iload 5, 2), (113, .iload_n 3, 1), (114, .bipush 7, 2), (116, .iadd, 1), (117, .bipush 7, 2), (119, .iand, 1), (120, .invokestatic 56, 3), (123, .dup2, 1), (124, .laload, 1), (125, .lload 6, 2), (127, .iload 8, 2), (129, .i2l, 1), (130, .lmul, 1), (131, .ladd, 1), (132, .lastore, 1), (133, .aload 4, 2), (135, .iload 5, 2), (137, .iload_n 3, 1), (138, .iconst 1, 1), (139, .iadd, 1), (140, .bipush 7, 2), (142, .iand, 1)]
set_option maxRecDepth 100000 in
theorem dk15cchances_cX0_spread_40_a : dkA cX0_spread dk15cchances_cX0_spread_40 = true := by decide +kernel
theorem dX0_spread_84 : decode cX0_spread 84 = .ok (.istore 8, 2) := dkAt dk15cchances_cX0_spread_40_a 0 rfl
theorem dX0_spread_86 : decode cX0_spread 86 = .ok (.aload 4, 2) := dkAt dk15cchances_cX0_spread_40_a 1 rfl
theorem dX0_spread_88 : decode cX0_spread 88 = .ok (.iload 5, 2) := dkAt dk15cchances_cX0_spread_40_a 2 rfl
theorem dX0_spread_90 : decode cX0_spread 90 = .ok (.iload_n 3, 1) := dkAt dk15cchances_cX0_spread_40_a 3 rfl
theorem dX0_spread_91 : decode cX0_spread 91 = .ok (.invokestatic 56, 3) := dkAt dk15cchances_cX0_spread_40_a 4 rfl
theorem dX0_spread_94 : decode cX0_spread 94 = .ok (.dup2, 1) := dkAt dk15cchances_cX0_spread_40_a 5 rfl
theorem dX0_spread_95 : decode cX0_spread 95 = .ok (.laload, 1) := dkAt dk15cchances_cX0_spread_40_a 6 rfl
theorem dX0_spread_96 : decode cX0_spread 96 = .ok (.lload 6, 2) := dkAt dk15cchances_cX0_spread_40_a 7 rfl
theorem dX0_spread_98 : decode cX0_spread 98 = .ok (.bipush 20, 2) := dkAt dk15cchances_cX0_spread_40_a 8 rfl
theorem dX0_spread_100 : decode cX0_spread 100 = .ok (.iconst 2, 1) := dkAt dk15cchances_cX0_spread_40_a 9 rfl
theorem dX0_spread_101 : decode cX0_spread 101 = .ok (.iload 8, 2) := dkAt dk15cchances_cX0_spread_40_a 10 rfl
theorem dX0_spread_103 : decode cX0_spread 103 = .ok (.imul, 1) := dkAt dk15cchances_cX0_spread_40_a 11 rfl
theorem dX0_spread_104 : decode cX0_spread 104 = .ok (.isub, 1) := dkAt dk15cchances_cX0_spread_40_a 12 rfl
theorem dX0_spread_105 : decode cX0_spread 105 = .ok (.i2l, 1) := dkAt dk15cchances_cX0_spread_40_a 13 rfl
theorem dX0_spread_106 : decode cX0_spread 106 = .ok (.lmul, 1) := dkAt dk15cchances_cX0_spread_40_a 14 rfl
theorem dX0_spread_107 : decode cX0_spread 107 = .ok (.ladd, 1) := dkAt dk15cchances_cX0_spread_40_a 15 rfl
theorem dX0_spread_108 : decode cX0_spread 108 = .ok (.lastore, 1) := dkAt dk15cchances_cX0_spread_40_a 16 rfl
theorem dX0_spread_109 : decode cX0_spread 109 = .ok (.aload 4, 2) := dkAt dk15cchances_cX0_spread_40_a 17 rfl
theorem dX0_spread_111 : decode cX0_spread 111 = .ok (.iload 5, 2) := dkAt dk15cchances_cX0_spread_40_a 18 rfl
theorem dX0_spread_113 : decode cX0_spread 113 = .ok (.iload_n 3, 1) := dkAt dk15cchances_cX0_spread_40_a 19 rfl
theorem dX0_spread_114 : decode cX0_spread 114 = .ok (.bipush 7, 2) := dkAt dk15cchances_cX0_spread_40_a 20 rfl
theorem dX0_spread_116 : decode cX0_spread 116 = .ok (.iadd, 1) := dkAt dk15cchances_cX0_spread_40_a 21 rfl
theorem dX0_spread_117 : decode cX0_spread 117 = .ok (.bipush 7, 2) := dkAt dk15cchances_cX0_spread_40_a 22 rfl
theorem dX0_spread_119 : decode cX0_spread 119 = .ok (.iand, 1) := dkAt dk15cchances_cX0_spread_40_a 23 rfl
theorem dX0_spread_120 : decode cX0_spread 120 = .ok (.invokestatic 56, 3) := dkAt dk15cchances_cX0_spread_40_a 24 rfl
theorem dX0_spread_123 : decode cX0_spread 123 = .ok (.dup2, 1) := dkAt dk15cchances_cX0_spread_40_a 25 rfl
theorem dX0_spread_124 : decode cX0_spread 124 = .ok (.laload, 1) := dkAt dk15cchances_cX0_spread_40_a 26 rfl
theorem dX0_spread_125 : decode cX0_spread 125 = .ok (.lload 6, 2) := dkAt dk15cchances_cX0_spread_40_a 27 rfl
theorem dX0_spread_127 : decode cX0_spread 127 = .ok (.iload 8, 2) := dkAt dk15cchances_cX0_spread_40_a 28 rfl
theorem dX0_spread_129 : decode cX0_spread 129 = .ok (.i2l, 1) := dkAt dk15cchances_cX0_spread_40_a 29 rfl
theorem dX0_spread_130 : decode cX0_spread 130 = .ok (.lmul, 1) := dkAt dk15cchances_cX0_spread_40_a 30 rfl
theorem dX0_spread_131 : decode cX0_spread 131 = .ok (.ladd, 1) := dkAt dk15cchances_cX0_spread_40_a 31 rfl
theorem dX0_spread_132 : decode cX0_spread 132 = .ok (.lastore, 1) := dkAt dk15cchances_cX0_spread_40_a 32 rfl
theorem dX0_spread_133 : decode cX0_spread 133 = .ok (.aload 4, 2) := dkAt dk15cchances_cX0_spread_40_a 33 rfl
theorem dX0_spread_135 : decode cX0_spread 135 = .ok (.iload 5, 2) := dkAt dk15cchances_cX0_spread_40_a 34 rfl
theorem dX0_spread_137 : decode cX0_spread 137 = .ok (.iload_n 3, 1) := dkAt dk15cchances_cX0_spread_40_a 35 rfl
theorem dX0_spread_138 : decode cX0_spread 138 = .ok (.iconst 1, 1) := dkAt dk15cchances_cX0_spread_40_a 36 rfl
theorem dX0_spread_139 : decode cX0_spread 139 = .ok (.iadd, 1) := dkAt dk15cchances_cX0_spread_40_a 37 rfl
theorem dX0_spread_140 : decode cX0_spread 140 = .ok (.bipush 7, 2) := dkAt dk15cchances_cX0_spread_40_a 38 rfl
theorem dX0_spread_142 : decode cX0_spread 142 = .ok (.iand, 1) := dkAt dk15cchances_cX0_spread_40_a 39 rfl
noncomputable def dk15cchances_cX0_spread_80 : List (Nat × Instr × Nat) := [(143, .invokestatic 56, 3), (146, .dup2, 1), (147, .laload, 1), (148, .lload 6, 2), (150, .iload 8, 2), (152, .i2l, 1), (153, .lmul, 1), (154, .ladd, 1), (155, .lastore, 1), (45, .goto 111, 3), (10, .aload 4, 2), (12, .iload 5, 2), (14, .lconst 0, 1), (15, .lastore, 1), (16, .iinc 5 1, 3), (19, .goto (-16), 3)]
set_option maxRecDepth 100000 in
theorem dk15cchances_cX0_spread_80_a : dkA cX0_spread dk15cchances_cX0_spread_80 = true := by decide +kernel
theorem dX0_spread_143 : decode cX0_spread 143 = .ok (.invokestatic 56, 3) := dkAt dk15cchances_cX0_spread_80_a 0 rfl
theorem dX0_spread_146 : decode cX0_spread 146 = .ok (.dup2, 1) := dkAt dk15cchances_cX0_spread_80_a 1 rfl
theorem dX0_spread_147 : decode cX0_spread 147 = .ok (.laload, 1) := dkAt dk15cchances_cX0_spread_80_a 2 rfl
theorem dX0_spread_148 : decode cX0_spread 148 = .ok (.lload 6, 2) := dkAt dk15cchances_cX0_spread_80_a 3 rfl
theorem dX0_spread_150 : decode cX0_spread 150 = .ok (.iload 8, 2) := dkAt dk15cchances_cX0_spread_80_a 4 rfl
theorem dX0_spread_152 : decode cX0_spread 152 = .ok (.i2l, 1) := dkAt dk15cchances_cX0_spread_80_a 5 rfl
theorem dX0_spread_153 : decode cX0_spread 153 = .ok (.lmul, 1) := dkAt dk15cchances_cX0_spread_80_a 6 rfl
theorem dX0_spread_154 : decode cX0_spread 154 = .ok (.ladd, 1) := dkAt dk15cchances_cX0_spread_80_a 7 rfl
theorem dX0_spread_155 : decode cX0_spread 155 = .ok (.lastore, 1) := dkAt dk15cchances_cX0_spread_80_a 8 rfl
theorem dX0_spread_45 : decode cX0_spread 45 = .ok (.goto 111, 3) := dkAt dk15cchances_cX0_spread_80_a 9 rfl
theorem dX0_spread_10 : decode cX0_spread 10 = .ok (.aload 4, 2) := dkAt dk15cchances_cX0_spread_80_a 10 rfl
theorem dX0_spread_12 : decode cX0_spread 12 = .ok (.iload 5, 2) := dkAt dk15cchances_cX0_spread_80_a 11 rfl
theorem dX0_spread_14 : decode cX0_spread 14 = .ok (.lconst 0, 1) := dkAt dk15cchances_cX0_spread_80_a 12 rfl
theorem dX0_spread_15 : decode cX0_spread 15 = .ok (.lastore, 1) := dkAt dk15cchances_cX0_spread_80_a 13 rfl
theorem dX0_spread_16 : decode cX0_spread 16 = .ok (.iinc 5 1, 3) := dkAt dk15cchances_cX0_spread_80_a 14 rfl
theorem dX0_spread_19 : decode cX0_spread 19 = .ok (.goto (-16), 3) := dkAt dk15cchances_cX0_spread_80_a 15 rfl
noncomputable def dk15cchances_cX0_tellHits_0 : List (Nat × Instr × Nat) := [(0, .iconst 0, 1), (1, .istore 4, 2), (3, .iload 4, 2), (5, .bipush 8, 2), (7, .if_icmp .ge 134, 3), (141, .return_, 1), (10, .iconst 0, 1), (11, .istore 5, 2), (13, .iload 5, 2), (15, .bipush 36, 2), (17, .if_icmp .ge 118, 3), (135, .iinc 4 1, 3), (138, .goto (-135), 3), (20, .aload_n 0, 1), (21, .getfield 22, 3), (24, .iload 4, 2), (26, .aaload, 1), (27, .iload 5, 2), (29, .aload_n 1, 1), (30, .getfield 52, 3), (33, .iload 5, 2), (35, .invokestatic 44, 3), (38, .ifCond .eq 15, 3), (41, .bipush 20, 2), (43, .lload_n 2, 1), (44, .iload 5, 2), (46, .invokestatic 73, 3), (49, .imul, 1), (50, .goto 78, 3), (128, .iastore, 1), (129, .iinc 5 1, 3), (132, .goto (-119), 3), (53, .bipush 20, 2), (55, .iconst 2, 1), (56, .aload_n 0, 1), (57, .getfield 9, 3), (60, .iload 5, 2), (62, .iaload, 1), (63, .imul, 1), (64, .isub, 1)]
set_option maxRecDepth 100000 in
theorem dk15cchances_cX0_tellHits_0_a : dkA cX0_tellHits dk15cchances_cX0_tellHits_0 = true := by decide +kernel
theorem dX0_tellHits_0 : decode cX0_tellHits 0 = .ok (.iconst 0, 1) := dkAt dk15cchances_cX0_tellHits_0_a 0 rfl
theorem dX0_tellHits_1 : decode cX0_tellHits 1 = .ok (.istore 4, 2) := dkAt dk15cchances_cX0_tellHits_0_a 1 rfl
theorem dX0_tellHits_3 : decode cX0_tellHits 3 = .ok (.iload 4, 2) := dkAt dk15cchances_cX0_tellHits_0_a 2 rfl
theorem dX0_tellHits_5 : decode cX0_tellHits 5 = .ok (.bipush 8, 2) := dkAt dk15cchances_cX0_tellHits_0_a 3 rfl
theorem dX0_tellHits_7 : decode cX0_tellHits 7 = .ok (.if_icmp .ge 134, 3) := dkAt dk15cchances_cX0_tellHits_0_a 4 rfl
theorem dX0_tellHits_141 : decode cX0_tellHits 141 = .ok (.return_, 1) := dkAt dk15cchances_cX0_tellHits_0_a 5 rfl
theorem dX0_tellHits_10 : decode cX0_tellHits 10 = .ok (.iconst 0, 1) := dkAt dk15cchances_cX0_tellHits_0_a 6 rfl
theorem dX0_tellHits_11 : decode cX0_tellHits 11 = .ok (.istore 5, 2) := dkAt dk15cchances_cX0_tellHits_0_a 7 rfl
theorem dX0_tellHits_13 : decode cX0_tellHits 13 = .ok (.iload 5, 2) := dkAt dk15cchances_cX0_tellHits_0_a 8 rfl
theorem dX0_tellHits_15 : decode cX0_tellHits 15 = .ok (.bipush 36, 2) := dkAt dk15cchances_cX0_tellHits_0_a 9 rfl
theorem dX0_tellHits_17 : decode cX0_tellHits 17 = .ok (.if_icmp .ge 118, 3) := dkAt dk15cchances_cX0_tellHits_0_a 10 rfl
theorem dX0_tellHits_135 : decode cX0_tellHits 135 = .ok (.iinc 4 1, 3) := dkAt dk15cchances_cX0_tellHits_0_a 11 rfl
theorem dX0_tellHits_138 : decode cX0_tellHits 138 = .ok (.goto (-135), 3) := dkAt dk15cchances_cX0_tellHits_0_a 12 rfl
theorem dX0_tellHits_20 : decode cX0_tellHits 20 = .ok (.aload_n 0, 1) := dkAt dk15cchances_cX0_tellHits_0_a 13 rfl
theorem dX0_tellHits_21 : decode cX0_tellHits 21 = .ok (.getfield 22, 3) := dkAt dk15cchances_cX0_tellHits_0_a 14 rfl
theorem dX0_tellHits_24 : decode cX0_tellHits 24 = .ok (.iload 4, 2) := dkAt dk15cchances_cX0_tellHits_0_a 15 rfl
theorem dX0_tellHits_26 : decode cX0_tellHits 26 = .ok (.aaload, 1) := dkAt dk15cchances_cX0_tellHits_0_a 16 rfl
theorem dX0_tellHits_27 : decode cX0_tellHits 27 = .ok (.iload 5, 2) := dkAt dk15cchances_cX0_tellHits_0_a 17 rfl
theorem dX0_tellHits_29 : decode cX0_tellHits 29 = .ok (.aload_n 1, 1) := dkAt dk15cchances_cX0_tellHits_0_a 18 rfl
theorem dX0_tellHits_30 : decode cX0_tellHits 30 = .ok (.getfield 52, 3) := dkAt dk15cchances_cX0_tellHits_0_a 19 rfl
theorem dX0_tellHits_33 : decode cX0_tellHits 33 = .ok (.iload 5, 2) := dkAt dk15cchances_cX0_tellHits_0_a 20 rfl
theorem dX0_tellHits_35 : decode cX0_tellHits 35 = .ok (.invokestatic 44, 3) := dkAt dk15cchances_cX0_tellHits_0_a 21 rfl
theorem dX0_tellHits_38 : decode cX0_tellHits 38 = .ok (.ifCond .eq 15, 3) := dkAt dk15cchances_cX0_tellHits_0_a 22 rfl
theorem dX0_tellHits_41 : decode cX0_tellHits 41 = .ok (.bipush 20, 2) := dkAt dk15cchances_cX0_tellHits_0_a 23 rfl
theorem dX0_tellHits_43 : decode cX0_tellHits 43 = .ok (.lload_n 2, 1) := dkAt dk15cchances_cX0_tellHits_0_a 24 rfl
theorem dX0_tellHits_44 : decode cX0_tellHits 44 = .ok (.iload 5, 2) := dkAt dk15cchances_cX0_tellHits_0_a 25 rfl
theorem dX0_tellHits_46 : decode cX0_tellHits 46 = .ok (.invokestatic 73, 3) := dkAt dk15cchances_cX0_tellHits_0_a 26 rfl
theorem dX0_tellHits_49 : decode cX0_tellHits 49 = .ok (.imul, 1) := dkAt dk15cchances_cX0_tellHits_0_a 27 rfl
theorem dX0_tellHits_50 : decode cX0_tellHits 50 = .ok (.goto 78, 3) := dkAt dk15cchances_cX0_tellHits_0_a 28 rfl
theorem dX0_tellHits_128 : decode cX0_tellHits 128 = .ok (.iastore, 1) := dkAt dk15cchances_cX0_tellHits_0_a 29 rfl
theorem dX0_tellHits_129 : decode cX0_tellHits 129 = .ok (.iinc 5 1, 3) := dkAt dk15cchances_cX0_tellHits_0_a 30 rfl
theorem dX0_tellHits_132 : decode cX0_tellHits 132 = .ok (.goto (-119), 3) := dkAt dk15cchances_cX0_tellHits_0_a 31 rfl
theorem dX0_tellHits_53 : decode cX0_tellHits 53 = .ok (.bipush 20, 2) := dkAt dk15cchances_cX0_tellHits_0_a 32 rfl
theorem dX0_tellHits_55 : decode cX0_tellHits 55 = .ok (.iconst 2, 1) := dkAt dk15cchances_cX0_tellHits_0_a 33 rfl
theorem dX0_tellHits_56 : decode cX0_tellHits 56 = .ok (.aload_n 0, 1) := dkAt dk15cchances_cX0_tellHits_0_a 34 rfl
theorem dX0_tellHits_57 : decode cX0_tellHits 57 = .ok (.getfield 9, 3) := dkAt dk15cchances_cX0_tellHits_0_a 35 rfl
theorem dX0_tellHits_60 : decode cX0_tellHits 60 = .ok (.iload 5, 2) := dkAt dk15cchances_cX0_tellHits_0_a 36 rfl
theorem dX0_tellHits_62 : decode cX0_tellHits 62 = .ok (.iaload, 1) := dkAt dk15cchances_cX0_tellHits_0_a 37 rfl
theorem dX0_tellHits_63 : decode cX0_tellHits 63 = .ok (.imul, 1) := dkAt dk15cchances_cX0_tellHits_0_a 38 rfl
theorem dX0_tellHits_64 : decode cX0_tellHits 64 = .ok (.isub, 1) := dkAt dk15cchances_cX0_tellHits_0_a 39 rfl
noncomputable def dk15cchances_cX0_tellHits_40 : List (Nat × Instr × Nat) := [(65, .lload_n 2, 1), (66, .iload 5, 2), (68, .iload 4, 2), (70, .invokestatic 56, 3), (73, .invokestatic 73, 3), (76, .imul, 1), (77, .aload_n 0, 1), (78, .getfield 9, 3), (81, .iload 5, 2), (83, .iaload, 1), (84, .lload_n 2, 1), (85, .iload 5, 2), (87, .iload 4, 2), (89, .bipush 7, 2), (91, .iadd, 1), (92, .bipush 7, 2), (94, .iand, 1), (95, .invokestatic 56, 3), (98, .invokestatic 73, 3), (101, .imul, 1), (102, .iadd, 1), (103, .aload_n 0, 1), (104, .getfield 9, 3), (107, .iload 5, 2), (109, .iaload, 1), (110, .lload_n 2, 1), (111, .iload 5, 2), (113, .iload 4, 2), (115, .iconst 1, 1), (116, .iadd, 1), (117, .bipush 7, 2), (119, .iand, 1), (120, .invokestatic 56, 3), (123, .invokestatic 73, 3), (126, .imul, 1), (127, .iadd, 1)]
set_option maxRecDepth 100000 in
theorem dk15cchances_cX0_tellHits_40_a : dkA cX0_tellHits dk15cchances_cX0_tellHits_40 = true := by decide +kernel
theorem dX0_tellHits_65 : decode cX0_tellHits 65 = .ok (.lload_n 2, 1) := dkAt dk15cchances_cX0_tellHits_40_a 0 rfl
theorem dX0_tellHits_66 : decode cX0_tellHits 66 = .ok (.iload 5, 2) := dkAt dk15cchances_cX0_tellHits_40_a 1 rfl
theorem dX0_tellHits_68 : decode cX0_tellHits 68 = .ok (.iload 4, 2) := dkAt dk15cchances_cX0_tellHits_40_a 2 rfl
theorem dX0_tellHits_70 : decode cX0_tellHits 70 = .ok (.invokestatic 56, 3) := dkAt dk15cchances_cX0_tellHits_40_a 3 rfl
theorem dX0_tellHits_73 : decode cX0_tellHits 73 = .ok (.invokestatic 73, 3) := dkAt dk15cchances_cX0_tellHits_40_a 4 rfl
theorem dX0_tellHits_76 : decode cX0_tellHits 76 = .ok (.imul, 1) := dkAt dk15cchances_cX0_tellHits_40_a 5 rfl
theorem dX0_tellHits_77 : decode cX0_tellHits 77 = .ok (.aload_n 0, 1) := dkAt dk15cchances_cX0_tellHits_40_a 6 rfl
theorem dX0_tellHits_78 : decode cX0_tellHits 78 = .ok (.getfield 9, 3) := dkAt dk15cchances_cX0_tellHits_40_a 7 rfl
theorem dX0_tellHits_81 : decode cX0_tellHits 81 = .ok (.iload 5, 2) := dkAt dk15cchances_cX0_tellHits_40_a 8 rfl
theorem dX0_tellHits_83 : decode cX0_tellHits 83 = .ok (.iaload, 1) := dkAt dk15cchances_cX0_tellHits_40_a 9 rfl
theorem dX0_tellHits_84 : decode cX0_tellHits 84 = .ok (.lload_n 2, 1) := dkAt dk15cchances_cX0_tellHits_40_a 10 rfl
theorem dX0_tellHits_85 : decode cX0_tellHits 85 = .ok (.iload 5, 2) := dkAt dk15cchances_cX0_tellHits_40_a 11 rfl
theorem dX0_tellHits_87 : decode cX0_tellHits 87 = .ok (.iload 4, 2) := dkAt dk15cchances_cX0_tellHits_40_a 12 rfl
theorem dX0_tellHits_89 : decode cX0_tellHits 89 = .ok (.bipush 7, 2) := dkAt dk15cchances_cX0_tellHits_40_a 13 rfl
theorem dX0_tellHits_91 : decode cX0_tellHits 91 = .ok (.iadd, 1) := dkAt dk15cchances_cX0_tellHits_40_a 14 rfl
theorem dX0_tellHits_92 : decode cX0_tellHits 92 = .ok (.bipush 7, 2) := dkAt dk15cchances_cX0_tellHits_40_a 15 rfl
theorem dX0_tellHits_94 : decode cX0_tellHits 94 = .ok (.iand, 1) := dkAt dk15cchances_cX0_tellHits_40_a 16 rfl
theorem dX0_tellHits_95 : decode cX0_tellHits 95 = .ok (.invokestatic 56, 3) := dkAt dk15cchances_cX0_tellHits_40_a 17 rfl
theorem dX0_tellHits_98 : decode cX0_tellHits 98 = .ok (.invokestatic 73, 3) := dkAt dk15cchances_cX0_tellHits_40_a 18 rfl
theorem dX0_tellHits_101 : decode cX0_tellHits 101 = .ok (.imul, 1) := dkAt dk15cchances_cX0_tellHits_40_a 19 rfl
theorem dX0_tellHits_102 : decode cX0_tellHits 102 = .ok (.iadd, 1) := dkAt dk15cchances_cX0_tellHits_40_a 20 rfl
theorem dX0_tellHits_103 : decode cX0_tellHits 103 = .ok (.aload_n 0, 1) := dkAt dk15cchances_cX0_tellHits_40_a 21 rfl
theorem dX0_tellHits_104 : decode cX0_tellHits 104 = .ok (.getfield 9, 3) := dkAt dk15cchances_cX0_tellHits_40_a 22 rfl
theorem dX0_tellHits_107 : decode cX0_tellHits 107 = .ok (.iload 5, 2) := dkAt dk15cchances_cX0_tellHits_40_a 23 rfl
theorem dX0_tellHits_109 : decode cX0_tellHits 109 = .ok (.iaload, 1) := dkAt dk15cchances_cX0_tellHits_40_a 24 rfl
theorem dX0_tellHits_110 : decode cX0_tellHits 110 = .ok (.lload_n 2, 1) := dkAt dk15cchances_cX0_tellHits_40_a 25 rfl
theorem dX0_tellHits_111 : decode cX0_tellHits 111 = .ok (.iload 5, 2) := dkAt dk15cchances_cX0_tellHits_40_a 26 rfl
theorem dX0_tellHits_113 : decode cX0_tellHits 113 = .ok (.iload 4, 2) := dkAt dk15cchances_cX0_tellHits_40_a 27 rfl
theorem dX0_tellHits_115 : decode cX0_tellHits 115 = .ok (.iconst 1, 1) := dkAt dk15cchances_cX0_tellHits_40_a 28 rfl
theorem dX0_tellHits_116 : decode cX0_tellHits 116 = .ok (.iadd, 1) := dkAt dk15cchances_cX0_tellHits_40_a 29 rfl
theorem dX0_tellHits_117 : decode cX0_tellHits 117 = .ok (.bipush 7, 2) := dkAt dk15cchances_cX0_tellHits_40_a 30 rfl
theorem dX0_tellHits_119 : decode cX0_tellHits 119 = .ok (.iand, 1) := dkAt dk15cchances_cX0_tellHits_40_a 31 rfl
theorem dX0_tellHits_120 : decode cX0_tellHits 120 = .ok (.invokestatic 56, 3) := dkAt dk15cchances_cX0_tellHits_40_a 32 rfl
theorem dX0_tellHits_123 : decode cX0_tellHits 123 = .ok (.invokestatic 73, 3) := dkAt dk15cchances_cX0_tellHits_40_a 33 rfl
theorem dX0_tellHits_126 : decode cX0_tellHits 126 = .ok (.imul, 1) := dkAt dk15cchances_cX0_tellHits_40_a 34 rfl
theorem dX0_tellHits_127 : decode cX0_tellHits 127 = .ok (.iadd, 1) := dkAt dk15cchances_cX0_tellHits_40_a 35 rfl
noncomputable def dk15cchances_cX0_tryLast_0 : List (Nat × Instr × Nat) := [(0, .iconst 0, 1), (1, .istore_n 3, 1), (2, .iload_n 3, 1), (3, .bipush 8, 2), (5, .if_icmp .ge 74, 3), (79, .return_, 1), (8, .lconst 0, 1), (9, .lstore 4, 2), (11, .iconst 0, 1), (12, .istore 6, 2), (14, .iload 6, 2), (16, .bipush 36, 2), (18, .if_icmp .ge 29, 3), (47, .lload 4, 2), (49, .aload_n 0, 1), (50, .getfield 66, 3), (53, .lcmp, 1), (54, .ifCond .le 19, 3), (73, .iinc 3 1, 3), (76, .goto (-74), 3), (57, .aload_n 0, 1), (58, .lload 4, 2), (60, .putfield 66, 3), (63, .aload_n 0, 1), (64, .iload_n 2, 1), (65, .bipush 8, 2), (67, .imul, 1), (68, .iload_n 3, 1), (69, .iadd, 1), (70, .putfield 77, 3), (21, .lload 4, 2), (23, .aload_n 1, 1), (24, .iload 6, 2), (26, .laload, 1), (27, .aload_n 0, 1), (28, .getfield 22, 3), (31, .iload_n 3, 1), (32, .aaload, 1), (33, .iload 6, 2), (35, .iaload, 1)]
set_option maxRecDepth 100000 in
theorem dk15cchances_cX0_tryLast_0_a : dkA cX0_tryLast dk15cchances_cX0_tryLast_0 = true := by decide +kernel
theorem dX0_tryLast_0 : decode cX0_tryLast 0 = .ok (.iconst 0, 1) := dkAt dk15cchances_cX0_tryLast_0_a 0 rfl
theorem dX0_tryLast_1 : decode cX0_tryLast 1 = .ok (.istore_n 3, 1) := dkAt dk15cchances_cX0_tryLast_0_a 1 rfl
theorem dX0_tryLast_2 : decode cX0_tryLast 2 = .ok (.iload_n 3, 1) := dkAt dk15cchances_cX0_tryLast_0_a 2 rfl
theorem dX0_tryLast_3 : decode cX0_tryLast 3 = .ok (.bipush 8, 2) := dkAt dk15cchances_cX0_tryLast_0_a 3 rfl
theorem dX0_tryLast_5 : decode cX0_tryLast 5 = .ok (.if_icmp .ge 74, 3) := dkAt dk15cchances_cX0_tryLast_0_a 4 rfl
theorem dX0_tryLast_79 : decode cX0_tryLast 79 = .ok (.return_, 1) := dkAt dk15cchances_cX0_tryLast_0_a 5 rfl
theorem dX0_tryLast_8 : decode cX0_tryLast 8 = .ok (.lconst 0, 1) := dkAt dk15cchances_cX0_tryLast_0_a 6 rfl
theorem dX0_tryLast_9 : decode cX0_tryLast 9 = .ok (.lstore 4, 2) := dkAt dk15cchances_cX0_tryLast_0_a 7 rfl
theorem dX0_tryLast_11 : decode cX0_tryLast 11 = .ok (.iconst 0, 1) := dkAt dk15cchances_cX0_tryLast_0_a 8 rfl
theorem dX0_tryLast_12 : decode cX0_tryLast 12 = .ok (.istore 6, 2) := dkAt dk15cchances_cX0_tryLast_0_a 9 rfl
theorem dX0_tryLast_14 : decode cX0_tryLast 14 = .ok (.iload 6, 2) := dkAt dk15cchances_cX0_tryLast_0_a 10 rfl
theorem dX0_tryLast_16 : decode cX0_tryLast 16 = .ok (.bipush 36, 2) := dkAt dk15cchances_cX0_tryLast_0_a 11 rfl
theorem dX0_tryLast_18 : decode cX0_tryLast 18 = .ok (.if_icmp .ge 29, 3) := dkAt dk15cchances_cX0_tryLast_0_a 12 rfl
theorem dX0_tryLast_47 : decode cX0_tryLast 47 = .ok (.lload 4, 2) := dkAt dk15cchances_cX0_tryLast_0_a 13 rfl
theorem dX0_tryLast_49 : decode cX0_tryLast 49 = .ok (.aload_n 0, 1) := dkAt dk15cchances_cX0_tryLast_0_a 14 rfl
theorem dX0_tryLast_50 : decode cX0_tryLast 50 = .ok (.getfield 66, 3) := dkAt dk15cchances_cX0_tryLast_0_a 15 rfl
theorem dX0_tryLast_53 : decode cX0_tryLast 53 = .ok (.lcmp, 1) := dkAt dk15cchances_cX0_tryLast_0_a 16 rfl
theorem dX0_tryLast_54 : decode cX0_tryLast 54 = .ok (.ifCond .le 19, 3) := dkAt dk15cchances_cX0_tryLast_0_a 17 rfl
theorem dX0_tryLast_73 : decode cX0_tryLast 73 = .ok (.iinc 3 1, 3) := dkAt dk15cchances_cX0_tryLast_0_a 18 rfl
theorem dX0_tryLast_76 : decode cX0_tryLast 76 = .ok (.goto (-74), 3) := dkAt dk15cchances_cX0_tryLast_0_a 19 rfl
theorem dX0_tryLast_57 : decode cX0_tryLast 57 = .ok (.aload_n 0, 1) := dkAt dk15cchances_cX0_tryLast_0_a 20 rfl
theorem dX0_tryLast_58 : decode cX0_tryLast 58 = .ok (.lload 4, 2) := dkAt dk15cchances_cX0_tryLast_0_a 21 rfl
theorem dX0_tryLast_60 : decode cX0_tryLast 60 = .ok (.putfield 66, 3) := dkAt dk15cchances_cX0_tryLast_0_a 22 rfl
theorem dX0_tryLast_63 : decode cX0_tryLast 63 = .ok (.aload_n 0, 1) := dkAt dk15cchances_cX0_tryLast_0_a 23 rfl
theorem dX0_tryLast_64 : decode cX0_tryLast 64 = .ok (.iload_n 2, 1) := dkAt dk15cchances_cX0_tryLast_0_a 24 rfl
theorem dX0_tryLast_65 : decode cX0_tryLast 65 = .ok (.bipush 8, 2) := dkAt dk15cchances_cX0_tryLast_0_a 25 rfl
theorem dX0_tryLast_67 : decode cX0_tryLast 67 = .ok (.imul, 1) := dkAt dk15cchances_cX0_tryLast_0_a 26 rfl
theorem dX0_tryLast_68 : decode cX0_tryLast 68 = .ok (.iload_n 3, 1) := dkAt dk15cchances_cX0_tryLast_0_a 27 rfl
theorem dX0_tryLast_69 : decode cX0_tryLast 69 = .ok (.iadd, 1) := dkAt dk15cchances_cX0_tryLast_0_a 28 rfl
theorem dX0_tryLast_70 : decode cX0_tryLast 70 = .ok (.putfield 77, 3) := dkAt dk15cchances_cX0_tryLast_0_a 29 rfl
theorem dX0_tryLast_21 : decode cX0_tryLast 21 = .ok (.lload 4, 2) := dkAt dk15cchances_cX0_tryLast_0_a 30 rfl
theorem dX0_tryLast_23 : decode cX0_tryLast 23 = .ok (.aload_n 1, 1) := dkAt dk15cchances_cX0_tryLast_0_a 31 rfl
theorem dX0_tryLast_24 : decode cX0_tryLast 24 = .ok (.iload 6, 2) := dkAt dk15cchances_cX0_tryLast_0_a 32 rfl
theorem dX0_tryLast_26 : decode cX0_tryLast 26 = .ok (.laload, 1) := dkAt dk15cchances_cX0_tryLast_0_a 33 rfl
theorem dX0_tryLast_27 : decode cX0_tryLast 27 = .ok (.aload_n 0, 1) := dkAt dk15cchances_cX0_tryLast_0_a 34 rfl
theorem dX0_tryLast_28 : decode cX0_tryLast 28 = .ok (.getfield 22, 3) := dkAt dk15cchances_cX0_tryLast_0_a 35 rfl
theorem dX0_tryLast_31 : decode cX0_tryLast 31 = .ok (.iload_n 3, 1) := dkAt dk15cchances_cX0_tryLast_0_a 36 rfl
theorem dX0_tryLast_32 : decode cX0_tryLast 32 = .ok (.aaload, 1) := dkAt dk15cchances_cX0_tryLast_0_a 37 rfl
theorem dX0_tryLast_33 : decode cX0_tryLast 33 = .ok (.iload 6, 2) := dkAt dk15cchances_cX0_tryLast_0_a 38 rfl
theorem dX0_tryLast_35 : decode cX0_tryLast 35 = .ok (.iaload, 1) := dkAt dk15cchances_cX0_tryLast_0_a 39 rfl
noncomputable def dk15cchances_cX0_tryLast_40 : List (Nat × Instr × Nat) := [(36, .i2l, 1), (37, .lmul, 1), (38, .ladd, 1), (39, .lstore 4, 2), (41, .iinc 6 1, 3), (44, .goto (-30), 3)]
set_option maxRecDepth 100000 in
theorem dk15cchances_cX0_tryLast_40_a : dkA cX0_tryLast dk15cchances_cX0_tryLast_40 = true := by decide +kernel
theorem dX0_tryLast_36 : decode cX0_tryLast 36 = .ok (.i2l, 1) := dkAt dk15cchances_cX0_tryLast_40_a 0 rfl
theorem dX0_tryLast_37 : decode cX0_tryLast 37 = .ok (.lmul, 1) := dkAt dk15cchances_cX0_tryLast_40_a 1 rfl
theorem dX0_tryLast_38 : decode cX0_tryLast 38 = .ok (.ladd, 1) := dkAt dk15cchances_cX0_tryLast_40_a 2 rfl
theorem dX0_tryLast_39 : decode cX0_tryLast 39 = .ok (.lstore 4, 2) := dkAt dk15cchances_cX0_tryLast_40_a 3 rfl
theorem dX0_tryLast_41 : decode cX0_tryLast 41 = .ok (.iinc 6 1, 3) := dkAt dk15cchances_cX0_tryLast_40_a 4 rfl
theorem dX0_tryLast_44 : decode cX0_tryLast 44 = .ok (.goto (-30), 3) := dkAt dk15cchances_cX0_tryLast_40_a 5 rfl
noncomputable def dk15cchances_cX0_foundWay_0 : List (Nat × Instr × Nat) := [(0, .aload_n 0, 1), (1, .getfield 77, 3), (4, .iconst 3, 1), (5, .iload_n 1, 1), (6, .iconst 1, 1), (7, .isub, 1), (8, .iload_n 2, 1), (9, .isub, 1), (10, .imul, 1), (11, .ishr, 1), (12, .bipush 7, 2), (14, .iand, 1), (15, .ireturn, 1)]
set_option maxRecDepth 100000 in
theorem dk15cchances_cX0_foundWay_0_a : dkA cX0_foundWay dk15cchances_cX0_foundWay_0 = true := by decide +kernel
theorem dX0_foundWay_0 : decode cX0_foundWay 0 = .ok (.aload_n 0, 1) := dkAt dk15cchances_cX0_foundWay_0_a 0 rfl
theorem dX0_foundWay_1 : decode cX0_foundWay 1 = .ok (.getfield 77, 3) := dkAt dk15cchances_cX0_foundWay_0_a 1 rfl
theorem dX0_foundWay_4 : decode cX0_foundWay 4 = .ok (.iconst 3, 1) := dkAt dk15cchances_cX0_foundWay_0_a 2 rfl
theorem dX0_foundWay_5 : decode cX0_foundWay 5 = .ok (.iload_n 1, 1) := dkAt dk15cchances_cX0_foundWay_0_a 3 rfl
theorem dX0_foundWay_6 : decode cX0_foundWay 6 = .ok (.iconst 1, 1) := dkAt dk15cchances_cX0_foundWay_0_a 4 rfl
theorem dX0_foundWay_7 : decode cX0_foundWay 7 = .ok (.isub, 1) := dkAt dk15cchances_cX0_foundWay_0_a 5 rfl
theorem dX0_foundWay_8 : decode cX0_foundWay 8 = .ok (.iload_n 2, 1) := dkAt dk15cchances_cX0_foundWay_0_a 6 rfl
theorem dX0_foundWay_9 : decode cX0_foundWay 9 = .ok (.isub, 1) := dkAt dk15cchances_cX0_foundWay_0_a 7 rfl
theorem dX0_foundWay_10 : decode cX0_foundWay 10 = .ok (.imul, 1) := dkAt dk15cchances_cX0_foundWay_0_a 8 rfl
theorem dX0_foundWay_11 : decode cX0_foundWay 11 = .ok (.ishr, 1) := dkAt dk15cchances_cX0_foundWay_0_a 9 rfl
theorem dX0_foundWay_12 : decode cX0_foundWay 12 = .ok (.bipush 7, 2) := dkAt dk15cchances_cX0_foundWay_0_a 10 rfl
theorem dX0_foundWay_14 : decode cX0_foundWay 14 = .ok (.iand, 1) := dkAt dk15cchances_cX0_foundWay_0_a 11 rfl
theorem dX0_foundWay_15 : decode cX0_foundWay 15 = .ok (.ireturn, 1) := dkAt dk15cchances_cX0_foundWay_0_a 12 rfl
theorem and7 (x : Int32) : ∃ k : Nat, k < 8 ∧ x &&& 7 = nI k := pk_andE x (m := 7) 3 (by decide)
theorem and1 {i r : Nat} (hi : i < 100) (h : i % 2 = r) : nI i &&& 1 = nI r := (pk_andN (n := i) (by omega) 1 (by decide)).trans (congrArg nI h)
theorem eight {k : Nat} (h : k < 8) : k = 0 ∨ k = 1 ∨ k = 2 ∨ k = 3 ∨ k = 4 ∨ k = 5 ∨ k = 6 ∨ k = 7 := by omega
section
variable {p : Program} {l : Launch} {e : Env} {R : Room} {s : State} {m : MethodId} {args : Array Value} {below : List Frame} {meth : Method} {c : Code} {H : Heap} {locs : List Loc} {cells slots : Nat} {Q : State → Prop} {cc : ByteArray} {pc : Nat} {ls : Array Slot} {rest : List Value} {D : va_G} {cl : List vw_C} {a : Nat} {tys : List (ClassId × FieldType)} {ws : va_W}
/-- a place of an array of arrays is read -/
theorem va_alda (hexec : p.tables.exec = Jvm.exec) (hb : c.code = cc) (hK : va_K D cl tys s) (hP : va_P D cl ws H) (q0 t0 : Nat) {cA : ClassId} {ty : FieldType} {n : Nat} {f : Nat → Option Nat} (ha : ws[q0]? = some (zaR a cA n f)) (ht : tys[t0]? = some (cA, .array ty)) {i : Int32} (hin : vp_in i n) (hdg : decode cc pc = .ok (.aaload, 1))
    (kk : W p l e R s m args below meth c H locs cells slots Q (F0 m (pc + 1) ls (va_rf (f i.toNatClampNeg) :: rest))) : W p l e R s m args below meth c H locs cells slots Q (F0 m pc ls (.int i :: .ref a :: rest)) := by
  have hlt : i.toNatClampNeg < n := Nat.not_le.mp fun q => hin (Or.inr q)
  exact W.aald (v := va_rf (f i.toNatClampNeg)) (ty := .array ty) hexec hb (hP q0 _ ha) ((hK.2 t0 _ ht).1 n (fun j => va_rf (f j))) rfl (fun q => by cases q) (by show ¬ (i < 0 ∨ (arrV _ _ _).slots.size ≤ _); rw [arrV_size]; exact hin) (by show (arrV _ _ _).slots[_]? = _; rw [arrV_read _ _ hlt]) rfl rfl hdg kk
end

theorem kc_hit_0 : (.initialized RX11 : Cond) ∈ wsX0_hit := kc_of 63 rfl rfl rfl
theorem kc_hit_1 : (.static yX11_isIn : Cond) ∈ wsX0_hit := kc_of 840 rfl rfl rfl
set_option maxHeartbeats 4000000 in
set_option maxRecDepth 100000 in
theorem c_hit (l : Launch) (dC : Nat → ClassId) (dI : Nat → Nat → Nat) (gd : Nat → Nat) (mk : Int64) (x : Int32) : Met l yX0_hit wsX0_hit ({ frames := 1, cells := 0, slots := 0, locals := 22 } : Room) (va_Pc [.long mk, .int x] (fun U => Gl gd (fun _ => False) U)) (vp_Si (fun r => True)) 0 0 (fun _ => False) := by
  refine met_ofQ (cc := cX0_hit) (maxL := 3) (ret := (some .int)) (by decide) rfl ?_
  intro p e s m args below meth c s₁ Q B hml hv hQ
  obtain ⟨rfl, hG⟩ := hv
  have hx := B.exec
  have hb := B.bytes
  have hr := B.returns
  have hts := atoms_spec (ws := wsX0_hit) B.pre
  have hown : s.vm.findClass RX0 = some m.cls := findClass_of_methodNamed B.named
  have hlocks := B.notSynchronized
  obtain ⟨A, hAe⟩ : ∃ A : Nat → Prop, A = fun _ => False := ⟨_, rfl⟩
  rw [← hAe] at hQ hG
  have hS : va_S A s.heap s.heap [] := va_S.rf
  have hl := lv_entry [.long mk, .int x] (n := 3) (Nat.le_of_ble_eq_true rfl)
  rw [lg_entry_eq]
  generalize (lg_sl [.long mk, .int x] ++ List.replicate (3 - (lg_sl [.long mk, .int x]).length) Slot.unset).toArray = ls at hl ⊢
  generalize hag : ([.long mk, .int x] : List Value).toArray = args at hts hQ ⊢
  have hl : lv_has ls 3 [(0, .long mk), (2, .int x)] := hl
  refine lv_lload_n hx hb dX0_hit_0 rfl (lv_at hl 0 rfl) ?_
  refine lv_iload_n hx hb dX0_hit_1 rfl (lv_at hl 1 rfl) ?_
  refine vp_callSi (va_runSN (As := [.long mk, .int x]) (rest := []) ⟨hx, hb, hml, hown, hts⟩ (c_isIn l dC dI mk x) ⟨va_cnB 2 hts ggX0_hit_X11_isIn rfl rfl rfl (hG.1 (.methodLinkNest RX0 44 yX11_isIn "MistHeaps") (by decide +kernel)) (hts (.initialized RX11) kc_hit_0) (by decide +kernel) ⟨Nat.le_of_ble_eq_true rfl, Nat.le_of_ble_eq_true rfl⟩, (hts (.static yX11_isIn) kc_hit_1), trivial⟩ ⟨fun a U g mk q => ⟨q.1, trivial⟩, fun U hU hW => ⟨rfl, trivial⟩⟩ rfl rfl hl.1 rfl (lv_room (Nat.le_of_ble_eq_true rfl)) dX0_hit_2 ⟨Nat.le_of_ble_eq_true rfl, Nat.le_of_ble_eq_true rfl⟩).run (fun r_1 hw_2 => ?_)
  rcases hw_2 with rfl | rfl
  · skip
    refine lv_if_eq (tgt := 12) hx hb dX0_hit_5 (by decide) (fun c_3 => absurd c_3 (by decide)) (fun _ => ?_)
    refine lv_iconst (v := 1) hx hb dX0_hit_8 (by decide) ?_
    refine lv_goto (tgt := 13) hx hb dX0_hit_9 (by decide) ?_
    rw [hQ]
    exact W.iret (v := 1) hx hb hr (fun tQ htQ hWQ => ⟨1, rfl, trivial, by rw [htQ]⟩) (fun q hq => absurd hq List.not_mem_nil) dX0_hit_13
  · skip
    refine lv_if_eq (tgt := 12) hx hb dX0_hit_5 (by decide) (fun _ => ?_) (fun c_4 => absurd c_4 (by decide))
    refine lv_iconst (v := 0) hx hb dX0_hit_12 (by decide) ?_
    rw [hQ]
    exact W.iret (v := 0) hx hb hr (fun tQ htQ hWQ => ⟨0, rfl, trivial, by rw [htQ]⟩) (fun q hq => absurd hq List.not_mem_nil) dX0_hit_13

theorem kc_xBegin_0 : ∀ w ∈ wsX00, w ∈ wsX0_begin := fun w h => List.mem_cons_of_mem _ (gin_wsX00 w h)
theorem kc_xBegin_1 : (.fieldLink RX0 9 "MistHeaps$Chances" "drifts" "[I" : Cond) ∈ wsX0_begin := kc_of 287 rfl rfl rfl
theorem kc_xBegin_2 : (.fieldLink RX0 17 "MistHeaps$Chances" "times" "[[J" : Cond) ∈ wsX0_begin := kc_of 288 rfl rfl rfl
set_option maxHeartbeats 4000000 in
set_option maxRecDepth 100000 in
theorem c_xBegin (l : Launch) (dC : Nat → ClassId) (dI : Nat → Nat → Nat) (gd : Nat → Nat)  (sc : Nat) (ch : Nat) (aTp : Nat) (aHl : Nat) (aHs : Nat) (aWk : Nat) (aBk : Nat) (aFc : Nat) (bW : Nat) (bA : Nat) (bE : Nat) (bC : Nat) (dr : Nat) (tO : Nat) (hO : Nat) (ts : Nat) (nh : Nat) (n : Nat) (wz : Nat) (bz : Nat) (cl : Nat) (i : Nat) (mi : Int32) (sn : Int32) (sg : Int32) (cdd : Int32) (szz : Int32) (att : Int32) (nmb : Int32) (fr : Int32) (x : Int32) (ed : Int64) (ft : Int64) (cFc : ClassId) (cbW : ClassId) (cbA : ClassId) (cbE : ClassId) (cbC : ClassId) (cD : ClassId) (cTO : ClassId) (cT : ClassId) (fFc : Nat → Int32) (fbW : Nat → Int32) (fbA : Nat → Int32) (fbE : Nat → Int32) (fbC : Nat → Int32) (fD : Nat → Int32) (ft0 : Nat → Int64) (rt : Nat → Nat) (tpv : Value) (cz : List pCla) (sz : Nat) (zcl : cl ≤ 10) (zE : ∀ k0, k0 < 10 → ∃ e0 : Nat, e0 ≤ 100 ∧ fbE k0 = nI e0) (zC : ∀ k0, k0 < 100 → okC (fbC k0)) (zHC : HC cl sg fbW fbA fbE fbC cz ∧ WfC cz) : Met l yX0_begin wsX0_begin ({ frames := 4, cells := 0, slots := 0, locals := 94 } : Room) (va_Pc [.ref ch, .ref sc, .int x] (fun U => U.heap.size = sz ∧ va_P (dC, dI) vwCl [(zo2lirrr ch ft fr dr tO hO), (zaI dr cD 36 fD), (zaR tO cTO 3 (fun i => if i < 3 then some (rt i) else none)), (zaL (rt 0) cT 36 ft0), (zo10ririliiriririr sc aTp (nI ts) aHl (nI nh) ed mi sn aHs (nI n) aWk (nI wz) aBk (nI bz) aFc), (zaI aFc cFc 6 fFc)] U.heap ∧ va_K (dC, dI) vwCl [(cD, .int), (cTO, .array .long), (cT, .long), (cFc, .int)] U ∧ va_D (fun _ => True) [(zo2lirrr ch ft fr dr tO hO), (zaI dr cD 36 fD), (zaR tO cTO 3 (fun i => if i < 3 then some (rt i) else none)), (zaL (rt 0) cT 36 ft0), (zo10ririliiriririr sc aTp (nI ts) aHl (nI nh) ed mi sn aHs (nI n) aWk (nI wz) aBk (nI bz) aFc), (zaI aFc cFc 6 fFc)] ∧ Gl gd (va_A [(zo2lirrr ch ft fr dr tO hO), (zaI dr cD 36 fD), (zaR tO cTO 3 (fun i => if i < 3 then some (rt i) else none)), (zaL (rt 0) cT 36 ft0), (zo10ririliiriririr sc aTp (nI ts) aHl (nI nh) ed mi sn aHs (nI n) aWk (nI wz) aBk (nI bz) aFc), (zaI aFc cFc 6 fFc)] sz) U ∧ Fz dC dI [(zo7iirrrriviii aHl sg (nI cl) bW bA bE bC cdd tpv szz att nmb), (zaI bW cbW 10 fbW), (zaI bA cbA 10 fbA), (zaI bE cbE 10 fbE), (zaI bC cbC 100 fbC)] [(cbW, .int), (cbA, .int), (cbE, .int), (cbC, .int)] (va_A [(zo2lirrr ch ft fr dr tO hO), (zaI dr cD 36 fD), (zaR tO cTO 3 (fun i => if i < 3 then some (rt i) else none)), (zaL (rt 0) cT 36 ft0), (zo10ririliiriririr sc aTp (nI ts) aHl (nI nh) ed mi sn aHs (nI n) aWk (nI wz) aBk (nI bz) aFc), (zaI aFc cFc 6 fFc)] sz) U)) (va_Qv (fun (u : (Nat → Int32) × (Nat → Int64) × (Nat → Int32)) => match u with | (fD9, ft09, fFc9) => True) (fun (u : (Nat → Int32) × (Nat → Int64) × (Nat → Int32)) (t : State) => match u with | (fD9, ft09, fFc9) => va_P (dC, dI) vwCl [(zo2lirrr ch ft fr dr tO hO), (zaI dr cD 36 fD9), (zaR tO cTO 3 (fun i => if i < 3 then some (rt i) else none)), (zaL (rt 0) cT 36 ft09), (zo10ririliiriririr sc aTp (nI ts) aHl (nI nh) ed mi sn aHs (nI n) aWk (nI wz) aBk (nI bz) aFc), (zaI aFc cFc 6 fFc9)] t.heap ∧ va_K (dC, dI) vwCl [(cD, .int), (cTO, .array .long), (cT, .long), (cFc, .int)] t ∧ va_D (va_A [(zo2lirrr ch ft fr dr tO hO), (zaI dr cD 36 fD), (zaR tO cTO 3 (fun i => if i < 3 then some (rt i) else none)), (zaL (rt 0) cT 36 ft0), (zo10ririliiriririr sc aTp (nI ts) aHl (nI nh) ed mi sn aHs (nI n) aWk (nI wz) aBk (nI bz) aFc), (zaI aFc cFc 6 fFc)] sz) [(zo2lirrr ch ft fr dr tO hO), (zaI dr cD 36 fD9), (zaR tO cTO 3 (fun i => if i < 3 then some (rt i) else none)), (zaL (rt 0) cT 36 ft09), (zo10ririliiriririr sc aTp (nI ts) aHl (nI nh) ed mi sn aHs (nI n) aWk (nI wz) aBk (nI bz) aFc), (zaI aFc cFc 6 fFc9)]) (va_A [(zo2lirrr ch ft fr dr tO hO), (zaI dr cD 36 fD), (zaR tO cTO 3 (fun i => if i < 3 then some (rt i) else none)), (zaL (rt 0) cT 36 ft0), (zo10ririliiriririr sc aTp (nI ts) aHl (nI nh) ed mi sn aHs (nI n) aWk (nI wz) aBk (nI bz) aFc), (zaI aFc cFc 6 fFc)] sz)) 0 0 (va_A [(zo2lirrr ch ft fr dr tO hO), (zaI dr cD 36 fD), (zaR tO cTO 3 (fun i => if i < 3 then some (rt i) else none)), (zaL (rt 0) cT 36 ft0), (zo10ririliiriririr sc aTp (nI ts) aHl (nI nh) ed mi sn aHs (nI n) aWk (nI wz) aBk (nI bz) aFc), (zaI aFc cFc 6 fFc)] sz) := by
  refine met_ofQ (cc := cX0_begin) (maxL := 4) (ret := none) (by decide) rfl ?_
  intro p e s m args below meth c s₁ Q B hml hv hQ
  obtain ⟨rfl, hsz, hP, hK, hD0, hG, hZ⟩ := hv
  have hx := B.exec
  have hb := B.bytes
  have hr := B.returns
  have hts := atoms_spec (ws := wsX0_begin) B.pre
  have hown : s.vm.findClass RX0 = some m.cls := findClass_of_methodNamed B.named
  have hlocks := B.notSynchronized
  subst hsz
  have hD := hD0.self (sz := s.heap.size)
  generalize hAe : va_A [(zo2lirrr ch ft fr dr tO hO), (zaI dr cD 36 fD), (zaR tO cTO 3 (fun i => if i < 3 then some (rt i) else none)), (zaL (rt 0) cT 36 ft0), (zo10ririliiriririr sc aTp (nI ts) aHl (nI nh) ed mi sn aHs (nI n) aWk (nI wz) aBk (nI bz) aFc), (zaI aFc cFc 6 fFc)] s.heap.size = A at hD hQ hG hZ ⊢
  have hA : ∀ q : Nat, s.heap.size ≤ q → A q := fun q h => by rw [← hAe]; exact Or.inr h
  have hS : va_S A s.heap s.heap [] := va_S.rf
  have hl := lv_entry [.ref ch, .ref sc, .int x] (n := 4) (Nat.le_of_ble_eq_true rfl)
  rw [lg_entry_eq]
  generalize (lg_sl [.ref ch, .ref sc, .int x] ++ List.replicate (4 - (lg_sl [.ref ch, .ref sc, .int x]).length) Slot.unset).toArray = ls at hl ⊢
  generalize hag : ([.ref ch, .ref sc, .int x] : List Value).toArray = args at hts hQ ⊢
  have hl : lv_has ls 4 [(0, .ref ch), (1, .ref sc), (2, .int x)] := hl
  obtain ⟨H, hH⟩ : ∃ H : Heap, H = s.heap := ⟨_, rfl⟩
  rw [← hH] at hP
  rw [← hH]
  have hS : va_S A s.heap H [] := by rw [hH]; exact hS
  obtain ⟨locs, hlo⟩ : ∃ L : List Loc, L = [] := ⟨_, rfl⟩
  rw [← hlo] at hS
  rw [← hlo]
  clear hH hlo
  refine lv_iconst (v := 0) hx hb dX0_begin_0 (by decide) ?_
  refine lv_istore_n (lv' := [(3, .int 0), (0, .ref ch), (1, .ref sc), (2, .int x)]) hx hb dX0_begin_1 rfl hl (by decide) rfl (fun ls hl => ?_)
  have L2 : ∀ (nF : Nat) (i : Nat) (fD2 : Nat → Int32) (ft02 : Nat → Int64) (fFc2 : Nat → Int32), 36 - i < nF → (i ≤ 36) → ∀ (H : Heap) (locs : List Loc), va_K (dC, dI) vwCl [(cD, .int), (cTO, .array .long), (cT, .long), (cFc, .int)] s → va_P (dC, dI) vwCl [(zo2lirrr ch ft fr dr tO hO), (zaI dr cD 36 fD2), (zaR tO cTO 3 (fun i => if i < 3 then some (rt i) else none)), (zaL (rt 0) cT 36 ft02), (zo10ririliiriririr sc aTp (nI ts) aHl (nI nh) ed mi sn aHs (nI n) aWk (nI wz) aBk (nI bz) aFc), (zaI aFc cFc 6 fFc2)] H → va_D A [(zo2lirrr ch ft fr dr tO hO), (zaI dr cD 36 fD2), (zaR tO cTO 3 (fun i => if i < 3 then some (rt i) else none)), (zaL (rt 0) cT 36 ft02), (zo10ririliiriririr sc aTp (nI ts) aHl (nI nh) ed mi sn aHs (nI n) aWk (nI wz) aBk (nI bz) aFc), (zaI aFc cFc 6 fFc2)] → va_S A s.heap H locs → ∀ (ls : Array Slot), lv_has ls 4 [(0, .ref ch), (1, .ref sc), (2, .int x), (3, .int (nI i))] → W p l e ({ frames := 4, cells := 0, slots := 0, locals := 94 } : Room) s m args below meth c H locs 0 0 Q (F0 m 2 ls []) := by
    intro nF
    induction nF with
    | zero => intro i fD2 ft02 fFc2 hm; exact absurd hm (Nat.not_lt_zero _)
    | succ nF ih2 =>
      intro i fD2 ft02 fFc2 hm hii H locs hK hP hD hS ls hl
      refine lv_iload_n hx hb dX0_begin_2 rfl (lv_at hl 3 rfl) ?_
      refine lv_bipush (v := 36) hx hb dX0_begin_3 (by decide) ?_
      refine lv_icmp_ge (tgt := 43) hx hb dX0_begin_5 (by decide) (fun c_1 => ?_) (fun c_1 => ?_)
      · skip
        have c_1 : 36 ≤ i := (nI_leI (a := 36) (b := i) (by omega) (by omega)).mp c_1
        rw [hQ]
        have hP9 := hP.sub (ws' := [(zo2lirrr ch ft fr dr tO hO), (zaI dr cD 36 fD2), (zaR tO cTO 3 (fun i => if i < 3 then some (rt i) else none)), (zaL (rt 0) cT 36 ft02), (zo10ririliiriririr sc aTp (nI ts) aHl (nI nh) ed mi sn aHs (nI n) aWk (nI wz) aBk (nI bz) aFc), (zaI aFc cFc 6 fFc2)]) [0, 1, 2, 3, 4, 5] rfl
        have hD9 := hD.sub (ws' := [(zo2lirrr ch ft fr dr tO hO), (zaI dr cD 36 fD2), (zaR tO cTO 3 (fun i => if i < 3 then some (rt i) else none)), (zaL (rt 0) cT 36 ft02), (zo10ririliiriririr sc aTp (nI ts) aHl (nI nh) ed mi sn aHs (nI n) aWk (nI wz) aBk (nI bz) aFc), (zaI aFc cFc 6 fFc2)]) [0, 1, 2, 3, 4, 5] (by decide) rfl
        have hK9 := hK.sub (tys' := [(cD, .int), (cTO, .array .long), (cT, .long), (cFc, .int)]) [0, 1, 2, 3] rfl
        exact W.vret hx hb hr (fun tQ htQ hWQ => ⟨⟨(fD2, ft02, fFc2), rfl, trivial, by rw [htQ]; exact hP9, va_K.moved hWQ.alike hK9, hD9⟩, hS.F htQ⟩) hS.2.2 dX0_begin_43
      · skip
        have c_1 : ¬ 36 ≤ i := fun q => c_1 ((nI_leI (a := 36) (b := i) (by omega) (by omega)).mpr q)
        refine lv_aload_n hx hb dX0_begin_8 rfl (lv_at hl 0 rfl) ?_
        refine va_get (D := (dC, dI)) (ci := 2) (v := .ref dr) (C := RX0) (T := TX0) (N := 5) hx hb hts kc_xBegin_0 hown hK hP 0 rfl rfl 2 (by decide) (hts (.fieldLink RX0 9 "MistHeaps$Chances" "drifts" "[I") kc_xBegin_1) (fun _ h9 => h9) rfl dX0_begin_9 ?_
        refine lv_iload_n hx hb dX0_begin_12 rfl (lv_at hl 3 rfl) ?_
        refine lv_aload_n hx hb dX0_begin_13 rfl (lv_at hl 1 rfl) ?_
        refine lv_iload_n hx hb dX0_begin_14 rfl (lv_at hl 3 rfl) ?_
        have hPc := hP.sub (ws' := [(zo10ririliiriririr sc aTp (nI ts) aHl (nI nh) ed mi sn aHs (nI n) aWk (nI wz) aBk (nI bz) aFc), (zaI aFc cFc 6 fFc2)]) [4, 5] rfl
        have hDc := hD.sub (ws' := [(zo10ririliiriririr sc aTp (nI ts) aHl (nI nh) ed mi sn aHs (nI n) aWk (nI wz) aBk (nI bz) aFc), (zaI aFc cFc 6 fFc2)]) [4, 5] (by decide) rfl
        have hKc := hK.sub (tys' := [(cFc, .int)]) [3] rfl
        have hFc := va_free (wc := [(zo10ririliiriririr sc aTp (nI ts) aHl (nI nh) ed mi sn aHs (nI n) aWk (nI wz) aBk (nI bz) aFc), (zaI aFc cFc 6 fFc2)]) hD hS hA [4, 5] rfl
        refine va_calli (va_runV (As := [.int (nI i)]) (rest := [.int (nI i), .ref dr]) ⟨hx, hb, hml, hown, hts⟩ (c_xDriftOn l dC dI gd  sc aTp aHl aHs aWk aBk aFc bW bA bE bC ts nh n wz bz cl mi sn sg cdd szz att nmb (nI i) ed cFc cbW cbA cbE cbC fFc2 fbW fbA fbE fbC tpv cz H.size (zcl) (zE) (zC) (zHC)) (cwV 1 hts gX0_begin_X8_driftOn rfl rfl rfl hd_yX8_driftOn ⟨Nat.le_of_ble_eq_true rfl, Nat.le_of_ble_eq_true rfl⟩) ⟨fun a U g mk q => by obtain ⟨q0, q1, qP, qK, qD, qhG, qhZ⟩ := q; exact ⟨q0, q1, qP, va_K.moved (u := U) (U := U.calling g mk a) (Vm.Alike.refl U.vm) qK, qD, qhG.same rfl rfl, qhZ.same rfl rfl⟩, va_recv hK hP (ci := 10) (q := (RX8, TX8, 14)) (q0 := 4) rfl rfl, fun U hU hW => ⟨rfl, by rw [hU], by rw [hU]; exact hPc, va_K.moved hW.alike hKc, hDc.weaken (fun _ _ _ _ => trivial), hG.call hS hU hW (fun q h => hFc q h), (hZ.sub [0, 1, 2, 3, 4] [0, 1, 2, 3] rfl rfl).call hS hU hW (fun q h => hFc q h)⟩⟩ rfl rfl hl.1 rfl (lv_room (Nat.le_of_ble_eq_true rfl)) dX0_begin_15 ⟨Nat.le_of_ble_eq_true rfl, Nat.le_of_ble_eq_true rfl⟩) hS (fun q _ h => hFc q h) hFc (fun r_2 u tC H1 locs htC hvm hw_3 hB hz1 hk1 hS => ?_)
        obtain ⟨fFc9_4, rfl⟩ : ∃ z, z = u := ⟨_, rfl⟩
        try dsimp only at hw_3 hB
        obtain ⟨hP1, hK1, hD1⟩ := hB
        rw [htC] at hP1
        have hK1 := va_K.moved hvm.symm hK1
        obtain ⟨hP, hD⟩ := va_join (wr := [(zo2lirrr ch ft fr dr tO hO), (zaI dr cD 36 fD2), (zaR tO cTO 3 (fun i => if i < 3 then some (rt i) else none)), (zaL (rt 0) cT 36 ft02)]) (w1 := [(zo10ririliiriririr sc aTp (nI ts) aHl (nI nh) ed mi sn aHs (nI n) aWk (nI wz) aBk (nI bz) aFc), (zaI aFc cFc 6 fFc9_4)]) hP hD [4, 5] [0, 1, 2, 3] rfl rfl (by decide) (by decide) hk1 hFc hP1 hD1
        have hK := (hK.sub (tys' := [(cD, .int), (cTO, .array .long), (cT, .long)]) [0, 1, 2] rfl).app hK1
        generalize H1 = H at hP hS ⊢
        have hP : va_P (dC, dI) vwCl [(zo2lirrr ch ft fr dr tO hO), (zaI dr cD 36 fD2), (zaR tO cTO 3 (fun i => if i < 3 then some (rt i) else none)), (zaL (rt 0) cT 36 ft02), (zo10ririliiriririr sc aTp (nI ts) aHl (nI nh) ed mi sn aHs (nI n) aWk (nI wz) aBk (nI bz) aFc), (zaI aFc cFc 6 fFc9_4)] H := hP
        have hD : va_D A [(zo2lirrr ch ft fr dr tO hO), (zaI dr cD 36 fD2), (zaR tO cTO 3 (fun i => if i < 3 then some (rt i) else none)), (zaL (rt 0) cT 36 ft02), (zo10ririliiriririr sc aTp (nI ts) aHl (nI nh) ed mi sn aHs (nI n) aWk (nI wz) aBk (nI bz) aFc), (zaI aFc cFc 6 fFc9_4)] := hD
        have hK : va_K (dC, dI) vwCl [(cD, .int), (cTO, .array .long), (cT, .long), (cFc, .int)] s := hK
        obtain rfl := hw_3
        refine va_iast hx hb hK hP hD hS 1 0 rfl rfl (vp_in_nI (n := i) (N := 36) (by omega) (by omega)) dX0_begin_18 (fun H locs hP hD hS => ?_)
        rw [nI_clamp (n := i) (by omega)] at hP hD
        have hP : va_P (dC, dI) vwCl [(zo2lirrr ch ft fr dr tO hO), (zaI dr cD 36 (upd fD2 i (DRV cz mi sn (nI i)))), (zaR tO cTO 3 (fun i => if i < 3 then some (rt i) else none)), (zaL (rt 0) cT 36 ft02), (zo10ririliiriririr sc aTp (nI ts) aHl (nI nh) ed mi sn aHs (nI n) aWk (nI wz) aBk (nI bz) aFc), (zaI aFc cFc 6 fFc9_4)] H := hP
        have hD : va_D A [(zo2lirrr ch ft fr dr tO hO), (zaI dr cD 36 (upd fD2 i (DRV cz mi sn (nI i)))), (zaR tO cTO 3 (fun i => if i < 3 then some (rt i) else none)), (zaL (rt 0) cT 36 ft02), (zo10ririliiriririr sc aTp (nI ts) aHl (nI nh) ed mi sn aHs (nI n) aWk (nI wz) aBk (nI bz) aFc), (zaI aFc cFc 6 fFc9_4)] := hD
        refine lv_aload_n hx hb dX0_begin_19 rfl (lv_at hl 0 rfl) ?_
        refine va_get (D := (dC, dI)) (ci := 2) (v := .ref tO) (C := RX0) (T := TX0) (N := 5) hx hb hts kc_xBegin_0 hown hK hP 0 rfl rfl 3 (by decide) (hts (.fieldLink RX0 17 "MistHeaps$Chances" "times" "[[J") kc_xBegin_2) (fun _ h9 => h9) rfl dX0_begin_20 ?_
        refine lv_iconst (v := 0) hx hb dX0_begin_23 (by decide) ?_
        refine va_alda hx hb hK hP 2 1 rfl rfl (vp_in_nI (n := 0) (N := 3) (by omega) (by omega)) dX0_begin_24 ?_
        refine qq_as (v := .ref (rt 0)) (rfl) ?_
        refine lv_iload_n hx hb dX0_begin_25 rfl (lv_at hl 3 rfl) ?_
        refine lv_iload_n hx hb dX0_begin_26 rfl (lv_at hl 3 rfl) ?_
        refine lv_iload_n hx hb dX0_begin_27 rfl (lv_at hl 2 rfl) ?_
        have J28 : ∀ v_5 : Int64, W p l e ({ frames := 4, cells := 0, slots := 0, locals := 94 } : Room) s m args below meth c H locs 0 0 Q (F0 m 36 ls [.long v_5, .int (nI i), .ref (rt 0)]) := by
          intro v_5
          refine va_last hx hb hK hP hD hS 3 2 rfl rfl (vp_in_nI (n := i) (N := 36) (by omega) (by omega)) dX0_begin_36 (fun H locs hP hD hS => ?_)
          rw [nI_clamp (n := i) (by omega)] at hP hD
          have hP : va_P (dC, dI) vwCl [(zo2lirrr ch ft fr dr tO hO), (zaI dr cD 36 (upd fD2 i (DRV cz mi sn (nI i)))), (zaR tO cTO 3 (fun i => if i < 3 then some (rt i) else none)), (zaL (rt 0) cT 36 (vp_updL ft02 i v_5)), (zo10ririliiriririr sc aTp (nI ts) aHl (nI nh) ed mi sn aHs (nI n) aWk (nI wz) aBk (nI bz) aFc), (zaI aFc cFc 6 fFc9_4)] H := hP
          have hD : va_D A [(zo2lirrr ch ft fr dr tO hO), (zaI dr cD 36 (upd fD2 i (DRV cz mi sn (nI i)))), (zaR tO cTO 3 (fun i => if i < 3 then some (rt i) else none)), (zaL (rt 0) cT 36 (vp_updL ft02 i v_5)), (zo10ririliiriririr sc aTp (nI ts) aHl (nI nh) ed mi sn aHs (nI n) aWk (nI wz) aBk (nI bz) aFc), (zaI aFc cFc 6 fFc9_4)] := hD
          refine lv_iinc (v := nI (i + 1)) (lv' := [(3, .int (nI (i + 1))), (0, .ref ch), (1, .ref sc), (2, .int x)]) hx hb dX0_begin_37 hl (k := 3) rfl (nI_add i 1) (by decide) rfl (fun ls hl => ?_)
          refine lv_goto (tgt := 2) hx hb dX0_begin_40 (by decide) ?_
          exact ih2 (i + 1) _ _ _ (by omega) (by omega) _ _ (hK.sub [0, 1, 2, 3] rfl) (hP.sub [0, 1, 2, 3, 4, 5] rfl) (hD.sub [0, 1, 2, 3, 4, 5] (by decide) rfl) hS ls (lv_sub hl [1, 2, 3, 0] rfl)
        refine lv_icmp_ne (tgt := 35) hx hb dX0_begin_28 (by decide) (fun c_7 => ?_) (fun c_7 => ?_)
        · skip
          refine lv_lconst (v := 0) hx hb dX0_begin_35 (by decide) ?_
          exact J28 0
        · skip
          refine lv_lconst (v := 1) hx hb dX0_begin_31 (by decide) ?_
          refine lv_goto (tgt := 36) hx hb dX0_begin_32 (by decide) ?_
          exact J28 1
  exact L2 _ (0) _ _ _ (Nat.lt_succ_self _) (by omega) _ _ (hK.sub [0, 1, 2, 3] rfl) (hP.sub [0, 1, 2, 3, 4, 5] rfl) (hD.sub [0, 1, 2, 3, 4, 5] (by decide) rfl) hS ls (lv_sub hl [1, 2, 3, 0] rfl)

theorem kc_xSpread_0 : ∀ w ∈ wsX80, w ∈ wsX0_spread := fun w h => List.mem_cons_of_mem _ (gin_wsX80 w h)
theorem kc_xSpread_1 : (.fieldLink RX0 52 "MistHeaps$Scene" "edges" "J" : Cond) ∈ wsX0_spread := kc_of 162 rfl rfl rfl
theorem kc_xSpread_2 : (.initialized RX11 : Cond) ∈ wsX0_spread := kc_of 63 rfl rfl rfl
theorem kc_xSpread_3 : (.static yX11_isIn : Cond) ∈ wsX0_spread := kc_of 840 rfl rfl rfl
theorem kc_xSpread_4 : (.constantLong RX0 25 (20) : Cond) ∈ wsX0_spread := kc_of 842 rfl rfl rfl
theorem kc_xSpread_5 : ∀ w ∈ wsX00, w ∈ wsX0_spread := fun w h => List.mem_cons_of_mem _ (gin_wsX00 w h)
theorem kc_xSpread_6 : (.fieldLink RX0 9 "MistHeaps$Chances" "drifts" "[I" : Cond) ∈ wsX0_spread := kc_of 287 rfl rfl rfl
theorem kc_xSpread_7 : (.static yX11_besideOrSame : Cond) ∈ wsX0_spread := kc_of 844 rfl rfl rfl
set_option maxHeartbeats 4000000 in
set_option maxRecDepth 100000 in
theorem c_xSpread (l : Launch) (dC : Nat → ClassId) (dI : Nat → Nat → Nat) (gd : Nat → Nat) (sc : Nat) (ch : Nat) (aTp : Nat) (aHl : Nat) (aHs : Nat) (aWk : Nat) (aBk : Nat) (aFc : Nat) (dr : Nat) (tO : Nat) (hO : Nat) (ts : Nat) (nh : Nat) (n : Nat) (wz : Nat) (bz : Nat) (k : Nat) (mi : Int32) (sn : Int32) (fr : Int32) (ed : Int64) (ft : Int64) (cD : ClassId) (fD : Nat → Int32) (fa : Nat) (ta : Nat) (cA1 : ClassId) (cA2 : ClassId) (ff : Nat → Int64) (tt : Nat → Int64) (sz : Nat) (hk8 : k < 8) : Met l yX0_spread wsX0_spread ({ frames := 2, cells := 0, slots := 0, locals := 44 } : Room) (va_Pc [.ref ch, .ref sc, .ref fa, .int (nI k), .ref ta] (fun U => U.heap.size = sz ∧ va_P (dC, dI) vwCl [(zo2lirrr ch ft fr dr tO hO), (zaI dr cD 36 fD), (zo10ririliiriririr sc aTp (nI ts) aHl (nI nh) ed mi sn aHs (nI n) aWk (nI wz) aBk (nI bz) aFc), (zaL fa cA1 36 ff), (zaL ta cA2 36 tt)] U.heap ∧ va_K (dC, dI) vwCl [(cD, .int), (cA1, .long), (cA2, .long)] U ∧ va_D (fun _ => True) [(zo2lirrr ch ft fr dr tO hO), (zaI dr cD 36 fD), (zo10ririliiriririr sc aTp (nI ts) aHl (nI nh) ed mi sn aHs (nI n) aWk (nI wz) aBk (nI bz) aFc), (zaL fa cA1 36 ff), (zaL ta cA2 36 tt)] ∧ Gl gd (va_A [(zo2lirrr ch ft fr dr tO hO), (zaI dr cD 36 fD), (zo10ririliiriririr sc aTp (nI ts) aHl (nI nh) ed mi sn aHs (nI n) aWk (nI wz) aBk (nI bz) aFc), (zaL fa cA1 36 ff), (zaL ta cA2 36 tt)] sz) U)) (va_Qv (fun (u : Nat → Int64) => match u with | tt9 => True) (fun (u : Nat → Int64) (t : State) => match u with | tt9 => va_P (dC, dI) vwCl [(zo2lirrr ch ft fr dr tO hO), (zaI dr cD 36 fD), (zo10ririliiriririr sc aTp (nI ts) aHl (nI nh) ed mi sn aHs (nI n) aWk (nI wz) aBk (nI bz) aFc), (zaL fa cA1 36 ff), (zaL ta cA2 36 tt9)] t.heap ∧ va_K (dC, dI) vwCl [(cD, .int), (cA1, .long), (cA2, .long)] t ∧ va_D (va_A [(zo2lirrr ch ft fr dr tO hO), (zaI dr cD 36 fD), (zo10ririliiriririr sc aTp (nI ts) aHl (nI nh) ed mi sn aHs (nI n) aWk (nI wz) aBk (nI bz) aFc), (zaL fa cA1 36 ff), (zaL ta cA2 36 tt)] sz) [(zo2lirrr ch ft fr dr tO hO), (zaI dr cD 36 fD), (zo10ririliiriririr sc aTp (nI ts) aHl (nI nh) ed mi sn aHs (nI n) aWk (nI wz) aBk (nI bz) aFc), (zaL fa cA1 36 ff), (zaL ta cA2 36 tt9)]) (va_A [(zo2lirrr ch ft fr dr tO hO), (zaI dr cD 36 fD), (zo10ririliiriririr sc aTp (nI ts) aHl (nI nh) ed mi sn aHs (nI n) aWk (nI wz) aBk (nI bz) aFc), (zaL fa cA1 36 ff), (zaL ta cA2 36 tt)] sz)) 0 0 (va_A [(zo2lirrr ch ft fr dr tO hO), (zaI dr cD 36 fD), (zo10ririliiriririr sc aTp (nI ts) aHl (nI nh) ed mi sn aHs (nI n) aWk (nI wz) aBk (nI bz) aFc), (zaL fa cA1 36 ff), (zaL ta cA2 36 tt)] sz) := by
  refine met_ofQ (cc := cX0_spread) (maxL := 9) (ret := none) (by decide) rfl ?_
  intro p e s m args below meth c s₁ Q B hml hv hQ
  obtain ⟨rfl, hsz, hP, hK, hD0, hG⟩ := hv
  have hx := B.exec
  have hb := B.bytes
  have hr := B.returns
  have hts := atoms_spec (ws := wsX0_spread) B.pre
  have hown : s.vm.findClass RX0 = some m.cls := findClass_of_methodNamed B.named
  have hlocks := B.notSynchronized
  subst hsz
  have hD := hD0.self (sz := s.heap.size)
  generalize hAe : va_A [(zo2lirrr ch ft fr dr tO hO), (zaI dr cD 36 fD), (zo10ririliiriririr sc aTp (nI ts) aHl (nI nh) ed mi sn aHs (nI n) aWk (nI wz) aBk (nI bz) aFc), (zaL fa cA1 36 ff), (zaL ta cA2 36 tt)] s.heap.size = A at hD hQ hG ⊢
  have hA : ∀ q : Nat, s.heap.size ≤ q → A q := fun q h => by rw [← hAe]; exact Or.inr h
  have hS : va_S A s.heap s.heap [] := va_S.rf
  have hl := lv_entry [.ref ch, .ref sc, .ref fa, .int (nI k), .ref ta] (n := 9) (Nat.le_of_ble_eq_true rfl)
  rw [lg_entry_eq]
  generalize (lg_sl [.ref ch, .ref sc, .ref fa, .int (nI k), .ref ta] ++ List.replicate (9 - (lg_sl [.ref ch, .ref sc, .ref fa, .int (nI k), .ref ta]).length) Slot.unset).toArray = ls at hl ⊢
  generalize hag : ([.ref ch, .ref sc, .ref fa, .int (nI k), .ref ta] : List Value).toArray = args at hts hQ ⊢
  have hl : lv_has ls 9 [(0, .ref ch), (1, .ref sc), (2, .ref fa), (3, .int (nI k)), (4, .ref ta)] := hl
  obtain ⟨H, hH⟩ : ∃ H : Heap, H = s.heap := ⟨_, rfl⟩
  rw [← hH] at hP
  rw [← hH]
  have hS : va_S A s.heap H [] := by rw [hH]; exact hS
  obtain ⟨locs, hlo⟩ : ∃ L : List Loc, L = [] := ⟨_, rfl⟩
  rw [← hlo] at hS
  rw [← hlo]
  clear hH hlo
  refine lv_iconst (v := 0) hx hb dX0_spread_0 (by decide) ?_
  refine lv_istore (lv' := [(5, .int 0), (0, .ref ch), (1, .ref sc), (2, .ref fa), (3, .int (nI k)), (4, .ref ta)]) hx hb dX0_spread_1 hl (by decide) rfl (fun ls hl => ?_)
  have L3 : ∀ (nF : Nat) (i : Nat) (tt2 : Nat → Int64), 36 - i < nF → (i ≤ 36) → ∀ (H : Heap) (locs : List Loc), va_K (dC, dI) vwCl [(cD, .int), (cA1, .long), (cA2, .long)] s → va_P (dC, dI) vwCl [(zo2lirrr ch ft fr dr tO hO), (zaI dr cD 36 fD), (zo10ririliiriririr sc aTp (nI ts) aHl (nI nh) ed mi sn aHs (nI n) aWk (nI wz) aBk (nI bz) aFc), (zaL fa cA1 36 ff), (zaL ta cA2 36 tt2)] H → va_D A [(zo2lirrr ch ft fr dr tO hO), (zaI dr cD 36 fD), (zo10ririliiriririr sc aTp (nI ts) aHl (nI nh) ed mi sn aHs (nI n) aWk (nI wz) aBk (nI bz) aFc), (zaL fa cA1 36 ff), (zaL ta cA2 36 tt2)] → va_S A s.heap H locs → ∀ (ls : Array Slot), lv_has ls 9 [(0, .ref ch), (1, .ref sc), (2, .ref fa), (3, .int (nI k)), (4, .ref ta), (5, .int (nI i))] → W p l e ({ frames := 2, cells := 0, slots := 0, locals := 44 } : Room) s m args below meth c H locs 0 0 Q (F0 m 3 ls []) := by
    intro nF
    induction nF with
    | zero => intro i tt2 hm; exact absurd hm (Nat.not_lt_zero _)
    | succ nF ih3 =>
      intro i tt2 hm hii H locs hK hP hD hS ls hl
      refine lv_iload hx hb dX0_spread_3 (lv_at hl 5 rfl) ?_
      refine lv_bipush (v := 36) hx hb dX0_spread_5 (by decide) ?_
      refine lv_icmp_ge (tgt := 22) hx hb dX0_spread_7 (by decide) (fun c_1 => ?_) (fun c_1 => ?_)
      · skip
        have c_1 : 36 ≤ i := (nI_leI (a := 36) (b := i) (by omega) (by omega)).mp c_1
        refine lv_iconst (v := 0) hx hb dX0_spread_22 (by decide) ?_
        refine lv_istore (lv' := [(5, .int 0), (0, .ref ch), (1, .ref sc), (2, .ref fa), (3, .int (nI k)), (4, .ref ta)]) hx hb dX0_spread_23 hl (by decide) rfl (fun ls hl => ?_)
        have L25 : ∀ (nF : Nat) (i : Nat) (tt2 : Nat → Int64), 36 - i < nF → (i ≤ 36) → ∀ (H : Heap) (locs : List Loc), va_K (dC, dI) vwCl [(cD, .int), (cA1, .long), (cA2, .long)] s → va_P (dC, dI) vwCl [(zo2lirrr ch ft fr dr tO hO), (zaI dr cD 36 fD), (zo10ririliiriririr sc aTp (nI ts) aHl (nI nh) ed mi sn aHs (nI n) aWk (nI wz) aBk (nI bz) aFc), (zaL fa cA1 36 ff), (zaL ta cA2 36 tt2)] H → va_D A [(zo2lirrr ch ft fr dr tO hO), (zaI dr cD 36 fD), (zo10ririliiriririr sc aTp (nI ts) aHl (nI nh) ed mi sn aHs (nI n) aWk (nI wz) aBk (nI bz) aFc), (zaL fa cA1 36 ff), (zaL ta cA2 36 tt2)] → va_S A s.heap H locs → ∀ (ls : Array Slot), lv_has ls 9 [(0, .ref ch), (1, .ref sc), (2, .ref fa), (3, .int (nI k)), (4, .ref ta), (5, .int (nI i))] → W p l e ({ frames := 2, cells := 0, slots := 0, locals := 44 } : Room) s m args below meth c H locs 0 0 Q (F0 m 25 ls []) := by
          intro nF
          induction nF with
          | zero => intro i tt2 hm; exact absurd hm (Nat.not_lt_zero _)
          | succ nF ih25 =>
            intro i tt2 hm hii H locs hK hP hD hS ls hl
            refine lv_iload hx hb dX0_spread_25 (lv_at hl 5 rfl) ?_
            refine lv_bipush (v := 36) hx hb dX0_spread_27 (by decide) ?_
            refine lv_icmp_ge (tgt := 162) hx hb dX0_spread_29 (by decide) (fun c_2 => ?_) (fun c_2 => ?_)
            · skip
              have c_2 : 36 ≤ i := (nI_leI (a := 36) (b := i) (by omega) (by omega)).mp c_2
              rw [hQ]
              have hP9 := hP.sub (ws' := [(zo2lirrr ch ft fr dr tO hO), (zaI dr cD 36 fD), (zo10ririliiriririr sc aTp (nI ts) aHl (nI nh) ed mi sn aHs (nI n) aWk (nI wz) aBk (nI bz) aFc), (zaL fa cA1 36 ff), (zaL ta cA2 36 tt2)]) [0, 1, 2, 3, 4] rfl
              have hD9 := hD.sub (ws' := [(zo2lirrr ch ft fr dr tO hO), (zaI dr cD 36 fD), (zo10ririliiriririr sc aTp (nI ts) aHl (nI nh) ed mi sn aHs (nI n) aWk (nI wz) aBk (nI bz) aFc), (zaL fa cA1 36 ff), (zaL ta cA2 36 tt2)]) [0, 1, 2, 3, 4] (by decide) rfl
              have hK9 := hK.sub (tys' := [(cD, .int), (cA1, .long), (cA2, .long)]) [0, 1, 2] rfl
              exact W.vret hx hb hr (fun tQ htQ hWQ => ⟨⟨tt2, rfl, trivial, by rw [htQ]; exact hP9, va_K.moved hWQ.alike hK9, hD9⟩, hS.F htQ⟩) hS.2.2 dX0_spread_162
            · skip
              have c_2 : ¬ 36 ≤ i := fun q => c_2 ((nI_leI (a := 36) (b := i) (by omega) (by omega)).mpr q)
              refine lv_aload_n hx hb dX0_spread_32 rfl (lv_at hl 2 rfl) ?_
              refine lv_iload hx hb dX0_spread_33 (lv_at hl 5 rfl) ?_
              refine va_lald hx hb hK hP 3 1 rfl rfl (vp_in_nI (n := i) (N := 36) (by omega) (by omega)) dX0_spread_35 ?_
              refine ql_as (y := ff i) (by rw [nI_clamp (by omega)]) ?_
              refine lv_lstore (lv' := [(6, .long (ff i)), (0, .ref ch), (1, .ref sc), (2, .ref fa), (3, .int (nI k)), (4, .ref ta), (5, .int (nI i))]) hx hb dX0_spread_36 hl (by decide) rfl (fun ls hl => ?_)
              refine lv_lload hx hb dX0_spread_38 (lv_at hl 0 rfl) ?_
              refine lv_lconst (v := 0) hx hb dX0_spread_40 (by decide) ?_
              refine W.lcmp hx hb dX0_spread_41 ?_
              refine lv_if_ne (tgt := 48) hx hb dX0_spread_42 (by decide) (fun c_3 => ?_) (fun c_3 => ?_)
              · skip
                refine lv_aload_n hx hb dX0_spread_48 rfl (lv_at hl 2 rfl) ?_
                refine va_get (D := (dC, dI)) (ci := 10) (v := .long ed) (C := RX8) (T := TX8) (N := 14) hx hb hts kc_xSpread_0 hown hK hP 2 rfl rfl 4 (by decide) (hts (.fieldLink RX0 52 "MistHeaps$Scene" "edges" "J") kc_xSpread_1) (fun _ h9 => h9) rfl dX0_spread_49 ?_
                refine lv_iload hx hb dX0_spread_52 (lv_at hl 6 rfl) ?_
                refine vp_callSi (va_runSN (As := [.long ed, .int (nI i)]) (rest := []) ⟨hx, hb, hml, hown, hts⟩ (c_isIn l dC dI ed (nI i)) ⟨va_cnB 2 hts ggX0_spread_X11_isIn rfl rfl rfl (hG.1 (.methodLinkNest RX0 44 yX11_isIn "MistHeaps") (by decide +kernel)) (hts (.initialized RX11) kc_xSpread_2) (by decide +kernel) ⟨Nat.le_of_ble_eq_true rfl, Nat.le_of_ble_eq_true rfl⟩, (hts (.static yX11_isIn) kc_xSpread_3), trivial⟩ ⟨fun a U g mk q => ⟨q.1, trivial⟩, fun U hU hW => ⟨rfl, trivial⟩⟩ rfl rfl hl.1 rfl (lv_room (Nat.le_of_ble_eq_true rfl)) dX0_spread_54 ⟨Nat.le_of_ble_eq_true rfl, Nat.le_of_ble_eq_true rfl⟩).run (fun r_4 hw_5 => ?_)
                rcases hw_5 with rfl | rfl
                · skip
                  refine lv_if_eq (tgt := 77) hx hb dX0_spread_57 (by decide) (fun c_6 => absurd c_6 (by decide)) (fun _ => ?_)
                  refine lv_aload hx hb dX0_spread_60 (lv_at hl 5 rfl) ?_
                  refine lv_iload hx hb dX0_spread_62 (lv_at hl 6 rfl) ?_
                  refine lv_dup2_11 hx hb dX0_spread_64 rfl rfl ?_
                  refine va_lald hx hb hK hP 4 2 rfl rfl (vp_in_nI (n := i) (N := 36) (by omega) (by omega)) dX0_spread_65 ?_
                  refine ql_as (y := tt2 i) (by rw [nI_clamp (by omega)]) ?_
                  refine lv_lload hx hb dX0_spread_66 (lv_at hl 0 rfl) ?_
                  refine lv_ldc2 (v := 20) hx hb hown (hts (.constantLong RX0 25 (20)) kc_xSpread_4) dX0_spread_68 ?_
                  refine lv_lmul hx hb dX0_spread_71 ?_
                  refine lv_ladd hx hb dX0_spread_72 ?_
                  refine va_last hx hb hK hP hD hS 4 2 rfl rfl (vp_in_nI (n := i) (N := 36) (by omega) (by omega)) dX0_spread_73 (fun H locs hP hD hS => ?_)
                  rw [nI_clamp (n := i) (by omega)] at hP hD
                  have hP : va_P (dC, dI) vwCl [(zo2lirrr ch ft fr dr tO hO), (zaI dr cD 36 fD), (zo10ririliiriririr sc aTp (nI ts) aHl (nI nh) ed mi sn aHs (nI n) aWk (nI wz) aBk (nI bz) aFc), (zaL fa cA1 36 ff), (zaL ta cA2 36 (vp_updL tt2 i ((tt2 i) + ((ff i) * 20))))] H := hP
                  have hD : va_D A [(zo2lirrr ch ft fr dr tO hO), (zaI dr cD 36 fD), (zo10ririliiriririr sc aTp (nI ts) aHl (nI nh) ed mi sn aHs (nI n) aWk (nI wz) aBk (nI bz) aFc), (zaL fa cA1 36 ff), (zaL ta cA2 36 (vp_updL tt2 i ((tt2 i) + ((ff i) * 20))))] := hD
                  refine lv_goto (tgt := 156) hx hb dX0_spread_74 (by decide) ?_
                  refine lv_iinc (v := nI (i + 1)) (lv' := [(5, .int (nI (i + 1))), (6, .long (ff i)), (0, .ref ch), (1, .ref sc), (2, .ref fa), (3, .int (nI k)), (4, .ref ta)]) hx hb dX0_spread_156 hl (k := 6) rfl (nI_add i 1) (by decide) rfl (fun ls hl => ?_)
                  refine lv_goto (tgt := 25) hx hb dX0_spread_159 (by decide) ?_
                  exact ih25 (i + 1) _ (by omega) (by omega) _ _ (hK.sub [0, 1, 2] rfl) (hP.sub [0, 1, 2, 3, 4] rfl) (hD.sub [0, 1, 2, 3, 4] (by decide) rfl) hS ls (lv_sub hl [2, 3, 4, 5, 6, 0] rfl)
                · skip
                  refine lv_if_eq (tgt := 77) hx hb dX0_spread_57 (by decide) (fun _ => ?_) (fun c_7 => absurd c_7 (by decide))
                  refine lv_aload_n hx hb dX0_spread_77 rfl (lv_at hl 1 rfl) ?_
                  refine va_get (D := (dC, dI)) (ci := 2) (v := .ref dr) (C := RX0) (T := TX0) (N := 5) hx hb hts kc_xSpread_5 hown hK hP 0 rfl rfl 2 (by decide) (hts (.fieldLink RX0 9 "MistHeaps$Chances" "drifts" "[I") kc_xSpread_6) (fun _ h9 => h9) rfl dX0_spread_78 ?_
                  refine lv_iload hx hb dX0_spread_81 (lv_at hl 6 rfl) ?_
                  refine va_iald hx hb hK hP 1 0 rfl rfl (vp_in_nI (n := i) (N := 36) (by omega) (by omega)) dX0_spread_83 ?_
                  refine qi_as (y := fD i) (by rw [nI_clamp (by omega)]) ?_
                  refine lv_istore (lv' := [(8, .int (fD i)), (6, .long (ff i)), (0, .ref ch), (1, .ref sc), (2, .ref fa), (3, .int (nI k)), (4, .ref ta), (5, .int (nI i))]) hx hb dX0_spread_84 hl (by decide) rfl (fun ls hl => ?_)
                  refine lv_aload hx hb dX0_spread_86 (lv_at hl 6 rfl) ?_
                  refine lv_iload hx hb dX0_spread_88 (lv_at hl 7 rfl) ?_
                  refine lv_iload_n hx hb dX0_spread_90 rfl (lv_at hl 5 rfl) ?_
                  refine vp_callSi (va_runSN (As := [.int (nI i), .int (nI k)]) (rest := [.ref ta]) ⟨hx, hb, hml, hown, hts⟩ (c_beside l dC dI gd i k (by omega) (by omega)) ⟨va_cnB 2 hts ggX0_spread_X11_besideOrSame rfl rfl rfl (hG.1 (.methodLinkNest RX0 56 yX11_besideOrSame "MistHeaps") (by decide +kernel)) (hts (.initialized RX11) kc_xSpread_2) (by decide +kernel) ⟨Nat.le_of_ble_eq_true rfl, Nat.le_of_ble_eq_true rfl⟩, (hts (.static yX11_besideOrSame) kc_xSpread_7), trivial⟩ ⟨fun a U g mk q => by obtain ⟨q0, qhG⟩ := q; exact ⟨q0, qhG.same rfl rfl⟩, fun U hU hW => ⟨rfl, hG.callF hS hU hW⟩⟩ rfl rfl hl.1 rfl (lv_room (Nat.le_of_ble_eq_true rfl)) dX0_spread_91 ⟨Nat.le_of_ble_eq_true rfl, Nat.le_of_ble_eq_true rfl⟩).run (fun r_8 hw_9 => ?_)
                  obtain ⟨k_10, hk_11, rfl⟩ := hw_9
                  refine lv_dup2_11 hx hb dX0_spread_94 rfl rfl ?_
                  refine va_lald hx hb hK hP 4 2 rfl rfl (vp_in_nI (n := k_10) (N := 36) (by omega) (by omega)) dX0_spread_95 ?_
                  refine ql_as (y := tt2 k_10) (by rw [nI_clamp (by omega)]) ?_
                  refine lv_lload hx hb dX0_spread_96 (lv_at hl 1 rfl) ?_
                  refine lv_bipush (v := 20) hx hb dX0_spread_98 (by decide) ?_
                  refine lv_iconst (v := 2) hx hb dX0_spread_100 (by decide) ?_
                  refine lv_iload hx hb dX0_spread_101 (lv_at hl 0 rfl) ?_
                  refine lv_imul hx hb dX0_spread_103 ?_
                  refine lv_isub hx hb dX0_spread_104 ?_
                  refine lv_i2l (v := (20 - (2 * (fD i))).toInt64) hx hb dX0_spread_105 (rfl) ?_
                  refine lv_lmul hx hb dX0_spread_106 ?_
                  refine lv_ladd hx hb dX0_spread_107 ?_
                  refine va_last hx hb hK hP hD hS 4 2 rfl rfl (vp_in_nI (n := k_10) (N := 36) (by omega) (by omega)) dX0_spread_108 (fun H locs hP hD hS => ?_)
                  rw [nI_clamp (n := k_10) (by omega)] at hP hD
                  have hP : va_P (dC, dI) vwCl [(zo2lirrr ch ft fr dr tO hO), (zaI dr cD 36 fD), (zo10ririliiriririr sc aTp (nI ts) aHl (nI nh) ed mi sn aHs (nI n) aWk (nI wz) aBk (nI bz) aFc), (zaL fa cA1 36 ff), (zaL ta cA2 36 (vp_updL tt2 k_10 ((tt2 k_10) + ((ff i) * ((20 - (2 * (fD i))).toInt64)))))] H := hP
                  have hD : va_D A [(zo2lirrr ch ft fr dr tO hO), (zaI dr cD 36 fD), (zo10ririliiriririr sc aTp (nI ts) aHl (nI nh) ed mi sn aHs (nI n) aWk (nI wz) aBk (nI bz) aFc), (zaL fa cA1 36 ff), (zaL ta cA2 36 (vp_updL tt2 k_10 ((tt2 k_10) + ((ff i) * ((20 - (2 * (fD i))).toInt64)))))] := hD
                  refine lv_aload hx hb dX0_spread_109 (lv_at hl 6 rfl) ?_
                  refine lv_iload hx hb dX0_spread_111 (lv_at hl 7 rfl) ?_
                  refine lv_iload_n hx hb dX0_spread_113 rfl (lv_at hl 5 rfl) ?_
                  refine lv_bipush (v := 7) hx hb dX0_spread_114 (by decide) ?_
                  refine lv_iadd hx hb dX0_spread_116 ?_
                  refine qi_as (y := nI (k + 7)) (nI_add k 7) ?_
                  refine lv_bipush (v := 7) hx hb dX0_spread_117 (by decide) ?_
                  refine lv_iand hx hb dX0_spread_119 ?_
                  obtain ⟨k_12, hk_13, ek_14⟩ := and7 (nI (k + 7))
                  refine qi_as (y := nI k_12) (ek_14) ?_
                  refine vp_callSi (va_runSN (As := [.int (nI i), .int (nI k_12)]) (rest := [.ref ta]) ⟨hx, hb, hml, hown, hts⟩ (c_beside l dC dI gd i k_12 (by omega) (by omega)) ⟨va_cnB 2 hts ggX0_spread_X11_besideOrSame rfl rfl rfl (hG.1 (.methodLinkNest RX0 56 yX11_besideOrSame "MistHeaps") (by decide +kernel)) (hts (.initialized RX11) kc_xSpread_2) (by decide +kernel) ⟨Nat.le_of_ble_eq_true rfl, Nat.le_of_ble_eq_true rfl⟩, (hts (.static yX11_besideOrSame) kc_xSpread_7), trivial⟩ ⟨fun a U g mk q => by obtain ⟨q0, qhG⟩ := q; exact ⟨q0, qhG.same rfl rfl⟩, fun U hU hW => ⟨rfl, hG.callF hS hU hW⟩⟩ rfl rfl hl.1 rfl (lv_room (Nat.le_of_ble_eq_true rfl)) dX0_spread_120 ⟨Nat.le_of_ble_eq_true rfl, Nat.le_of_ble_eq_true rfl⟩).run (fun r_15 hw_16 => ?_)
                  obtain ⟨k_17, hk_18, rfl⟩ := hw_16
                  refine lv_dup2_11 hx hb dX0_spread_123 rfl rfl ?_
                  refine va_lald hx hb hK hP 4 2 rfl rfl (vp_in_nI (n := k_17) (N := 36) (by omega) (by omega)) dX0_spread_124 ?_
                  refine ql_as (y := (vp_updL tt2 k_10 ((tt2 k_10) + ((ff i) * ((20 - (2 * (fD i))).toInt64)))) k_17) (by rw [nI_clamp (by omega)]) ?_
                  refine lv_lload hx hb dX0_spread_125 (lv_at hl 1 rfl) ?_
                  refine lv_iload hx hb dX0_spread_127 (lv_at hl 0 rfl) ?_
                  refine lv_i2l (v := (fD i).toInt64) hx hb dX0_spread_129 (rfl) ?_
                  refine lv_lmul hx hb dX0_spread_130 ?_
                  refine lv_ladd hx hb dX0_spread_131 ?_
                  refine va_last hx hb hK hP hD hS 4 2 rfl rfl (vp_in_nI (n := k_17) (N := 36) (by omega) (by omega)) dX0_spread_132 (fun H locs hP hD hS => ?_)
                  rw [nI_clamp (n := k_17) (by omega)] at hP hD
                  have hP : va_P (dC, dI) vwCl [(zo2lirrr ch ft fr dr tO hO), (zaI dr cD 36 fD), (zo10ririliiriririr sc aTp (nI ts) aHl (nI nh) ed mi sn aHs (nI n) aWk (nI wz) aBk (nI bz) aFc), (zaL fa cA1 36 ff), (zaL ta cA2 36 (vp_updL (vp_updL tt2 k_10 ((tt2 k_10) + ((ff i) * ((20 - (2 * (fD i))).toInt64)))) k_17 (((vp_updL tt2 k_10 ((tt2 k_10) + ((ff i) * ((20 - (2 * (fD i))).toInt64)))) k_17) + ((ff i) * ((fD i).toInt64)))))] H := hP
                  have hD : va_D A [(zo2lirrr ch ft fr dr tO hO), (zaI dr cD 36 fD), (zo10ririliiriririr sc aTp (nI ts) aHl (nI nh) ed mi sn aHs (nI n) aWk (nI wz) aBk (nI bz) aFc), (zaL fa cA1 36 ff), (zaL ta cA2 36 (vp_updL (vp_updL tt2 k_10 ((tt2 k_10) + ((ff i) * ((20 - (2 * (fD i))).toInt64)))) k_17 (((vp_updL tt2 k_10 ((tt2 k_10) + ((ff i) * ((20 - (2 * (fD i))).toInt64)))) k_17) + ((ff i) * ((fD i).toInt64)))))] := hD
                  refine lv_aload hx hb dX0_spread_133 (lv_at hl 6 rfl) ?_
                  refine lv_iload hx hb dX0_spread_135 (lv_at hl 7 rfl) ?_
                  refine lv_iload_n hx hb dX0_spread_137 rfl (lv_at hl 5 rfl) ?_
                  refine lv_iconst (v := 1) hx hb dX0_spread_138 (by decide) ?_
                  refine lv_iadd hx hb dX0_spread_139 ?_
                  refine qi_as (y := nI (k + 1)) (nI_add k 1) ?_
                  refine lv_bipush (v := 7) hx hb dX0_spread_140 (by decide) ?_
                  refine lv_iand hx hb dX0_spread_142 ?_
                  obtain ⟨k_19, hk_20, ek_21⟩ := and7 (nI (k + 1))
                  refine qi_as (y := nI k_19) (ek_21) ?_
                  refine vp_callSi (va_runSN (As := [.int (nI i), .int (nI k_19)]) (rest := [.ref ta]) ⟨hx, hb, hml, hown, hts⟩ (c_beside l dC dI gd i k_19 (by omega) (by omega)) ⟨va_cnB 2 hts ggX0_spread_X11_besideOrSame rfl rfl rfl (hG.1 (.methodLinkNest RX0 56 yX11_besideOrSame "MistHeaps") (by decide +kernel)) (hts (.initialized RX11) kc_xSpread_2) (by decide +kernel) ⟨Nat.le_of_ble_eq_true rfl, Nat.le_of_ble_eq_true rfl⟩, (hts (.static yX11_besideOrSame) kc_xSpread_7), trivial⟩ ⟨fun a U g mk q => by obtain ⟨q0, qhG⟩ := q; exact ⟨q0, qhG.same rfl rfl⟩, fun U hU hW => ⟨rfl, hG.callF hS hU hW⟩⟩ rfl rfl hl.1 rfl (lv_room (Nat.le_of_ble_eq_true rfl)) dX0_spread_143 ⟨Nat.le_of_ble_eq_true rfl, Nat.le_of_ble_eq_true rfl⟩).run (fun r_22 hw_23 => ?_)
                  obtain ⟨k_24, hk_25, rfl⟩ := hw_23
                  refine lv_dup2_11 hx hb dX0_spread_146 rfl rfl ?_
                  refine va_lald hx hb hK hP 4 2 rfl rfl (vp_in_nI (n := k_24) (N := 36) (by omega) (by omega)) dX0_spread_147 ?_
                  refine ql_as (y := (vp_updL (vp_updL tt2 k_10 ((tt2 k_10) + ((ff i) * ((20 - (2 * (fD i))).toInt64)))) k_17 (((vp_updL tt2 k_10 ((tt2 k_10) + ((ff i) * ((20 - (2 * (fD i))).toInt64)))) k_17) + ((ff i) * ((fD i).toInt64)))) k_24) (by rw [nI_clamp (by omega)]) ?_
                  refine lv_lload hx hb dX0_spread_148 (lv_at hl 1 rfl) ?_
                  refine lv_iload hx hb dX0_spread_150 (lv_at hl 0 rfl) ?_
                  refine lv_i2l (v := (fD i).toInt64) hx hb dX0_spread_152 (rfl) ?_
                  refine lv_lmul hx hb dX0_spread_153 ?_
                  refine lv_ladd hx hb dX0_spread_154 ?_
                  refine va_last hx hb hK hP hD hS 4 2 rfl rfl (vp_in_nI (n := k_24) (N := 36) (by omega) (by omega)) dX0_spread_155 (fun H locs hP hD hS => ?_)
                  rw [nI_clamp (n := k_24) (by omega)] at hP hD
                  have hP : va_P (dC, dI) vwCl [(zo2lirrr ch ft fr dr tO hO), (zaI dr cD 36 fD), (zo10ririliiriririr sc aTp (nI ts) aHl (nI nh) ed mi sn aHs (nI n) aWk (nI wz) aBk (nI bz) aFc), (zaL fa cA1 36 ff), (zaL ta cA2 36 (vp_updL (vp_updL (vp_updL tt2 k_10 ((tt2 k_10) + ((ff i) * ((20 - (2 * (fD i))).toInt64)))) k_17 (((vp_updL tt2 k_10 ((tt2 k_10) + ((ff i) * ((20 - (2 * (fD i))).toInt64)))) k_17) + ((ff i) * ((fD i).toInt64)))) k_24 (((vp_updL (vp_updL tt2 k_10 ((tt2 k_10) + ((ff i) * ((20 - (2 * (fD i))).toInt64)))) k_17 (((vp_updL tt2 k_10 ((tt2 k_10) + ((ff i) * ((20 - (2 * (fD i))).toInt64)))) k_17) + ((ff i) * ((fD i).toInt64)))) k_24) + ((ff i) * ((fD i).toInt64)))))] H := hP
                  have hD : va_D A [(zo2lirrr ch ft fr dr tO hO), (zaI dr cD 36 fD), (zo10ririliiriririr sc aTp (nI ts) aHl (nI nh) ed mi sn aHs (nI n) aWk (nI wz) aBk (nI bz) aFc), (zaL fa cA1 36 ff), (zaL ta cA2 36 (vp_updL (vp_updL (vp_updL tt2 k_10 ((tt2 k_10) + ((ff i) * ((20 - (2 * (fD i))).toInt64)))) k_17 (((vp_updL tt2 k_10 ((tt2 k_10) + ((ff i) * ((20 - (2 * (fD i))).toInt64)))) k_17) + ((ff i) * ((fD i).toInt64)))) k_24 (((vp_updL (vp_updL tt2 k_10 ((tt2 k_10) + ((ff i) * ((20 - (2 * (fD i))).toInt64)))) k_17 (((vp_updL tt2 k_10 ((tt2 k_10) + ((ff i) * ((20 - (2 * (fD i))).toInt64)))) k_17) + ((ff i) * ((fD i).toInt64)))) k_24) + ((ff i) * ((fD i).toInt64)))))] := hD
                  refine lv_iinc (v := nI (i + 1)) (lv' := [(5, .int (nI (i + 1))), (8, .int (fD i)), (6, .long (ff i)), (0, .ref ch), (1, .ref sc), (2, .ref fa), (3, .int (nI k)), (4, .ref ta)]) hx hb dX0_spread_156 hl (k := 7) rfl (nI_add i 1) (by decide) rfl (fun ls hl => ?_)
                  refine lv_goto (tgt := 25) hx hb dX0_spread_159 (by decide) ?_
                  exact ih25 (i + 1) _ (by omega) (by omega) _ _ (hK.sub [0, 1, 2] rfl) (hP.sub [0, 1, 2, 3, 4] rfl) (hD.sub [0, 1, 2, 3, 4] (by decide) rfl) hS ls (lv_sub hl [3, 4, 5, 6, 7, 0] rfl)
              · skip
                refine lv_goto (tgt := 156) hx hb dX0_spread_45 (by decide) ?_
                refine lv_iinc (v := nI (i + 1)) (lv' := [(5, .int (nI (i + 1))), (6, .long (ff i)), (0, .ref ch), (1, .ref sc), (2, .ref fa), (3, .int (nI k)), (4, .ref ta)]) hx hb dX0_spread_156 hl (k := 6) rfl (nI_add i 1) (by decide) rfl (fun ls hl => ?_)
                refine lv_goto (tgt := 25) hx hb dX0_spread_159 (by decide) ?_
                exact ih25 (i + 1) _ (by omega) (by omega) _ _ (hK.sub [0, 1, 2] rfl) (hP.sub [0, 1, 2, 3, 4] rfl) (hD.sub [0, 1, 2, 3, 4] (by decide) rfl) hS ls (lv_sub hl [2, 3, 4, 5, 6, 0] rfl)
        exact L25 _ (0) _ (Nat.lt_succ_self _) (by omega) _ _ (hK.sub [0, 1, 2] rfl) (hP.sub [0, 1, 2, 3, 4] rfl) (hD.sub [0, 1, 2, 3, 4] (by decide) rfl) hS ls (lv_sub hl [1, 2, 3, 4, 5, 0] rfl)
      · skip
        have c_1 : ¬ 36 ≤ i := fun q => c_1 ((nI_leI (a := 36) (b := i) (by omega) (by omega)).mpr q)
        refine lv_aload hx hb dX0_spread_10 (lv_at hl 4 rfl) ?_
        refine lv_iload hx hb dX0_spread_12 (lv_at hl 5 rfl) ?_
        refine lv_lconst (v := 0) hx hb dX0_spread_14 (by decide) ?_
        refine va_last hx hb hK hP hD hS 4 2 rfl rfl (vp_in_nI (n := i) (N := 36) (by omega) (by omega)) dX0_spread_15 (fun H locs hP hD hS => ?_)
        rw [nI_clamp (n := i) (by omega)] at hP hD
        have hP : va_P (dC, dI) vwCl [(zo2lirrr ch ft fr dr tO hO), (zaI dr cD 36 fD), (zo10ririliiriririr sc aTp (nI ts) aHl (nI nh) ed mi sn aHs (nI n) aWk (nI wz) aBk (nI bz) aFc), (zaL fa cA1 36 ff), (zaL ta cA2 36 (vp_updL tt2 i 0))] H := hP
        have hD : va_D A [(zo2lirrr ch ft fr dr tO hO), (zaI dr cD 36 fD), (zo10ririliiriririr sc aTp (nI ts) aHl (nI nh) ed mi sn aHs (nI n) aWk (nI wz) aBk (nI bz) aFc), (zaL fa cA1 36 ff), (zaL ta cA2 36 (vp_updL tt2 i 0))] := hD
        refine lv_iinc (v := nI (i + 1)) (lv' := [(5, .int (nI (i + 1))), (0, .ref ch), (1, .ref sc), (2, .ref fa), (3, .int (nI k)), (4, .ref ta)]) hx hb dX0_spread_16 hl (k := 5) rfl (nI_add i 1) (by decide) rfl (fun ls hl => ?_)
        refine lv_goto (tgt := 3) hx hb dX0_spread_19 (by decide) ?_
        exact ih3 (i + 1) _ (by omega) (by omega) _ _ (hK.sub [0, 1, 2] rfl) (hP.sub [0, 1, 2, 3, 4] rfl) (hD.sub [0, 1, 2, 3, 4] (by decide) rfl) hS ls (lv_sub hl [1, 2, 3, 4, 5, 0] rfl)
  exact L3 _ (0) _ (Nat.lt_succ_self _) (by omega) _ _ (hK.sub [0, 1, 2] rfl) (hP.sub [0, 1, 2, 3, 4] rfl) (hD.sub [0, 1, 2, 3, 4] (by decide) rfl) hS ls (lv_sub hl [1, 2, 3, 4, 5, 0] rfl)

theorem kc_xTellHits_0 : ∀ w ∈ wsX00, w ∈ wsX0_tellHits := fun w h => List.mem_cons_of_mem _ (gin_wsX00 w h)
theorem kc_xTellHits_1 : (.fieldLink RX0 22 "MistHeaps$Chances" "hits" "[[I" : Cond) ∈ wsX0_tellHits := kc_of 289 rfl rfl rfl
theorem kc_xTellHits_2 : ∀ w ∈ wsX80, w ∈ wsX0_tellHits := fun w h => List.mem_cons_of_mem _ (gin_wsX80 w h)
theorem kc_xTellHits_3 : (.fieldLink RX0 52 "MistHeaps$Scene" "edges" "J" : Cond) ∈ wsX0_tellHits := kc_of 162 rfl rfl rfl
theorem kc_xTellHits_4 : (.initialized RX11 : Cond) ∈ wsX0_tellHits := kc_of 63 rfl rfl rfl
theorem kc_xTellHits_5 : (.static yX11_isIn : Cond) ∈ wsX0_tellHits := kc_of 840 rfl rfl rfl
theorem kc_xTellHits_6 : (.fieldLink RX0 9 "MistHeaps$Chances" "drifts" "[I" : Cond) ∈ wsX0_tellHits := kc_of 287 rfl rfl rfl
theorem kc_xTellHits_7 : (.static yX11_besideOrSame : Cond) ∈ wsX0_tellHits := kc_of 844 rfl rfl rfl
set_option maxHeartbeats 4000000 in
set_option maxRecDepth 100000 in
theorem c_xTellHits (l : Launch) (dC : Nat → ClassId) (dI : Nat → Nat → Nat) (gd : Nat → Nat) (sc : Nat) (ch : Nat) (aTp : Nat) (aHl : Nat) (aHs : Nat) (aWk : Nat) (aBk : Nat) (aFc : Nat) (dr : Nat) (tO : Nat) (hO : Nat) (ts : Nat) (nh : Nat) (n : Nat) (wz : Nat) (bz : Nat) (i : Nat) (mi : Int32) (sn : Int32) (fr : Int32) (ed : Int64) (ft : Int64) (mk : Int64) (cD : ClassId) (cHO : ClassId) (cH : ClassId) (fD : Nat → Int32) (g0 : Nat → Int32) (g1 : Nat → Int32) (g2 : Nat → Int32) (g3 : Nat → Int32) (g4 : Nat → Int32) (g5 : Nat → Int32) (g6 : Nat → Int32) (g7 : Nat → Int32) (rh : Nat → Nat) (sz : Nat) : Met l yX0_tellHits wsX0_tellHits ({ frames := 2, cells := 0, slots := 0, locals := 44 } : Room) (va_Pc [.ref ch, .ref sc, .long mk] (fun U => U.heap.size = sz ∧ va_P (dC, dI) vwCl [(zo2lirrr ch ft fr dr tO hO), (zaI dr cD 36 fD), (zaR hO cHO 8 (fun i => if i < 8 then some (rh i) else none)), (zaI (rh 0) cH 36 g0), (zaI (rh 1) cH 36 g1), (zaI (rh 2) cH 36 g2), (zaI (rh 3) cH 36 g3), (zaI (rh 4) cH 36 g4), (zaI (rh 5) cH 36 g5), (zaI (rh 6) cH 36 g6), (zaI (rh 7) cH 36 g7), (zo10ririliiriririr sc aTp (nI ts) aHl (nI nh) ed mi sn aHs (nI n) aWk (nI wz) aBk (nI bz) aFc)] U.heap ∧ va_K (dC, dI) vwCl [(cD, .int), (cHO, .array .int), (cH, .int), (cH, .int), (cH, .int), (cH, .int), (cH, .int), (cH, .int), (cH, .int), (cH, .int)] U ∧ va_D (fun _ => True) [(zo2lirrr ch ft fr dr tO hO), (zaI dr cD 36 fD), (zaR hO cHO 8 (fun i => if i < 8 then some (rh i) else none)), (zaI (rh 0) cH 36 g0), (zaI (rh 1) cH 36 g1), (zaI (rh 2) cH 36 g2), (zaI (rh 3) cH 36 g3), (zaI (rh 4) cH 36 g4), (zaI (rh 5) cH 36 g5), (zaI (rh 6) cH 36 g6), (zaI (rh 7) cH 36 g7), (zo10ririliiriririr sc aTp (nI ts) aHl (nI nh) ed mi sn aHs (nI n) aWk (nI wz) aBk (nI bz) aFc)] ∧ Gl gd (va_A [(zo2lirrr ch ft fr dr tO hO), (zaI dr cD 36 fD), (zaR hO cHO 8 (fun i => if i < 8 then some (rh i) else none)), (zaI (rh 0) cH 36 g0), (zaI (rh 1) cH 36 g1), (zaI (rh 2) cH 36 g2), (zaI (rh 3) cH 36 g3), (zaI (rh 4) cH 36 g4), (zaI (rh 5) cH 36 g5), (zaI (rh 6) cH 36 g6), (zaI (rh 7) cH 36 g7), (zo10ririliiriririr sc aTp (nI ts) aHl (nI nh) ed mi sn aHs (nI n) aWk (nI wz) aBk (nI bz) aFc)] sz) U)) (va_Qv (fun (u : (Nat → Int32) × (Nat → Int32) × (Nat → Int32) × (Nat → Int32) × (Nat → Int32) × (Nat → Int32) × (Nat → Int32) × (Nat → Int32)) => match u with | (g09, g19, g29, g39, g49, g59, g69, g79) => True) (fun (u : (Nat → Int32) × (Nat → Int32) × (Nat → Int32) × (Nat → Int32) × (Nat → Int32) × (Nat → Int32) × (Nat → Int32) × (Nat → Int32)) (t : State) => match u with | (g09, g19, g29, g39, g49, g59, g69, g79) => va_P (dC, dI) vwCl [(zo2lirrr ch ft fr dr tO hO), (zaI dr cD 36 fD), (zaR hO cHO 8 (fun i => if i < 8 then some (rh i) else none)), (zaI (rh 0) cH 36 g09), (zaI (rh 1) cH 36 g19), (zaI (rh 2) cH 36 g29), (zaI (rh 3) cH 36 g39), (zaI (rh 4) cH 36 g49), (zaI (rh 5) cH 36 g59), (zaI (rh 6) cH 36 g69), (zaI (rh 7) cH 36 g79), (zo10ririliiriririr sc aTp (nI ts) aHl (nI nh) ed mi sn aHs (nI n) aWk (nI wz) aBk (nI bz) aFc)] t.heap ∧ va_K (dC, dI) vwCl [(cD, .int), (cHO, .array .int), (cH, .int), (cH, .int), (cH, .int), (cH, .int), (cH, .int), (cH, .int), (cH, .int), (cH, .int)] t ∧ va_D (va_A [(zo2lirrr ch ft fr dr tO hO), (zaI dr cD 36 fD), (zaR hO cHO 8 (fun i => if i < 8 then some (rh i) else none)), (zaI (rh 0) cH 36 g0), (zaI (rh 1) cH 36 g1), (zaI (rh 2) cH 36 g2), (zaI (rh 3) cH 36 g3), (zaI (rh 4) cH 36 g4), (zaI (rh 5) cH 36 g5), (zaI (rh 6) cH 36 g6), (zaI (rh 7) cH 36 g7), (zo10ririliiriririr sc aTp (nI ts) aHl (nI nh) ed mi sn aHs (nI n) aWk (nI wz) aBk (nI bz) aFc)] sz) [(zo2lirrr ch ft fr dr tO hO), (zaI dr cD 36 fD), (zaR hO cHO 8 (fun i => if i < 8 then some (rh i) else none)), (zaI (rh 0) cH 36 g09), (zaI (rh 1) cH 36 g19), (zaI (rh 2) cH 36 g29), (zaI (rh 3) cH 36 g39), (zaI (rh 4) cH 36 g49), (zaI (rh 5) cH 36 g59), (zaI (rh 6) cH 36 g69), (zaI (rh 7) cH 36 g79), (zo10ririliiriririr sc aTp (nI ts) aHl (nI nh) ed mi sn aHs (nI n) aWk (nI wz) aBk (nI bz) aFc)]) (va_A [(zo2lirrr ch ft fr dr tO hO), (zaI dr cD 36 fD), (zaR hO cHO 8 (fun i => if i < 8 then some (rh i) else none)), (zaI (rh 0) cH 36 g0), (zaI (rh 1) cH 36 g1), (zaI (rh 2) cH 36 g2), (zaI (rh 3) cH 36 g3), (zaI (rh 4) cH 36 g4), (zaI (rh 5) cH 36 g5), (zaI (rh 6) cH 36 g6), (zaI (rh 7) cH 36 g7), (zo10ririliiriririr sc aTp (nI ts) aHl (nI nh) ed mi sn aHs (nI n) aWk (nI wz) aBk (nI bz) aFc)] sz)) 0 0 (va_A [(zo2lirrr ch ft fr dr tO hO), (zaI dr cD 36 fD), (zaR hO cHO 8 (fun i => if i < 8 then some (rh i) else none)), (zaI (rh 0) cH 36 g0), (zaI (rh 1) cH 36 g1), (zaI (rh 2) cH 36 g2), (zaI (rh 3) cH 36 g3), (zaI (rh 4) cH 36 g4), (zaI (rh 5) cH 36 g5), (zaI (rh 6) cH 36 g6), (zaI (rh 7) cH 36 g7), (zo10ririliiriririr sc aTp (nI ts) aHl (nI nh) ed mi sn aHs (nI n) aWk (nI wz) aBk (nI bz) aFc)] sz) := by
  refine met_ofQ (cc := cX0_tellHits) (maxL := 6) (ret := none) (by decide) rfl ?_
  intro p e s m args below meth c s₁ Q B hml hv hQ
  obtain ⟨rfl, hsz, hP, hK, hD0, hG⟩ := hv
  have hx := B.exec
  have hb := B.bytes
  have hr := B.returns
  have hts := atoms_spec (ws := wsX0_tellHits) B.pre
  have hown : s.vm.findClass RX0 = some m.cls := findClass_of_methodNamed B.named
  have hlocks := B.notSynchronized
  subst hsz
  have hD := hD0.self (sz := s.heap.size)
  generalize hAe : va_A [(zo2lirrr ch ft fr dr tO hO), (zaI dr cD 36 fD), (zaR hO cHO 8 (fun i => if i < 8 then some (rh i) else none)), (zaI (rh 0) cH 36 g0), (zaI (rh 1) cH 36 g1), (zaI (rh 2) cH 36 g2), (zaI (rh 3) cH 36 g3), (zaI (rh 4) cH 36 g4), (zaI (rh 5) cH 36 g5), (zaI (rh 6) cH 36 g6), (zaI (rh 7) cH 36 g7), (zo10ririliiriririr sc aTp (nI ts) aHl (nI nh) ed mi sn aHs (nI n) aWk (nI wz) aBk (nI bz) aFc)] s.heap.size = A at hD hQ hG ⊢
  have hA : ∀ q : Nat, s.heap.size ≤ q → A q := fun q h => by rw [← hAe]; exact Or.inr h
  have hS : va_S A s.heap s.heap [] := va_S.rf
  have hl := lv_entry [.ref ch, .ref sc, .long mk] (n := 6) (Nat.le_of_ble_eq_true rfl)
  rw [lg_entry_eq]
  generalize (lg_sl [.ref ch, .ref sc, .long mk] ++ List.replicate (6 - (lg_sl [.ref ch, .ref sc, .long mk]).length) Slot.unset).toArray = ls at hl ⊢
  generalize hag : ([.ref ch, .ref sc, .long mk] : List Value).toArray = args at hts hQ ⊢
  have hl : lv_has ls 6 [(0, .ref ch), (1, .ref sc), (2, .long mk)] := hl
  obtain ⟨H, hH⟩ : ∃ H : Heap, H = s.heap := ⟨_, rfl⟩
  rw [← hH] at hP
  rw [← hH]
  have hS : va_S A s.heap H [] := by rw [hH]; exact hS
  obtain ⟨locs, hlo⟩ : ∃ L : List Loc, L = [] := ⟨_, rfl⟩
  rw [← hlo] at hS
  rw [← hlo]
  clear hH hlo
  refine lv_iconst (v := 0) hx hb dX0_tellHits_0 (by decide) ?_
  refine lv_istore (lv' := [(4, .int 0), (0, .ref ch), (1, .ref sc), (2, .long mk)]) hx hb dX0_tellHits_1 hl (by decide) rfl (fun ls hl => ?_)
  have L3 : ∀ (nF : Nat) (k : Nat) (g02 : Nat → Int32) (g12 : Nat → Int32) (g22 : Nat → Int32) (g32 : Nat → Int32) (g42 : Nat → Int32) (g52 : Nat → Int32) (g62 : Nat → Int32) (g72 : Nat → Int32), 8 - k < nF → (k ≤ 8) → ∀ (H : Heap) (locs : List Loc), va_K (dC, dI) vwCl [(cD, .int), (cHO, .array .int), (cH, .int), (cH, .int), (cH, .int), (cH, .int), (cH, .int), (cH, .int), (cH, .int), (cH, .int)] s → va_P (dC, dI) vwCl [(zo2lirrr ch ft fr dr tO hO), (zaI dr cD 36 fD), (zaR hO cHO 8 (fun i => if i < 8 then some (rh i) else none)), (zaI (rh 0) cH 36 g02), (zaI (rh 1) cH 36 g12), (zaI (rh 2) cH 36 g22), (zaI (rh 3) cH 36 g32), (zaI (rh 4) cH 36 g42), (zaI (rh 5) cH 36 g52), (zaI (rh 6) cH 36 g62), (zaI (rh 7) cH 36 g72), (zo10ririliiriririr sc aTp (nI ts) aHl (nI nh) ed mi sn aHs (nI n) aWk (nI wz) aBk (nI bz) aFc)] H → va_D A [(zo2lirrr ch ft fr dr tO hO), (zaI dr cD 36 fD), (zaR hO cHO 8 (fun i => if i < 8 then some (rh i) else none)), (zaI (rh 0) cH 36 g02), (zaI (rh 1) cH 36 g12), (zaI (rh 2) cH 36 g22), (zaI (rh 3) cH 36 g32), (zaI (rh 4) cH 36 g42), (zaI (rh 5) cH 36 g52), (zaI (rh 6) cH 36 g62), (zaI (rh 7) cH 36 g72), (zo10ririliiriririr sc aTp (nI ts) aHl (nI nh) ed mi sn aHs (nI n) aWk (nI wz) aBk (nI bz) aFc)] → va_S A s.heap H locs → ∀ (ls : Array Slot), lv_has ls 6 [(0, .ref ch), (1, .ref sc), (2, .long mk), (4, .int (nI k))] → W p l e ({ frames := 2, cells := 0, slots := 0, locals := 44 } : Room) s m args below meth c H locs 0 0 Q (F0 m 3 ls []) := by
    intro nF
    induction nF with
    | zero => intro k g02 g12 g22 g32 g42 g52 g62 g72 hm; exact absurd hm (Nat.not_lt_zero _)
    | succ nF ih3 =>
      intro k g02 g12 g22 g32 g42 g52 g62 g72 hm hik H locs hK hP hD hS ls hl
      refine lv_iload hx hb dX0_tellHits_3 (lv_at hl 3 rfl) ?_
      refine lv_bipush (v := 8) hx hb dX0_tellHits_5 (by decide) ?_
      refine lv_icmp_ge (tgt := 141) hx hb dX0_tellHits_7 (by decide) (fun c_1 => ?_) (fun c_1 => ?_)
      · skip
        have c_1 : 8 ≤ k := (nI_leI (a := 8) (b := k) (by omega) (by omega)).mp c_1
        rw [hQ]
        have hP9 := hP.sub (ws' := [(zo2lirrr ch ft fr dr tO hO), (zaI dr cD 36 fD), (zaR hO cHO 8 (fun i => if i < 8 then some (rh i) else none)), (zaI (rh 0) cH 36 g02), (zaI (rh 1) cH 36 g12), (zaI (rh 2) cH 36 g22), (zaI (rh 3) cH 36 g32), (zaI (rh 4) cH 36 g42), (zaI (rh 5) cH 36 g52), (zaI (rh 6) cH 36 g62), (zaI (rh 7) cH 36 g72), (zo10ririliiriririr sc aTp (nI ts) aHl (nI nh) ed mi sn aHs (nI n) aWk (nI wz) aBk (nI bz) aFc)]) [0, 1, 2, 3, 4, 5, 6, 7, 8, 9, 10, 11] rfl
        have hD9 := hD.sub (ws' := [(zo2lirrr ch ft fr dr tO hO), (zaI dr cD 36 fD), (zaR hO cHO 8 (fun i => if i < 8 then some (rh i) else none)), (zaI (rh 0) cH 36 g02), (zaI (rh 1) cH 36 g12), (zaI (rh 2) cH 36 g22), (zaI (rh 3) cH 36 g32), (zaI (rh 4) cH 36 g42), (zaI (rh 5) cH 36 g52), (zaI (rh 6) cH 36 g62), (zaI (rh 7) cH 36 g72), (zo10ririliiriririr sc aTp (nI ts) aHl (nI nh) ed mi sn aHs (nI n) aWk (nI wz) aBk (nI bz) aFc)]) [0, 1, 2, 3, 4, 5, 6, 7, 8, 9, 10, 11] (by decide) rfl
        have hK9 := hK.sub (tys' := [(cD, .int), (cHO, .array .int), (cH, .int), (cH, .int), (cH, .int), (cH, .int), (cH, .int), (cH, .int), (cH, .int), (cH, .int)]) [0, 1, 2, 3, 4, 5, 6, 7, 8, 9] rfl
        exact W.vret hx hb hr (fun tQ htQ hWQ => ⟨⟨(g02, g12, g22, g32, g42, g52, g62, g72), rfl, trivial, by rw [htQ]; exact hP9, va_K.moved hWQ.alike hK9, hD9⟩, hS.F htQ⟩) hS.2.2 dX0_tellHits_141
      · skip
        have c_1 : ¬ 8 ≤ k := fun q => c_1 ((nI_leI (a := 8) (b := k) (by omega) (by omega)).mpr q)
        rcases eight (k := k) (by omega) with rfl | rfl | rfl | rfl | rfl | rfl | rfl | rfl
        · skip
          refine lv_iconst (v := 0) hx hb dX0_tellHits_10 (by decide) ?_
          refine lv_istore (lv' := [(5, .int 0), (0, .ref ch), (1, .ref sc), (2, .long mk), (4, .int 0)]) hx hb dX0_tellHits_11 hl (by decide) rfl (fun ls hl => ?_)
          have L13 : ∀ (nF : Nat) (i : Nat) (f9 : Nat → Int32), 36 - i < nF → (i ≤ 36) → ∀ (H : Heap) (locs : List Loc), va_K (dC, dI) vwCl [(cD, .int), (cHO, .array .int), (cH, .int), (cH, .int), (cH, .int), (cH, .int), (cH, .int), (cH, .int), (cH, .int), (cH, .int)] s → va_P (dC, dI) vwCl [(zo2lirrr ch ft fr dr tO hO), (zaI dr cD 36 fD), (zaR hO cHO 8 (fun i => if i < 8 then some (rh i) else none)), (zaI (rh 0) cH 36 f9), (zaI (rh 1) cH 36 g12), (zaI (rh 2) cH 36 g22), (zaI (rh 3) cH 36 g32), (zaI (rh 4) cH 36 g42), (zaI (rh 5) cH 36 g52), (zaI (rh 6) cH 36 g62), (zaI (rh 7) cH 36 g72), (zo10ririliiriririr sc aTp (nI ts) aHl (nI nh) ed mi sn aHs (nI n) aWk (nI wz) aBk (nI bz) aFc)] H → va_D A [(zo2lirrr ch ft fr dr tO hO), (zaI dr cD 36 fD), (zaR hO cHO 8 (fun i => if i < 8 then some (rh i) else none)), (zaI (rh 0) cH 36 f9), (zaI (rh 1) cH 36 g12), (zaI (rh 2) cH 36 g22), (zaI (rh 3) cH 36 g32), (zaI (rh 4) cH 36 g42), (zaI (rh 5) cH 36 g52), (zaI (rh 6) cH 36 g62), (zaI (rh 7) cH 36 g72), (zo10ririliiriririr sc aTp (nI ts) aHl (nI nh) ed mi sn aHs (nI n) aWk (nI wz) aBk (nI bz) aFc)] → va_S A s.heap H locs → ∀ (ls : Array Slot), lv_has ls 6 [(0, .ref ch), (1, .ref sc), (2, .long mk), (4, .int 0), (5, .int (nI i))] → W p l e ({ frames := 2, cells := 0, slots := 0, locals := 44 } : Room) s m args below meth c H locs 0 0 Q (F0 m 13 ls []) := by
            intro nF
            induction nF with
            | zero => intro i f9 hm; exact absurd hm (Nat.not_lt_zero _)
            | succ nF ih13 =>
              intro i f9 hm hi H locs hK hP hD hS ls hl
              refine lv_iload hx hb dX0_tellHits_13 (lv_at hl 4 rfl) ?_
              refine lv_bipush (v := 36) hx hb dX0_tellHits_15 (by decide) ?_
              refine lv_icmp_ge (tgt := 135) hx hb dX0_tellHits_17 (by decide) (fun c_2 => ?_) (fun c_2 => ?_)
              · skip
                have c_2 : 36 ≤ i := (nI_leI (a := 36) (b := i) (by omega) (by omega)).mp c_2
                refine lv_iinc (v := 1) (lv' := [(4, .int 1), (0, .ref ch), (1, .ref sc), (2, .long mk), (5, .int (nI i))]) hx hb dX0_tellHits_135 hl (k := 3) rfl (by decide) (by decide) rfl (fun ls hl => ?_)
                refine lv_goto (tgt := 3) hx hb dX0_tellHits_138 (by decide) ?_
                exact ih3 (1) _ _ _ _ _ _ _ _ (by omega) (by omega) _ _ (hK.sub [0, 1, 2, 3, 4, 5, 6, 7, 8, 9] rfl) (hP.sub [0, 1, 2, 3, 4, 5, 6, 7, 8, 9, 10, 11] rfl) (hD.sub [0, 1, 2, 3, 4, 5, 6, 7, 8, 9, 10, 11] (by decide) rfl) hS ls (lv_sub hl [1, 2, 3, 0] rfl)
              · skip
                have c_2 : ¬ 36 ≤ i := fun q => c_2 ((nI_leI (a := 36) (b := i) (by omega) (by omega)).mpr q)
                refine lv_aload_n hx hb dX0_tellHits_20 rfl (lv_at hl 0 rfl) ?_
                refine va_get (D := (dC, dI)) (ci := 2) (v := .ref hO) (C := RX0) (T := TX0) (N := 5) hx hb hts kc_xTellHits_0 hown hK hP 0 rfl rfl 4 (by decide) (hts (.fieldLink RX0 22 "MistHeaps$Chances" "hits" "[[I") kc_xTellHits_1) (fun _ h9 => h9) rfl dX0_tellHits_21 ?_
                refine lv_iload hx hb dX0_tellHits_24 (lv_at hl 3 rfl) ?_
                refine va_alda hx hb hK hP 2 1 rfl rfl (vp_in_nI (n := 0) (N := 8) (by omega) (by omega)) dX0_tellHits_26 ?_
                refine qq_as (v := .ref (rh 0)) (rfl) ?_
                refine lv_iload hx hb dX0_tellHits_27 (lv_at hl 4 rfl) ?_
                refine lv_aload_n hx hb dX0_tellHits_29 rfl (lv_at hl 1 rfl) ?_
                refine va_get (D := (dC, dI)) (ci := 10) (v := .long ed) (C := RX8) (T := TX8) (N := 14) hx hb hts kc_xTellHits_2 hown hK hP 11 rfl rfl 4 (by decide) (hts (.fieldLink RX0 52 "MistHeaps$Scene" "edges" "J") kc_xTellHits_3) (fun _ h9 => h9) rfl dX0_tellHits_30 ?_
                refine lv_iload hx hb dX0_tellHits_33 (lv_at hl 4 rfl) ?_
                refine vp_callSi (va_runSN (As := [.long ed, .int (nI i)]) (rest := [.int (nI i), .ref (rh 0)]) ⟨hx, hb, hml, hown, hts⟩ (c_isIn l dC dI ed (nI i)) ⟨va_cnB 2 hts ggX0_tellHits_X11_isIn rfl rfl rfl (hG.1 (.methodLinkNest RX0 44 yX11_isIn "MistHeaps") (by decide +kernel)) (hts (.initialized RX11) kc_xTellHits_4) (by decide +kernel) ⟨Nat.le_of_ble_eq_true rfl, Nat.le_of_ble_eq_true rfl⟩, (hts (.static yX11_isIn) kc_xTellHits_5), trivial⟩ ⟨fun a U g mk q => ⟨q.1, trivial⟩, fun U hU hW => ⟨rfl, trivial⟩⟩ rfl rfl hl.1 rfl (lv_room (Nat.le_of_ble_eq_true rfl)) dX0_tellHits_35 ⟨Nat.le_of_ble_eq_true rfl, Nat.le_of_ble_eq_true rfl⟩).run (fun r_3 hw_4 => ?_)
                rcases hw_4 with rfl | rfl
                · skip
                  refine lv_if_eq (tgt := 53) hx hb dX0_tellHits_38 (by decide) (fun c_5 => absurd c_5 (by decide)) (fun _ => ?_)
                  refine lv_bipush (v := 20) hx hb dX0_tellHits_41 (by decide) ?_
                  refine lv_lload_n hx hb dX0_tellHits_43 rfl (lv_at hl 2 rfl) ?_
                  refine lv_iload hx hb dX0_tellHits_44 (lv_at hl 4 rfl) ?_
                  refine vp_callSi (va_runS (As := [.long mk, .int (nI i)]) (rest := [.int 20, .int (nI i), .ref (rh 0)]) ⟨hx, hb, hml, hown, hts⟩ (c_hit l dC dI gd mk (nI i)) (va_cwS 2 hts gX0_tellHits_X0_hit rfl rfl rfl hd_yX0_hit.2 ⟨Nat.le_of_ble_eq_true rfl, Nat.le_of_ble_eq_true rfl⟩) ⟨fun a U g mk q => by obtain ⟨q0, qhG⟩ := q; exact ⟨q0, qhG.same rfl rfl⟩, fun U hU hW => ⟨rfl, hG.callF hS hU hW⟩⟩ rfl rfl hl.1 rfl (lv_room (Nat.le_of_ble_eq_true rfl)) dX0_tellHits_46 ⟨Nat.le_of_ble_eq_true rfl, Nat.le_of_ble_eq_true rfl⟩).run (fun r_6 hw_7 => ?_)
                  refine lv_imul hx hb dX0_tellHits_49 ?_
                  refine lv_goto (tgt := 128) hx hb dX0_tellHits_50 (by decide) ?_
                  refine va_iast hx hb hK hP hD hS 3 2 rfl rfl (vp_in_nI (n := i) (N := 36) (by omega) (by omega)) dX0_tellHits_128 (fun H locs hP hD hS => ?_)
                  rw [nI_clamp (n := i) (by omega)] at hP hD
                  have hP : va_P (dC, dI) vwCl [(zo2lirrr ch ft fr dr tO hO), (zaI dr cD 36 fD), (zaR hO cHO 8 (fun i => if i < 8 then some (rh i) else none)), (zaI (rh 0) cH 36 (upd f9 i (20 * r_6))), (zaI (rh 1) cH 36 g12), (zaI (rh 2) cH 36 g22), (zaI (rh 3) cH 36 g32), (zaI (rh 4) cH 36 g42), (zaI (rh 5) cH 36 g52), (zaI (rh 6) cH 36 g62), (zaI (rh 7) cH 36 g72), (zo10ririliiriririr sc aTp (nI ts) aHl (nI nh) ed mi sn aHs (nI n) aWk (nI wz) aBk (nI bz) aFc)] H := hP
                  have hD : va_D A [(zo2lirrr ch ft fr dr tO hO), (zaI dr cD 36 fD), (zaR hO cHO 8 (fun i => if i < 8 then some (rh i) else none)), (zaI (rh 0) cH 36 (upd f9 i (20 * r_6))), (zaI (rh 1) cH 36 g12), (zaI (rh 2) cH 36 g22), (zaI (rh 3) cH 36 g32), (zaI (rh 4) cH 36 g42), (zaI (rh 5) cH 36 g52), (zaI (rh 6) cH 36 g62), (zaI (rh 7) cH 36 g72), (zo10ririliiriririr sc aTp (nI ts) aHl (nI nh) ed mi sn aHs (nI n) aWk (nI wz) aBk (nI bz) aFc)] := hD
                  refine lv_iinc (v := nI (i + 1)) (lv' := [(5, .int (nI (i + 1))), (0, .ref ch), (1, .ref sc), (2, .long mk), (4, .int 0)]) hx hb dX0_tellHits_129 hl (k := 4) rfl (nI_add i 1) (by decide) rfl (fun ls hl => ?_)
                  refine lv_goto (tgt := 13) hx hb dX0_tellHits_132 (by decide) ?_
                  exact ih13 (i + 1) _ (by omega) (by omega) _ _ (hK.sub [0, 1, 2, 3, 4, 5, 6, 7, 8, 9] rfl) (hP.sub [0, 1, 2, 3, 4, 5, 6, 7, 8, 9, 10, 11] rfl) (hD.sub [0, 1, 2, 3, 4, 5, 6, 7, 8, 9, 10, 11] (by decide) rfl) hS ls (lv_sub hl [1, 2, 3, 4, 0] rfl)
                · skip
                  refine lv_if_eq (tgt := 53) hx hb dX0_tellHits_38 (by decide) (fun _ => ?_) (fun c_8 => absurd c_8 (by decide))
                  refine lv_bipush (v := 20) hx hb dX0_tellHits_53 (by decide) ?_
                  refine lv_iconst (v := 2) hx hb dX0_tellHits_55 (by decide) ?_
                  refine lv_aload_n hx hb dX0_tellHits_56 rfl (lv_at hl 0 rfl) ?_
                  refine va_get (D := (dC, dI)) (ci := 2) (v := .ref dr) (C := RX0) (T := TX0) (N := 5) hx hb hts kc_xTellHits_0 hown hK hP 0 rfl rfl 2 (by decide) (hts (.fieldLink RX0 9 "MistHeaps$Chances" "drifts" "[I") kc_xTellHits_6) (fun _ h9 => h9) rfl dX0_tellHits_57 ?_
                  refine lv_iload hx hb dX0_tellHits_60 (lv_at hl 4 rfl) ?_
                  refine va_iald hx hb hK hP 1 0 rfl rfl (vp_in_nI (n := i) (N := 36) (by omega) (by omega)) dX0_tellHits_62 ?_
                  refine qi_as (y := fD i) (by rw [nI_clamp (by omega)]) ?_
                  refine lv_imul hx hb dX0_tellHits_63 ?_
                  refine lv_isub hx hb dX0_tellHits_64 ?_
                  refine lv_lload_n hx hb dX0_tellHits_65 rfl (lv_at hl 2 rfl) ?_
                  refine lv_iload hx hb dX0_tellHits_66 (lv_at hl 4 rfl) ?_
                  refine lv_iload hx hb dX0_tellHits_68 (lv_at hl 3 rfl) ?_
                  refine vp_callSi (va_runSN (As := [.int (nI i), .int 0]) (rest := [.long mk, .int (20 - (2 * (fD i))), .int (nI i), .ref (rh 0)]) ⟨hx, hb, hml, hown, hts⟩ (c_beside l dC dI gd i 0 (by omega) (by omega)) ⟨va_cnB 2 hts ggX0_tellHits_X11_besideOrSame rfl rfl rfl (hG.1 (.methodLinkNest RX0 56 yX11_besideOrSame "MistHeaps") (by decide +kernel)) (hts (.initialized RX11) kc_xTellHits_4) (by decide +kernel) ⟨Nat.le_of_ble_eq_true rfl, Nat.le_of_ble_eq_true rfl⟩, (hts (.static yX11_besideOrSame) kc_xTellHits_7), trivial⟩ ⟨fun a U g mk q => by obtain ⟨q0, qhG⟩ := q; exact ⟨q0, qhG.same rfl rfl⟩, fun U hU hW => ⟨rfl, hG.callF hS hU hW⟩⟩ rfl rfl hl.1 rfl (lv_room (Nat.le_of_ble_eq_true rfl)) dX0_tellHits_70 ⟨Nat.le_of_ble_eq_true rfl, Nat.le_of_ble_eq_true rfl⟩).run (fun r_9 hw_10 => ?_)
                  obtain ⟨k_11, hk_12, rfl⟩ := hw_10
                  refine vp_callSi (va_runS (As := [.long mk, .int (nI k_11)]) (rest := [.int (20 - (2 * (fD i))), .int (nI i), .ref (rh 0)]) ⟨hx, hb, hml, hown, hts⟩ (c_hit l dC dI gd mk (nI k_11)) (va_cwS 2 hts gX0_tellHits_X0_hit rfl rfl rfl hd_yX0_hit.2 ⟨Nat.le_of_ble_eq_true rfl, Nat.le_of_ble_eq_true rfl⟩) ⟨fun a U g mk q => by obtain ⟨q0, qhG⟩ := q; exact ⟨q0, qhG.same rfl rfl⟩, fun U hU hW => ⟨rfl, hG.callF hS hU hW⟩⟩ rfl rfl hl.1 rfl (lv_room (Nat.le_of_ble_eq_true rfl)) dX0_tellHits_73 ⟨Nat.le_of_ble_eq_true rfl, Nat.le_of_ble_eq_true rfl⟩).run (fun r_13 hw_14 => ?_)
                  refine lv_imul hx hb dX0_tellHits_76 ?_
                  refine lv_aload_n hx hb dX0_tellHits_77 rfl (lv_at hl 0 rfl) ?_
                  refine va_get (D := (dC, dI)) (ci := 2) (v := .ref dr) (C := RX0) (T := TX0) (N := 5) hx hb hts kc_xTellHits_0 hown hK hP 0 rfl rfl 2 (by decide) (hts (.fieldLink RX0 9 "MistHeaps$Chances" "drifts" "[I") kc_xTellHits_6) (fun _ h9 => h9) rfl dX0_tellHits_78 ?_
                  refine lv_iload hx hb dX0_tellHits_81 (lv_at hl 4 rfl) ?_
                  refine va_iald hx hb hK hP 1 0 rfl rfl (vp_in_nI (n := i) (N := 36) (by omega) (by omega)) dX0_tellHits_83 ?_
                  refine qi_as (y := fD i) (by rw [nI_clamp (by omega)]) ?_
                  refine lv_lload_n hx hb dX0_tellHits_84 rfl (lv_at hl 2 rfl) ?_
                  refine lv_iload hx hb dX0_tellHits_85 (lv_at hl 4 rfl) ?_
                  refine lv_iload hx hb dX0_tellHits_87 (lv_at hl 3 rfl) ?_
                  refine lv_bipush (v := 7) hx hb dX0_tellHits_89 (by decide) ?_
                  refine lv_iadd hx hb dX0_tellHits_91 ?_
                  refine qi_as (y := 7) (by decide) ?_
                  refine lv_bipush (v := 7) hx hb dX0_tellHits_92 (by decide) ?_
                  refine lv_iand hx hb dX0_tellHits_94 ?_
                  refine qi_as (y := 7) (by decide) ?_
                  refine vp_callSi (va_runSN (As := [.int (nI i), .int 7]) (rest := [.long mk, .int (fD i), .int ((20 - (2 * (fD i))) * r_13), .int (nI i), .ref (rh 0)]) ⟨hx, hb, hml, hown, hts⟩ (c_beside l dC dI gd i 7 (by omega) (by omega)) ⟨va_cnB 2 hts ggX0_tellHits_X11_besideOrSame rfl rfl rfl (hG.1 (.methodLinkNest RX0 56 yX11_besideOrSame "MistHeaps") (by decide +kernel)) (hts (.initialized RX11) kc_xTellHits_4) (by decide +kernel) ⟨Nat.le_of_ble_eq_true rfl, Nat.le_of_ble_eq_true rfl⟩, (hts (.static yX11_besideOrSame) kc_xTellHits_7), trivial⟩ ⟨fun a U g mk q => by obtain ⟨q0, qhG⟩ := q; exact ⟨q0, qhG.same rfl rfl⟩, fun U hU hW => ⟨rfl, hG.callF hS hU hW⟩⟩ rfl rfl hl.1 rfl (lv_room (Nat.le_of_ble_eq_true rfl)) dX0_tellHits_95 ⟨Nat.le_of_ble_eq_true rfl, Nat.le_of_ble_eq_true rfl⟩).run (fun r_15 hw_16 => ?_)
                  obtain ⟨k_17, hk_18, rfl⟩ := hw_16
                  refine vp_callSi (va_runS (As := [.long mk, .int (nI k_17)]) (rest := [.int (fD i), .int ((20 - (2 * (fD i))) * r_13), .int (nI i), .ref (rh 0)]) ⟨hx, hb, hml, hown, hts⟩ (c_hit l dC dI gd mk (nI k_17)) (va_cwS 2 hts gX0_tellHits_X0_hit rfl rfl rfl hd_yX0_hit.2 ⟨Nat.le_of_ble_eq_true rfl, Nat.le_of_ble_eq_true rfl⟩) ⟨fun a U g mk q => by obtain ⟨q0, qhG⟩ := q; exact ⟨q0, qhG.same rfl rfl⟩, fun U hU hW => ⟨rfl, hG.callF hS hU hW⟩⟩ rfl rfl hl.1 rfl (lv_room (Nat.le_of_ble_eq_true rfl)) dX0_tellHits_98 ⟨Nat.le_of_ble_eq_true rfl, Nat.le_of_ble_eq_true rfl⟩).run (fun r_19 hw_20 => ?_)
                  refine lv_imul hx hb dX0_tellHits_101 ?_
                  refine lv_iadd hx hb dX0_tellHits_102 ?_
                  refine lv_aload_n hx hb dX0_tellHits_103 rfl (lv_at hl 0 rfl) ?_
                  refine va_get (D := (dC, dI)) (ci := 2) (v := .ref dr) (C := RX0) (T := TX0) (N := 5) hx hb hts kc_xTellHits_0 hown hK hP 0 rfl rfl 2 (by decide) (hts (.fieldLink RX0 9 "MistHeaps$Chances" "drifts" "[I") kc_xTellHits_6) (fun _ h9 => h9) rfl dX0_tellHits_104 ?_
                  refine lv_iload hx hb dX0_tellHits_107 (lv_at hl 4 rfl) ?_
                  refine va_iald hx hb hK hP 1 0 rfl rfl (vp_in_nI (n := i) (N := 36) (by omega) (by omega)) dX0_tellHits_109 ?_
                  refine qi_as (y := fD i) (by rw [nI_clamp (by omega)]) ?_
                  refine lv_lload_n hx hb dX0_tellHits_110 rfl (lv_at hl 2 rfl) ?_
                  refine lv_iload hx hb dX0_tellHits_111 (lv_at hl 4 rfl) ?_
                  refine lv_iload hx hb dX0_tellHits_113 (lv_at hl 3 rfl) ?_
                  refine lv_iconst (v := 1) hx hb dX0_tellHits_115 (by decide) ?_
                  refine lv_iadd hx hb dX0_tellHits_116 ?_
                  refine qi_as (y := 1) (by decide) ?_
                  refine lv_bipush (v := 7) hx hb dX0_tellHits_117 (by decide) ?_
                  refine lv_iand hx hb dX0_tellHits_119 ?_
                  refine qi_as (y := 1) (by decide) ?_
                  refine vp_callSi (va_runSN (As := [.int (nI i), .int 1]) (rest := [.long mk, .int (fD i), .int (((20 - (2 * (fD i))) * r_13) + ((fD i) * r_19)), .int (nI i), .ref (rh 0)]) ⟨hx, hb, hml, hown, hts⟩ (c_beside l dC dI gd i 1 (by omega) (by omega)) ⟨va_cnB 2 hts ggX0_tellHits_X11_besideOrSame rfl rfl rfl (hG.1 (.methodLinkNest RX0 56 yX11_besideOrSame "MistHeaps") (by decide +kernel)) (hts (.initialized RX11) kc_xTellHits_4) (by decide +kernel) ⟨Nat.le_of_ble_eq_true rfl, Nat.le_of_ble_eq_true rfl⟩, (hts (.static yX11_besideOrSame) kc_xTellHits_7), trivial⟩ ⟨fun a U g mk q => by obtain ⟨q0, qhG⟩ := q; exact ⟨q0, qhG.same rfl rfl⟩, fun U hU hW => ⟨rfl, hG.callF hS hU hW⟩⟩ rfl rfl hl.1 rfl (lv_room (Nat.le_of_ble_eq_true rfl)) dX0_tellHits_120 ⟨Nat.le_of_ble_eq_true rfl, Nat.le_of_ble_eq_true rfl⟩).run (fun r_21 hw_22 => ?_)
                  obtain ⟨k_23, hk_24, rfl⟩ := hw_22
                  refine vp_callSi (va_runS (As := [.long mk, .int (nI k_23)]) (rest := [.int (fD i), .int (((20 - (2 * (fD i))) * r_13) + ((fD i) * r_19)), .int (nI i), .ref (rh 0)]) ⟨hx, hb, hml, hown, hts⟩ (c_hit l dC dI gd mk (nI k_23)) (va_cwS 2 hts gX0_tellHits_X0_hit rfl rfl rfl hd_yX0_hit.2 ⟨Nat.le_of_ble_eq_true rfl, Nat.le_of_ble_eq_true rfl⟩) ⟨fun a U g mk q => by obtain ⟨q0, qhG⟩ := q; exact ⟨q0, qhG.same rfl rfl⟩, fun U hU hW => ⟨rfl, hG.callF hS hU hW⟩⟩ rfl rfl hl.1 rfl (lv_room (Nat.le_of_ble_eq_true rfl)) dX0_tellHits_123 ⟨Nat.le_of_ble_eq_true rfl, Nat.le_of_ble_eq_true rfl⟩).run (fun r_25 hw_26 => ?_)
                  refine lv_imul hx hb dX0_tellHits_126 ?_
                  refine lv_iadd hx hb dX0_tellHits_127 ?_
                  refine va_iast hx hb hK hP hD hS 3 2 rfl rfl (vp_in_nI (n := i) (N := 36) (by omega) (by omega)) dX0_tellHits_128 (fun H locs hP hD hS => ?_)
                  rw [nI_clamp (n := i) (by omega)] at hP hD
                  have hP : va_P (dC, dI) vwCl [(zo2lirrr ch ft fr dr tO hO), (zaI dr cD 36 fD), (zaR hO cHO 8 (fun i => if i < 8 then some (rh i) else none)), (zaI (rh 0) cH 36 (upd f9 i ((((20 - (2 * (fD i))) * r_13) + ((fD i) * r_19)) + ((fD i) * r_25)))), (zaI (rh 1) cH 36 g12), (zaI (rh 2) cH 36 g22), (zaI (rh 3) cH 36 g32), (zaI (rh 4) cH 36 g42), (zaI (rh 5) cH 36 g52), (zaI (rh 6) cH 36 g62), (zaI (rh 7) cH 36 g72), (zo10ririliiriririr sc aTp (nI ts) aHl (nI nh) ed mi sn aHs (nI n) aWk (nI wz) aBk (nI bz) aFc)] H := hP
                  have hD : va_D A [(zo2lirrr ch ft fr dr tO hO), (zaI dr cD 36 fD), (zaR hO cHO 8 (fun i => if i < 8 then some (rh i) else none)), (zaI (rh 0) cH 36 (upd f9 i ((((20 - (2 * (fD i))) * r_13) + ((fD i) * r_19)) + ((fD i) * r_25)))), (zaI (rh 1) cH 36 g12), (zaI (rh 2) cH 36 g22), (zaI (rh 3) cH 36 g32), (zaI (rh 4) cH 36 g42), (zaI (rh 5) cH 36 g52), (zaI (rh 6) cH 36 g62), (zaI (rh 7) cH 36 g72), (zo10ririliiriririr sc aTp (nI ts) aHl (nI nh) ed mi sn aHs (nI n) aWk (nI wz) aBk (nI bz) aFc)] := hD
                  refine lv_iinc (v := nI (i + 1)) (lv' := [(5, .int (nI (i + 1))), (0, .ref ch), (1, .ref sc), (2, .long mk), (4, .int 0)]) hx hb dX0_tellHits_129 hl (k := 4) rfl (nI_add i 1) (by decide) rfl (fun ls hl => ?_)
                  refine lv_goto (tgt := 13) hx hb dX0_tellHits_132 (by decide) ?_
                  exact ih13 (i + 1) _ (by omega) (by omega) _ _ (hK.sub [0, 1, 2, 3, 4, 5, 6, 7, 8, 9] rfl) (hP.sub [0, 1, 2, 3, 4, 5, 6, 7, 8, 9, 10, 11] rfl) (hD.sub [0, 1, 2, 3, 4, 5, 6, 7, 8, 9, 10, 11] (by decide) rfl) hS ls (lv_sub hl [1, 2, 3, 4, 0] rfl)
          exact L13 _ (0) _ (Nat.lt_succ_self _) (by omega) _ _ (hK.sub [0, 1, 2, 3, 4, 5, 6, 7, 8, 9] rfl) (hP.sub [0, 1, 2, 3, 4, 5, 6, 7, 8, 9, 10, 11] rfl) (hD.sub [0, 1, 2, 3, 4, 5, 6, 7, 8, 9, 10, 11] (by decide) rfl) hS ls (lv_sub hl [1, 2, 3, 4, 0] rfl)
        · skip
          refine lv_iconst (v := 0) hx hb dX0_tellHits_10 (by decide) ?_
          refine lv_istore (lv' := [(5, .int 0), (0, .ref ch), (1, .ref sc), (2, .long mk), (4, .int 1)]) hx hb dX0_tellHits_11 hl (by decide) rfl (fun ls hl => ?_)
          have L13 : ∀ (nF : Nat) (i : Nat) (f9 : Nat → Int32), 36 - i < nF → (i ≤ 36) → ∀ (H : Heap) (locs : List Loc), va_K (dC, dI) vwCl [(cD, .int), (cHO, .array .int), (cH, .int), (cH, .int), (cH, .int), (cH, .int), (cH, .int), (cH, .int), (cH, .int), (cH, .int)] s → va_P (dC, dI) vwCl [(zo2lirrr ch ft fr dr tO hO), (zaI dr cD 36 fD), (zaR hO cHO 8 (fun i => if i < 8 then some (rh i) else none)), (zaI (rh 0) cH 36 g02), (zaI (rh 1) cH 36 f9), (zaI (rh 2) cH 36 g22), (zaI (rh 3) cH 36 g32), (zaI (rh 4) cH 36 g42), (zaI (rh 5) cH 36 g52), (zaI (rh 6) cH 36 g62), (zaI (rh 7) cH 36 g72), (zo10ririliiriririr sc aTp (nI ts) aHl (nI nh) ed mi sn aHs (nI n) aWk (nI wz) aBk (nI bz) aFc)] H → va_D A [(zo2lirrr ch ft fr dr tO hO), (zaI dr cD 36 fD), (zaR hO cHO 8 (fun i => if i < 8 then some (rh i) else none)), (zaI (rh 0) cH 36 g02), (zaI (rh 1) cH 36 f9), (zaI (rh 2) cH 36 g22), (zaI (rh 3) cH 36 g32), (zaI (rh 4) cH 36 g42), (zaI (rh 5) cH 36 g52), (zaI (rh 6) cH 36 g62), (zaI (rh 7) cH 36 g72), (zo10ririliiriririr sc aTp (nI ts) aHl (nI nh) ed mi sn aHs (nI n) aWk (nI wz) aBk (nI bz) aFc)] → va_S A s.heap H locs → ∀ (ls : Array Slot), lv_has ls 6 [(0, .ref ch), (1, .ref sc), (2, .long mk), (4, .int 1), (5, .int (nI i))] → W p l e ({ frames := 2, cells := 0, slots := 0, locals := 44 } : Room) s m args below meth c H locs 0 0 Q (F0 m 13 ls []) := by
            intro nF
            induction nF with
            | zero => intro i f9 hm; exact absurd hm (Nat.not_lt_zero _)
            | succ nF ih13 =>
              intro i f9 hm hi H locs hK hP hD hS ls hl
              refine lv_iload hx hb dX0_tellHits_13 (lv_at hl 4 rfl) ?_
              refine lv_bipush (v := 36) hx hb dX0_tellHits_15 (by decide) ?_
              refine lv_icmp_ge (tgt := 135) hx hb dX0_tellHits_17 (by decide) (fun c_27 => ?_) (fun c_27 => ?_)
              · skip
                have c_27 : 36 ≤ i := (nI_leI (a := 36) (b := i) (by omega) (by omega)).mp c_27
                refine lv_iinc (v := 2) (lv' := [(4, .int 2), (0, .ref ch), (1, .ref sc), (2, .long mk), (5, .int (nI i))]) hx hb dX0_tellHits_135 hl (k := 3) rfl (by decide) (by decide) rfl (fun ls hl => ?_)
                refine lv_goto (tgt := 3) hx hb dX0_tellHits_138 (by decide) ?_
                exact ih3 (2) _ _ _ _ _ _ _ _ (by omega) (by omega) _ _ (hK.sub [0, 1, 2, 3, 4, 5, 6, 7, 8, 9] rfl) (hP.sub [0, 1, 2, 3, 4, 5, 6, 7, 8, 9, 10, 11] rfl) (hD.sub [0, 1, 2, 3, 4, 5, 6, 7, 8, 9, 10, 11] (by decide) rfl) hS ls (lv_sub hl [1, 2, 3, 0] rfl)
              · skip
                have c_27 : ¬ 36 ≤ i := fun q => c_27 ((nI_leI (a := 36) (b := i) (by omega) (by omega)).mpr q)
                refine lv_aload_n hx hb dX0_tellHits_20 rfl (lv_at hl 0 rfl) ?_
                refine va_get (D := (dC, dI)) (ci := 2) (v := .ref hO) (C := RX0) (T := TX0) (N := 5) hx hb hts kc_xTellHits_0 hown hK hP 0 rfl rfl 4 (by decide) (hts (.fieldLink RX0 22 "MistHeaps$Chances" "hits" "[[I") kc_xTellHits_1) (fun _ h9 => h9) rfl dX0_tellHits_21 ?_
                refine lv_iload hx hb dX0_tellHits_24 (lv_at hl 3 rfl) ?_
                refine va_alda hx hb hK hP 2 1 rfl rfl (vp_in_nI (n := 1) (N := 8) (by omega) (by omega)) dX0_tellHits_26 ?_
                refine qq_as (v := .ref (rh 1)) (rfl) ?_
                refine lv_iload hx hb dX0_tellHits_27 (lv_at hl 4 rfl) ?_
                refine lv_aload_n hx hb dX0_tellHits_29 rfl (lv_at hl 1 rfl) ?_
                refine va_get (D := (dC, dI)) (ci := 10) (v := .long ed) (C := RX8) (T := TX8) (N := 14) hx hb hts kc_xTellHits_2 hown hK hP 11 rfl rfl 4 (by decide) (hts (.fieldLink RX0 52 "MistHeaps$Scene" "edges" "J") kc_xTellHits_3) (fun _ h9 => h9) rfl dX0_tellHits_30 ?_
                refine lv_iload hx hb dX0_tellHits_33 (lv_at hl 4 rfl) ?_
                refine vp_callSi (va_runSN (As := [.long ed, .int (nI i)]) (rest := [.int (nI i), .ref (rh 1)]) ⟨hx, hb, hml, hown, hts⟩ (c_isIn l dC dI ed (nI i)) ⟨va_cnB 2 hts ggX0_tellHits_X11_isIn rfl rfl rfl (hG.1 (.methodLinkNest RX0 44 yX11_isIn "MistHeaps") (by decide +kernel)) (hts (.initialized RX11) kc_xTellHits_4) (by decide +kernel) ⟨Nat.le_of_ble_eq_true rfl, Nat.le_of_ble_eq_true rfl⟩, (hts (.static yX11_isIn) kc_xTellHits_5), trivial⟩ ⟨fun a U g mk q => ⟨q.1, trivial⟩, fun U hU hW => ⟨rfl, trivial⟩⟩ rfl rfl hl.1 rfl (lv_room (Nat.le_of_ble_eq_true rfl)) dX0_tellHits_35 ⟨Nat.le_of_ble_eq_true rfl, Nat.le_of_ble_eq_true rfl⟩).run (fun r_28 hw_29 => ?_)
                rcases hw_29 with rfl | rfl
                · skip
                  refine lv_if_eq (tgt := 53) hx hb dX0_tellHits_38 (by decide) (fun c_30 => absurd c_30 (by decide)) (fun _ => ?_)
                  refine lv_bipush (v := 20) hx hb dX0_tellHits_41 (by decide) ?_
                  refine lv_lload_n hx hb dX0_tellHits_43 rfl (lv_at hl 2 rfl) ?_
                  refine lv_iload hx hb dX0_tellHits_44 (lv_at hl 4 rfl) ?_
                  refine vp_callSi (va_runS (As := [.long mk, .int (nI i)]) (rest := [.int 20, .int (nI i), .ref (rh 1)]) ⟨hx, hb, hml, hown, hts⟩ (c_hit l dC dI gd mk (nI i)) (va_cwS 2 hts gX0_tellHits_X0_hit rfl rfl rfl hd_yX0_hit.2 ⟨Nat.le_of_ble_eq_true rfl, Nat.le_of_ble_eq_true rfl⟩) ⟨fun a U g mk q => by obtain ⟨q0, qhG⟩ := q; exact ⟨q0, qhG.same rfl rfl⟩, fun U hU hW => ⟨rfl, hG.callF hS hU hW⟩⟩ rfl rfl hl.1 rfl (lv_room (Nat.le_of_ble_eq_true rfl)) dX0_tellHits_46 ⟨Nat.le_of_ble_eq_true rfl, Nat.le_of_ble_eq_true rfl⟩).run (fun r_31 hw_32 => ?_)
                  refine lv_imul hx hb dX0_tellHits_49 ?_
                  refine lv_goto (tgt := 128) hx hb dX0_tellHits_50 (by decide) ?_
                  refine va_iast hx hb hK hP hD hS 4 3 rfl rfl (vp_in_nI (n := i) (N := 36) (by omega) (by omega)) dX0_tellHits_128 (fun H locs hP hD hS => ?_)
                  rw [nI_clamp (n := i) (by omega)] at hP hD
                  have hP : va_P (dC, dI) vwCl [(zo2lirrr ch ft fr dr tO hO), (zaI dr cD 36 fD), (zaR hO cHO 8 (fun i => if i < 8 then some (rh i) else none)), (zaI (rh 0) cH 36 g02), (zaI (rh 1) cH 36 (upd f9 i (20 * r_31))), (zaI (rh 2) cH 36 g22), (zaI (rh 3) cH 36 g32), (zaI (rh 4) cH 36 g42), (zaI (rh 5) cH 36 g52), (zaI (rh 6) cH 36 g62), (zaI (rh 7) cH 36 g72), (zo10ririliiriririr sc aTp (nI ts) aHl (nI nh) ed mi sn aHs (nI n) aWk (nI wz) aBk (nI bz) aFc)] H := hP
                  have hD : va_D A [(zo2lirrr ch ft fr dr tO hO), (zaI dr cD 36 fD), (zaR hO cHO 8 (fun i => if i < 8 then some (rh i) else none)), (zaI (rh 0) cH 36 g02), (zaI (rh 1) cH 36 (upd f9 i (20 * r_31))), (zaI (rh 2) cH 36 g22), (zaI (rh 3) cH 36 g32), (zaI (rh 4) cH 36 g42), (zaI (rh 5) cH 36 g52), (zaI (rh 6) cH 36 g62), (zaI (rh 7) cH 36 g72), (zo10ririliiriririr sc aTp (nI ts) aHl (nI nh) ed mi sn aHs (nI n) aWk (nI wz) aBk (nI bz) aFc)] := hD
                  refine lv_iinc (v := nI (i + 1)) (lv' := [(5, .int (nI (i + 1))), (0, .ref ch), (1, .ref sc), (2, .long mk), (4, .int 1)]) hx hb dX0_tellHits_129 hl (k := 4) rfl (nI_add i 1) (by decide) rfl (fun ls hl => ?_)
                  refine lv_goto (tgt := 13) hx hb dX0_tellHits_132 (by decide) ?_
                  exact ih13 (i + 1) _ (by omega) (by omega) _ _ (hK.sub [0, 1, 2, 3, 4, 5, 6, 7, 8, 9] rfl) (hP.sub [0, 1, 2, 3, 4, 5, 6, 7, 8, 9, 10, 11] rfl) (hD.sub [0, 1, 2, 3, 4, 5, 6, 7, 8, 9, 10, 11] (by decide) rfl) hS ls (lv_sub hl [1, 2, 3, 4, 0] rfl)
                · skip
                  refine lv_if_eq (tgt := 53) hx hb dX0_tellHits_38 (by decide) (fun _ => ?_) (fun c_33 => absurd c_33 (by decide))
                  refine lv_bipush (v := 20) hx hb dX0_tellHits_53 (by decide) ?_
                  refine lv_iconst (v := 2) hx hb dX0_tellHits_55 (by decide) ?_
                  refine lv_aload_n hx hb dX0_tellHits_56 rfl (lv_at hl 0 rfl) ?_
                  refine va_get (D := (dC, dI)) (ci := 2) (v := .ref dr) (C := RX0) (T := TX0) (N := 5) hx hb hts kc_xTellHits_0 hown hK hP 0 rfl rfl 2 (by decide) (hts (.fieldLink RX0 9 "MistHeaps$Chances" "drifts" "[I") kc_xTellHits_6) (fun _ h9 => h9) rfl dX0_tellHits_57 ?_
                  refine lv_iload hx hb dX0_tellHits_60 (lv_at hl 4 rfl) ?_
                  refine va_iald hx hb hK hP 1 0 rfl rfl (vp_in_nI (n := i) (N := 36) (by omega) (by omega)) dX0_tellHits_62 ?_
                  refine qi_as (y := fD i) (by rw [nI_clamp (by omega)]) ?_
                  refine lv_imul hx hb dX0_tellHits_63 ?_
                  refine lv_isub hx hb dX0_tellHits_64 ?_
                  refine lv_lload_n hx hb dX0_tellHits_65 rfl (lv_at hl 2 rfl) ?_
                  refine lv_iload hx hb dX0_tellHits_66 (lv_at hl 4 rfl) ?_
                  refine lv_iload hx hb dX0_tellHits_68 (lv_at hl 3 rfl) ?_
                  refine vp_callSi (va_runSN (As := [.int (nI i), .int 1]) (rest := [.long mk, .int (20 - (2 * (fD i))), .int (nI i), .ref (rh 1)]) ⟨hx, hb, hml, hown, hts⟩ (c_beside l dC dI gd i 1 (by omega) (by omega)) ⟨va_cnB 2 hts ggX0_tellHits_X11_besideOrSame rfl rfl rfl (hG.1 (.methodLinkNest RX0 56 yX11_besideOrSame "MistHeaps") (by decide +kernel)) (hts (.initialized RX11) kc_xTellHits_4) (by decide +kernel) ⟨Nat.le_of_ble_eq_true rfl, Nat.le_of_ble_eq_true rfl⟩, (hts (.static yX11_besideOrSame) kc_xTellHits_7), trivial⟩ ⟨fun a U g mk q => by obtain ⟨q0, qhG⟩ := q; exact ⟨q0, qhG.same rfl rfl⟩, fun U hU hW => ⟨rfl, hG.callF hS hU hW⟩⟩ rfl rfl hl.1 rfl (lv_room (Nat.le_of_ble_eq_true rfl)) dX0_tellHits_70 ⟨Nat.le_of_ble_eq_true rfl, Nat.le_of_ble_eq_true rfl⟩).run (fun r_34 hw_35 => ?_)
                  obtain ⟨k_36, hk_37, rfl⟩ := hw_35
                  refine vp_callSi (va_runS (As := [.long mk, .int (nI k_36)]) (rest := [.int (20 - (2 * (fD i))), .int (nI i), .ref (rh 1)]) ⟨hx, hb, hml, hown, hts⟩ (c_hit l dC dI gd mk (nI k_36)) (va_cwS 2 hts gX0_tellHits_X0_hit rfl rfl rfl hd_yX0_hit.2 ⟨Nat.le_of_ble_eq_true rfl, Nat.le_of_ble_eq_true rfl⟩) ⟨fun a U g mk q => by obtain ⟨q0, qhG⟩ := q; exact ⟨q0, qhG.same rfl rfl⟩, fun U hU hW => ⟨rfl, hG.callF hS hU hW⟩⟩ rfl rfl hl.1 rfl (lv_room (Nat.le_of_ble_eq_true rfl)) dX0_tellHits_73 ⟨Nat.le_of_ble_eq_true rfl, Nat.le_of_ble_eq_true rfl⟩).run (fun r_38 hw_39 => ?_)
                  refine lv_imul hx hb dX0_tellHits_76 ?_
                  refine lv_aload_n hx hb dX0_tellHits_77 rfl (lv_at hl 0 rfl) ?_
                  refine va_get (D := (dC, dI)) (ci := 2) (v := .ref dr) (C := RX0) (T := TX0) (N := 5) hx hb hts kc_xTellHits_0 hown hK hP 0 rfl rfl 2 (by decide) (hts (.fieldLink RX0 9 "MistHeaps$Chances" "drifts" "[I") kc_xTellHits_6) (fun _ h9 => h9) rfl dX0_tellHits_78 ?_
                  refine lv_iload hx hb dX0_tellHits_81 (lv_at hl 4 rfl) ?_
                  refine va_iald hx hb hK hP 1 0 rfl rfl (vp_in_nI (n := i) (N := 36) (by omega) (by omega)) dX0_tellHits_83 ?_
                  refine qi_as (y := fD i) (by rw [nI_clamp (by omega)]) ?_
                  refine lv_lload_n hx hb dX0_tellHits_84 rfl (lv_at hl 2 rfl) ?_
                  refine lv_iload hx hb dX0_tellHits_85 (lv_at hl 4 rfl) ?_
                  refine lv_iload hx hb dX0_tellHits_87 (lv_at hl 3 rfl) ?_
                  refine lv_bipush (v := 7) hx hb dX0_tellHits_89 (by decide) ?_
                  refine lv_iadd hx hb dX0_tellHits_91 ?_
                  refine qi_as (y := 8) (by decide) ?_
                  refine lv_bipush (v := 7) hx hb dX0_tellHits_92 (by decide) ?_
                  refine lv_iand hx hb dX0_tellHits_94 ?_
                  refine qi_as (y := 0) (by decide) ?_
                  refine vp_callSi (va_runSN (As := [.int (nI i), .int 0]) (rest := [.long mk, .int (fD i), .int ((20 - (2 * (fD i))) * r_38), .int (nI i), .ref (rh 1)]) ⟨hx, hb, hml, hown, hts⟩ (c_beside l dC dI gd i 0 (by omega) (by omega)) ⟨va_cnB 2 hts ggX0_tellHits_X11_besideOrSame rfl rfl rfl (hG.1 (.methodLinkNest RX0 56 yX11_besideOrSame "MistHeaps") (by decide +kernel)) (hts (.initialized RX11) kc_xTellHits_4) (by decide +kernel) ⟨Nat.le_of_ble_eq_true rfl, Nat.le_of_ble_eq_true rfl⟩, (hts (.static yX11_besideOrSame) kc_xTellHits_7), trivial⟩ ⟨fun a U g mk q => by obtain ⟨q0, qhG⟩ := q; exact ⟨q0, qhG.same rfl rfl⟩, fun U hU hW => ⟨rfl, hG.callF hS hU hW⟩⟩ rfl rfl hl.1 rfl (lv_room (Nat.le_of_ble_eq_true rfl)) dX0_tellHits_95 ⟨Nat.le_of_ble_eq_true rfl, Nat.le_of_ble_eq_true rfl⟩).run (fun r_40 hw_41 => ?_)
                  obtain ⟨k_42, hk_43, rfl⟩ := hw_41
                  refine vp_callSi (va_runS (As := [.long mk, .int (nI k_42)]) (rest := [.int (fD i), .int ((20 - (2 * (fD i))) * r_38), .int (nI i), .ref (rh 1)]) ⟨hx, hb, hml, hown, hts⟩ (c_hit l dC dI gd mk (nI k_42)) (va_cwS 2 hts gX0_tellHits_X0_hit rfl rfl rfl hd_yX0_hit.2 ⟨Nat.le_of_ble_eq_true rfl, Nat.le_of_ble_eq_true rfl⟩) ⟨fun a U g mk q => by obtain ⟨q0, qhG⟩ := q; exact ⟨q0, qhG.same rfl rfl⟩, fun U hU hW => ⟨rfl, hG.callF hS hU hW⟩⟩ rfl rfl hl.1 rfl (lv_room (Nat.le_of_ble_eq_true rfl)) dX0_tellHits_98 ⟨Nat.le_of_ble_eq_true rfl, Nat.le_of_ble_eq_true rfl⟩).run (fun r_44 hw_45 => ?_)
                  refine lv_imul hx hb dX0_tellHits_101 ?_
                  refine lv_iadd hx hb dX0_tellHits_102 ?_
                  refine lv_aload_n hx hb dX0_tellHits_103 rfl (lv_at hl 0 rfl) ?_
                  refine va_get (D := (dC, dI)) (ci := 2) (v := .ref dr) (C := RX0) (T := TX0) (N := 5) hx hb hts kc_xTellHits_0 hown hK hP 0 rfl rfl 2 (by decide) (hts (.fieldLink RX0 9 "MistHeaps$Chances" "drifts" "[I") kc_xTellHits_6) (fun _ h9 => h9) rfl dX0_tellHits_104 ?_
                  refine lv_iload hx hb dX0_tellHits_107 (lv_at hl 4 rfl) ?_
                  refine va_iald hx hb hK hP 1 0 rfl rfl (vp_in_nI (n := i) (N := 36) (by omega) (by omega)) dX0_tellHits_109 ?_
                  refine qi_as (y := fD i) (by rw [nI_clamp (by omega)]) ?_
                  refine lv_lload_n hx hb dX0_tellHits_110 rfl (lv_at hl 2 rfl) ?_
                  refine lv_iload hx hb dX0_tellHits_111 (lv_at hl 4 rfl) ?_
                  refine lv_iload hx hb dX0_tellHits_113 (lv_at hl 3 rfl) ?_
                  refine lv_iconst (v := 1) hx hb dX0_tellHits_115 (by decide) ?_
                  refine lv_iadd hx hb dX0_tellHits_116 ?_
                  refine qi_as (y := 2) (by decide) ?_
                  refine lv_bipush (v := 7) hx hb dX0_tellHits_117 (by decide) ?_
                  refine lv_iand hx hb dX0_tellHits_119 ?_
                  refine qi_as (y := 2) (by decide) ?_
                  refine vp_callSi (va_runSN (As := [.int (nI i), .int 2]) (rest := [.long mk, .int (fD i), .int (((20 - (2 * (fD i))) * r_38) + ((fD i) * r_44)), .int (nI i), .ref (rh 1)]) ⟨hx, hb, hml, hown, hts⟩ (c_beside l dC dI gd i 2 (by omega) (by omega)) ⟨va_cnB 2 hts ggX0_tellHits_X11_besideOrSame rfl rfl rfl (hG.1 (.methodLinkNest RX0 56 yX11_besideOrSame "MistHeaps") (by decide +kernel)) (hts (.initialized RX11) kc_xTellHits_4) (by decide +kernel) ⟨Nat.le_of_ble_eq_true rfl, Nat.le_of_ble_eq_true rfl⟩, (hts (.static yX11_besideOrSame) kc_xTellHits_7), trivial⟩ ⟨fun a U g mk q => by obtain ⟨q0, qhG⟩ := q; exact ⟨q0, qhG.same rfl rfl⟩, fun U hU hW => ⟨rfl, hG.callF hS hU hW⟩⟩ rfl rfl hl.1 rfl (lv_room (Nat.le_of_ble_eq_true rfl)) dX0_tellHits_120 ⟨Nat.le_of_ble_eq_true rfl, Nat.le_of_ble_eq_true rfl⟩).run (fun r_46 hw_47 => ?_)
                  obtain ⟨k_48, hk_49, rfl⟩ := hw_47
                  refine vp_callSi (va_runS (As := [.long mk, .int (nI k_48)]) (rest := [.int (fD i), .int (((20 - (2 * (fD i))) * r_38) + ((fD i) * r_44)), .int (nI i), .ref (rh 1)]) ⟨hx, hb, hml, hown, hts⟩ (c_hit l dC dI gd mk (nI k_48)) (va_cwS 2 hts gX0_tellHits_X0_hit rfl rfl rfl hd_yX0_hit.2 ⟨Nat.le_of_ble_eq_true rfl, Nat.le_of_ble_eq_true rfl⟩) ⟨fun a U g mk q => by obtain ⟨q0, qhG⟩ := q; exact ⟨q0, qhG.same rfl rfl⟩, fun U hU hW => ⟨rfl, hG.callF hS hU hW⟩⟩ rfl rfl hl.1 rfl (lv_room (Nat.le_of_ble_eq_true rfl)) dX0_tellHits_123 ⟨Nat.le_of_ble_eq_true rfl, Nat.le_of_ble_eq_true rfl⟩).run (fun r_50 hw_51 => ?_)
                  refine lv_imul hx hb dX0_tellHits_126 ?_
                  refine lv_iadd hx hb dX0_tellHits_127 ?_
                  refine va_iast hx hb hK hP hD hS 4 3 rfl rfl (vp_in_nI (n := i) (N := 36) (by omega) (by omega)) dX0_tellHits_128 (fun H locs hP hD hS => ?_)
                  rw [nI_clamp (n := i) (by omega)] at hP hD
                  have hP : va_P (dC, dI) vwCl [(zo2lirrr ch ft fr dr tO hO), (zaI dr cD 36 fD), (zaR hO cHO 8 (fun i => if i < 8 then some (rh i) else none)), (zaI (rh 0) cH 36 g02), (zaI (rh 1) cH 36 (upd f9 i ((((20 - (2 * (fD i))) * r_38) + ((fD i) * r_44)) + ((fD i) * r_50)))), (zaI (rh 2) cH 36 g22), (zaI (rh 3) cH 36 g32), (zaI (rh 4) cH 36 g42), (zaI (rh 5) cH 36 g52), (zaI (rh 6) cH 36 g62), (zaI (rh 7) cH 36 g72), (zo10ririliiriririr sc aTp (nI ts) aHl (nI nh) ed mi sn aHs (nI n) aWk (nI wz) aBk (nI bz) aFc)] H := hP
                  have hD : va_D A [(zo2lirrr ch ft fr dr tO hO), (zaI dr cD 36 fD), (zaR hO cHO 8 (fun i => if i < 8 then some (rh i) else none)), (zaI (rh 0) cH 36 g02), (zaI (rh 1) cH 36 (upd f9 i ((((20 - (2 * (fD i))) * r_38) + ((fD i) * r_44)) + ((fD i) * r_50)))), (zaI (rh 2) cH 36 g22), (zaI (rh 3) cH 36 g32), (zaI (rh 4) cH 36 g42), (zaI (rh 5) cH 36 g52), (zaI (rh 6) cH 36 g62), (zaI (rh 7) cH 36 g72), (zo10ririliiriririr sc aTp (nI ts) aHl (nI nh) ed mi sn aHs (nI n) aWk (nI wz) aBk (nI bz) aFc)] := hD
                  refine lv_iinc (v := nI (i + 1)) (lv' := [(5, .int (nI (i + 1))), (0, .ref ch), (1, .ref sc), (2, .long mk), (4, .int 1)]) hx hb dX0_tellHits_129 hl (k := 4) rfl (nI_add i 1) (by decide) rfl (fun ls hl => ?_)
                  refine lv_goto (tgt := 13) hx hb dX0_tellHits_132 (by decide) ?_
                  exact ih13 (i + 1) _ (by omega) (by omega) _ _ (hK.sub [0, 1, 2, 3, 4, 5, 6, 7, 8, 9] rfl) (hP.sub [0, 1, 2, 3, 4, 5, 6, 7, 8, 9, 10, 11] rfl) (hD.sub [0, 1, 2, 3, 4, 5, 6, 7, 8, 9, 10, 11] (by decide) rfl) hS ls (lv_sub hl [1, 2, 3, 4, 0] rfl)
          exact L13 _ (0) _ (Nat.lt_succ_self _) (by omega) _ _ (hK.sub [0, 1, 2, 3, 4, 5, 6, 7, 8, 9] rfl) (hP.sub [0, 1, 2, 3, 4, 5, 6, 7, 8, 9, 10, 11] rfl) (hD.sub [0, 1, 2, 3, 4, 5, 6, 7, 8, 9, 10, 11] (by decide) rfl) hS ls (lv_sub hl [1, 2, 3, 4, 0] rfl)
        · skip
          refine lv_iconst (v := 0) hx hb dX0_tellHits_10 (by decide) ?_
          refine lv_istore (lv' := [(5, .int 0), (0, .ref ch), (1, .ref sc), (2, .long mk), (4, .int 2)]) hx hb dX0_tellHits_11 hl (by decide) rfl (fun ls hl => ?_)
          have L13 : ∀ (nF : Nat) (i : Nat) (f9 : Nat → Int32), 36 - i < nF → (i ≤ 36) → ∀ (H : Heap) (locs : List Loc), va_K (dC, dI) vwCl [(cD, .int), (cHO, .array .int), (cH, .int), (cH, .int), (cH, .int), (cH, .int), (cH, .int), (cH, .int), (cH, .int), (cH, .int)] s → va_P (dC, dI) vwCl [(zo2lirrr ch ft fr dr tO hO), (zaI dr cD 36 fD), (zaR hO cHO 8 (fun i => if i < 8 then some (rh i) else none)), (zaI (rh 0) cH 36 g02), (zaI (rh 1) cH 36 g12), (zaI (rh 2) cH 36 f9), (zaI (rh 3) cH 36 g32), (zaI (rh 4) cH 36 g42), (zaI (rh 5) cH 36 g52), (zaI (rh 6) cH 36 g62), (zaI (rh 7) cH 36 g72), (zo10ririliiriririr sc aTp (nI ts) aHl (nI nh) ed mi sn aHs (nI n) aWk (nI wz) aBk (nI bz) aFc)] H → va_D A [(zo2lirrr ch ft fr dr tO hO), (zaI dr cD 36 fD), (zaR hO cHO 8 (fun i => if i < 8 then some (rh i) else none)), (zaI (rh 0) cH 36 g02), (zaI (rh 1) cH 36 g12), (zaI (rh 2) cH 36 f9), (zaI (rh 3) cH 36 g32), (zaI (rh 4) cH 36 g42), (zaI (rh 5) cH 36 g52), (zaI (rh 6) cH 36 g62), (zaI (rh 7) cH 36 g72), (zo10ririliiriririr sc aTp (nI ts) aHl (nI nh) ed mi sn aHs (nI n) aWk (nI wz) aBk (nI bz) aFc)] → va_S A s.heap H locs → ∀ (ls : Array Slot), lv_has ls 6 [(0, .ref ch), (1, .ref sc), (2, .long mk), (4, .int 2), (5, .int (nI i))] → W p l e ({ frames := 2, cells := 0, slots := 0, locals := 44 } : Room) s m args below meth c H locs 0 0 Q (F0 m 13 ls []) := by
            intro nF
            induction nF with
            | zero => intro i f9 hm; exact absurd hm (Nat.not_lt_zero _)
            | succ nF ih13 =>
              intro i f9 hm hi H locs hK hP hD hS ls hl
              refine lv_iload hx hb dX0_tellHits_13 (lv_at hl 4 rfl) ?_
              refine lv_bipush (v := 36) hx hb dX0_tellHits_15 (by decide) ?_
              refine lv_icmp_ge (tgt := 135) hx hb dX0_tellHits_17 (by decide) (fun c_52 => ?_) (fun c_52 => ?_)
              · skip
                have c_52 : 36 ≤ i := (nI_leI (a := 36) (b := i) (by omega) (by omega)).mp c_52
                refine lv_iinc (v := 3) (lv' := [(4, .int 3), (0, .ref ch), (1, .ref sc), (2, .long mk), (5, .int (nI i))]) hx hb dX0_tellHits_135 hl (k := 3) rfl (by decide) (by decide) rfl (fun ls hl => ?_)
                refine lv_goto (tgt := 3) hx hb dX0_tellHits_138 (by decide) ?_
                exact ih3 (3) _ _ _ _ _ _ _ _ (by omega) (by omega) _ _ (hK.sub [0, 1, 2, 3, 4, 5, 6, 7, 8, 9] rfl) (hP.sub [0, 1, 2, 3, 4, 5, 6, 7, 8, 9, 10, 11] rfl) (hD.sub [0, 1, 2, 3, 4, 5, 6, 7, 8, 9, 10, 11] (by decide) rfl) hS ls (lv_sub hl [1, 2, 3, 0] rfl)
              · skip
                have c_52 : ¬ 36 ≤ i := fun q => c_52 ((nI_leI (a := 36) (b := i) (by omega) (by omega)).mpr q)
                refine lv_aload_n hx hb dX0_tellHits_20 rfl (lv_at hl 0 rfl) ?_
                refine va_get (D := (dC, dI)) (ci := 2) (v := .ref hO) (C := RX0) (T := TX0) (N := 5) hx hb hts kc_xTellHits_0 hown hK hP 0 rfl rfl 4 (by decide) (hts (.fieldLink RX0 22 "MistHeaps$Chances" "hits" "[[I") kc_xTellHits_1) (fun _ h9 => h9) rfl dX0_tellHits_21 ?_
                refine lv_iload hx hb dX0_tellHits_24 (lv_at hl 3 rfl) ?_
                refine va_alda hx hb hK hP 2 1 rfl rfl (vp_in_nI (n := 2) (N := 8) (by omega) (by omega)) dX0_tellHits_26 ?_
                refine qq_as (v := .ref (rh 2)) (rfl) ?_
                refine lv_iload hx hb dX0_tellHits_27 (lv_at hl 4 rfl) ?_
                refine lv_aload_n hx hb dX0_tellHits_29 rfl (lv_at hl 1 rfl) ?_
                refine va_get (D := (dC, dI)) (ci := 10) (v := .long ed) (C := RX8) (T := TX8) (N := 14) hx hb hts kc_xTellHits_2 hown hK hP 11 rfl rfl 4 (by decide) (hts (.fieldLink RX0 52 "MistHeaps$Scene" "edges" "J") kc_xTellHits_3) (fun _ h9 => h9) rfl dX0_tellHits_30 ?_
                refine lv_iload hx hb dX0_tellHits_33 (lv_at hl 4 rfl) ?_
                refine vp_callSi (va_runSN (As := [.long ed, .int (nI i)]) (rest := [.int (nI i), .ref (rh 2)]) ⟨hx, hb, hml, hown, hts⟩ (c_isIn l dC dI ed (nI i)) ⟨va_cnB 2 hts ggX0_tellHits_X11_isIn rfl rfl rfl (hG.1 (.methodLinkNest RX0 44 yX11_isIn "MistHeaps") (by decide +kernel)) (hts (.initialized RX11) kc_xTellHits_4) (by decide +kernel) ⟨Nat.le_of_ble_eq_true rfl, Nat.le_of_ble_eq_true rfl⟩, (hts (.static yX11_isIn) kc_xTellHits_5), trivial⟩ ⟨fun a U g mk q => ⟨q.1, trivial⟩, fun U hU hW => ⟨rfl, trivial⟩⟩ rfl rfl hl.1 rfl (lv_room (Nat.le_of_ble_eq_true rfl)) dX0_tellHits_35 ⟨Nat.le_of_ble_eq_true rfl, Nat.le_of_ble_eq_true rfl⟩).run (fun r_53 hw_54 => ?_)
                rcases hw_54 with rfl | rfl
                · skip
                  refine lv_if_eq (tgt := 53) hx hb dX0_tellHits_38 (by decide) (fun c_55 => absurd c_55 (by decide)) (fun _ => ?_)
                  refine lv_bipush (v := 20) hx hb dX0_tellHits_41 (by decide) ?_
                  refine lv_lload_n hx hb dX0_tellHits_43 rfl (lv_at hl 2 rfl) ?_
                  refine lv_iload hx hb dX0_tellHits_44 (lv_at hl 4 rfl) ?_
                  refine vp_callSi (va_runS (As := [.long mk, .int (nI i)]) (rest := [.int 20, .int (nI i), .ref (rh 2)]) ⟨hx, hb, hml, hown, hts⟩ (c_hit l dC dI gd mk (nI i)) (va_cwS 2 hts gX0_tellHits_X0_hit rfl rfl rfl hd_yX0_hit.2 ⟨Nat.le_of_ble_eq_true rfl, Nat.le_of_ble_eq_true rfl⟩) ⟨fun a U g mk q => by obtain ⟨q0, qhG⟩ := q; exact ⟨q0, qhG.same rfl rfl⟩, fun U hU hW => ⟨rfl, hG.callF hS hU hW⟩⟩ rfl rfl hl.1 rfl (lv_room (Nat.le_of_ble_eq_true rfl)) dX0_tellHits_46 ⟨Nat.le_of_ble_eq_true rfl, Nat.le_of_ble_eq_true rfl⟩).run (fun r_56 hw_57 => ?_)
                  refine lv_imul hx hb dX0_tellHits_49 ?_
                  refine lv_goto (tgt := 128) hx hb dX0_tellHits_50 (by decide) ?_
                  refine va_iast hx hb hK hP hD hS 5 4 rfl rfl (vp_in_nI (n := i) (N := 36) (by omega) (by omega)) dX0_tellHits_128 (fun H locs hP hD hS => ?_)
                  rw [nI_clamp (n := i) (by omega)] at hP hD
                  have hP : va_P (dC, dI) vwCl [(zo2lirrr ch ft fr dr tO hO), (zaI dr cD 36 fD), (zaR hO cHO 8 (fun i => if i < 8 then some (rh i) else none)), (zaI (rh 0) cH 36 g02), (zaI (rh 1) cH 36 g12), (zaI (rh 2) cH 36 (upd f9 i (20 * r_56))), (zaI (rh 3) cH 36 g32), (zaI (rh 4) cH 36 g42), (zaI (rh 5) cH 36 g52), (zaI (rh 6) cH 36 g62), (zaI (rh 7) cH 36 g72), (zo10ririliiriririr sc aTp (nI ts) aHl (nI nh) ed mi sn aHs (nI n) aWk (nI wz) aBk (nI bz) aFc)] H := hP
                  have hD : va_D A [(zo2lirrr ch ft fr dr tO hO), (zaI dr cD 36 fD), (zaR hO cHO 8 (fun i => if i < 8 then some (rh i) else none)), (zaI (rh 0) cH 36 g02), (zaI (rh 1) cH 36 g12), (zaI (rh 2) cH 36 (upd f9 i (20 * r_56))), (zaI (rh 3) cH 36 g32), (zaI (rh 4) cH 36 g42), (zaI (rh 5) cH 36 g52), (zaI (rh 6) cH 36 g62), (zaI (rh 7) cH 36 g72), (zo10ririliiriririr sc aTp (nI ts) aHl (nI nh) ed mi sn aHs (nI n) aWk (nI wz) aBk (nI bz) aFc)] := hD
                  refine lv_iinc (v := nI (i + 1)) (lv' := [(5, .int (nI (i + 1))), (0, .ref ch), (1, .ref sc), (2, .long mk), (4, .int 2)]) hx hb dX0_tellHits_129 hl (k := 4) rfl (nI_add i 1) (by decide) rfl (fun ls hl => ?_)
                  refine lv_goto (tgt := 13) hx hb dX0_tellHits_132 (by decide) ?_
                  exact ih13 (i + 1) _ (by omega) (by omega) _ _ (hK.sub [0, 1, 2, 3, 4, 5, 6, 7, 8, 9] rfl) (hP.sub [0, 1, 2, 3, 4, 5, 6, 7, 8, 9, 10, 11] rfl) (hD.sub [0, 1, 2, 3, 4, 5, 6, 7, 8, 9, 10, 11] (by decide) rfl) hS ls (lv_sub hl [1, 2, 3, 4, 0] rfl)
                · skip
                  refine lv_if_eq (tgt := 53) hx hb dX0_tellHits_38 (by decide) (fun _ => ?_) (fun c_58 => absurd c_58 (by decide))
                  refine lv_bipush (v := 20) hx hb dX0_tellHits_53 (by decide) ?_
                  refine lv_iconst (v := 2) hx hb dX0_tellHits_55 (by decide) ?_
                  refine lv_aload_n hx hb dX0_tellHits_56 rfl (lv_at hl 0 rfl) ?_
                  refine va_get (D := (dC, dI)) (ci := 2) (v := .ref dr) (C := RX0) (T := TX0) (N := 5) hx hb hts kc_xTellHits_0 hown hK hP 0 rfl rfl 2 (by decide) (hts (.fieldLink RX0 9 "MistHeaps$Chances" "drifts" "[I") kc_xTellHits_6) (fun _ h9 => h9) rfl dX0_tellHits_57 ?_
                  refine lv_iload hx hb dX0_tellHits_60 (lv_at hl 4 rfl) ?_
                  refine va_iald hx hb hK hP 1 0 rfl rfl (vp_in_nI (n := i) (N := 36) (by omega) (by omega)) dX0_tellHits_62 ?_
                  refine qi_as (y := fD i) (by rw [nI_clamp (by omega)]) ?_
                  refine lv_imul hx hb dX0_tellHits_63 ?_
                  refine lv_isub hx hb dX0_tellHits_64 ?_
                  refine lv_lload_n hx hb dX0_tellHits_65 rfl (lv_at hl 2 rfl) ?_
                  refine lv_iload hx hb dX0_tellHits_66 (lv_at hl 4 rfl) ?_
                  refine lv_iload hx hb dX0_tellHits_68 (lv_at hl 3 rfl) ?_
                  refine vp_callSi (va_runSN (As := [.int (nI i), .int 2]) (rest := [.long mk, .int (20 - (2 * (fD i))), .int (nI i), .ref (rh 2)]) ⟨hx, hb, hml, hown, hts⟩ (c_beside l dC dI gd i 2 (by omega) (by omega)) ⟨va_cnB 2 hts ggX0_tellHits_X11_besideOrSame rfl rfl rfl (hG.1 (.methodLinkNest RX0 56 yX11_besideOrSame "MistHeaps") (by decide +kernel)) (hts (.initialized RX11) kc_xTellHits_4) (by decide +kernel) ⟨Nat.le_of_ble_eq_true rfl, Nat.le_of_ble_eq_true rfl⟩, (hts (.static yX11_besideOrSame) kc_xTellHits_7), trivial⟩ ⟨fun a U g mk q => by obtain ⟨q0, qhG⟩ := q; exact ⟨q0, qhG.same rfl rfl⟩, fun U hU hW => ⟨rfl, hG.callF hS hU hW⟩⟩ rfl rfl hl.1 rfl (lv_room (Nat.le_of_ble_eq_true rfl)) dX0_tellHits_70 ⟨Nat.le_of_ble_eq_true rfl, Nat.le_of_ble_eq_true rfl⟩).run (fun r_59 hw_60 => ?_)
                  obtain ⟨k_61, hk_62, rfl⟩ := hw_60
                  refine vp_callSi (va_runS (As := [.long mk, .int (nI k_61)]) (rest := [.int (20 - (2 * (fD i))), .int (nI i), .ref (rh 2)]) ⟨hx, hb, hml, hown, hts⟩ (c_hit l dC dI gd mk (nI k_61)) (va_cwS 2 hts gX0_tellHits_X0_hit rfl rfl rfl hd_yX0_hit.2 ⟨Nat.le_of_ble_eq_true rfl, Nat.le_of_ble_eq_true rfl⟩) ⟨fun a U g mk q => by obtain ⟨q0, qhG⟩ := q; exact ⟨q0, qhG.same rfl rfl⟩, fun U hU hW => ⟨rfl, hG.callF hS hU hW⟩⟩ rfl rfl hl.1 rfl (lv_room (Nat.le_of_ble_eq_true rfl)) dX0_tellHits_73 ⟨Nat.le_of_ble_eq_true rfl, Nat.le_of_ble_eq_true rfl⟩).run (fun r_63 hw_64 => ?_)
                  refine lv_imul hx hb dX0_tellHits_76 ?_
                  refine lv_aload_n hx hb dX0_tellHits_77 rfl (lv_at hl 0 rfl) ?_
                  refine va_get (D := (dC, dI)) (ci := 2) (v := .ref dr) (C := RX0) (T := TX0) (N := 5) hx hb hts kc_xTellHits_0 hown hK hP 0 rfl rfl 2 (by decide) (hts (.fieldLink RX0 9 "MistHeaps$Chances" "drifts" "[I") kc_xTellHits_6) (fun _ h9 => h9) rfl dX0_tellHits_78 ?_
                  refine lv_iload hx hb dX0_tellHits_81 (lv_at hl 4 rfl) ?_
                  refine va_iald hx hb hK hP 1 0 rfl rfl (vp_in_nI (n := i) (N := 36) (by omega) (by omega)) dX0_tellHits_83 ?_
                  refine qi_as (y := fD i) (by rw [nI_clamp (by omega)]) ?_
                  refine lv_lload_n hx hb dX0_tellHits_84 rfl (lv_at hl 2 rfl) ?_
                  refine lv_iload hx hb dX0_tellHits_85 (lv_at hl 4 rfl) ?_
                  refine lv_iload hx hb dX0_tellHits_87 (lv_at hl 3 rfl) ?_
                  refine lv_bipush (v := 7) hx hb dX0_tellHits_89 (by decide) ?_
                  refine lv_iadd hx hb dX0_tellHits_91 ?_
                  refine qi_as (y := 9) (by decide) ?_
                  refine lv_bipush (v := 7) hx hb dX0_tellHits_92 (by decide) ?_
                  refine lv_iand hx hb dX0_tellHits_94 ?_
                  refine qi_as (y := 1) (by decide) ?_
                  refine vp_callSi (va_runSN (As := [.int (nI i), .int 1]) (rest := [.long mk, .int (fD i), .int ((20 - (2 * (fD i))) * r_63), .int (nI i), .ref (rh 2)]) ⟨hx, hb, hml, hown, hts⟩ (c_beside l dC dI gd i 1 (by omega) (by omega)) ⟨va_cnB 2 hts ggX0_tellHits_X11_besideOrSame rfl rfl rfl (hG.1 (.methodLinkNest RX0 56 yX11_besideOrSame "MistHeaps") (by decide +kernel)) (hts (.initialized RX11) kc_xTellHits_4) (by decide +kernel) ⟨Nat.le_of_ble_eq_true rfl, Nat.le_of_ble_eq_true rfl⟩, (hts (.static yX11_besideOrSame) kc_xTellHits_7), trivial⟩ ⟨fun a U g mk q => by obtain ⟨q0, qhG⟩ := q; exact ⟨q0, qhG.same rfl rfl⟩, fun U hU hW => ⟨rfl, hG.callF hS hU hW⟩⟩ rfl rfl hl.1 rfl (lv_room (Nat.le_of_ble_eq_true rfl)) dX0_tellHits_95 ⟨Nat.le_of_ble_eq_true rfl, Nat.le_of_ble_eq_true rfl⟩).run (fun r_65 hw_66 => ?_)
                  obtain ⟨k_67, hk_68, rfl⟩ := hw_66
                  refine vp_callSi (va_runS (As := [.long mk, .int (nI k_67)]) (rest := [.int (fD i), .int ((20 - (2 * (fD i))) * r_63), .int (nI i), .ref (rh 2)]) ⟨hx, hb, hml, hown, hts⟩ (c_hit l dC dI gd mk (nI k_67)) (va_cwS 2 hts gX0_tellHits_X0_hit rfl rfl rfl hd_yX0_hit.2 ⟨Nat.le_of_ble_eq_true rfl, Nat.le_of_ble_eq_true rfl⟩) ⟨fun a U g mk q => by obtain ⟨q0, qhG⟩ := q; exact ⟨q0, qhG.same rfl rfl⟩, fun U hU hW => ⟨rfl, hG.callF hS hU hW⟩⟩ rfl rfl hl.1 rfl (lv_room (Nat.le_of_ble_eq_true rfl)) dX0_tellHits_98 ⟨Nat.le_of_ble_eq_true rfl, Nat.le_of_ble_eq_true rfl⟩).run (fun r_69 hw_70 => ?_)
                  refine lv_imul hx hb dX0_tellHits_101 ?_
                  refine lv_iadd hx hb dX0_tellHits_102 ?_
                  refine lv_aload_n hx hb dX0_tellHits_103 rfl (lv_at hl 0 rfl) ?_
                  refine va_get (D := (dC, dI)) (ci := 2) (v := .ref dr) (C := RX0) (T := TX0) (N := 5) hx hb hts kc_xTellHits_0 hown hK hP 0 rfl rfl 2 (by decide) (hts (.fieldLink RX0 9 "MistHeaps$Chances" "drifts" "[I") kc_xTellHits_6) (fun _ h9 => h9) rfl dX0_tellHits_104 ?_
                  refine lv_iload hx hb dX0_tellHits_107 (lv_at hl 4 rfl) ?_
                  refine va_iald hx hb hK hP 1 0 rfl rfl (vp_in_nI (n := i) (N := 36) (by omega) (by omega)) dX0_tellHits_109 ?_
                  refine qi_as (y := fD i) (by rw [nI_clamp (by omega)]) ?_
                  refine lv_lload_n hx hb dX0_tellHits_110 rfl (lv_at hl 2 rfl) ?_
                  refine lv_iload hx hb dX0_tellHits_111 (lv_at hl 4 rfl) ?_
                  refine lv_iload hx hb dX0_tellHits_113 (lv_at hl 3 rfl) ?_
                  refine lv_iconst (v := 1) hx hb dX0_tellHits_115 (by decide) ?_
                  refine lv_iadd hx hb dX0_tellHits_116 ?_
                  refine qi_as (y := 3) (by decide) ?_
                  refine lv_bipush (v := 7) hx hb dX0_tellHits_117 (by decide) ?_
                  refine lv_iand hx hb dX0_tellHits_119 ?_
                  refine qi_as (y := 3) (by decide) ?_
                  refine vp_callSi (va_runSN (As := [.int (nI i), .int 3]) (rest := [.long mk, .int (fD i), .int (((20 - (2 * (fD i))) * r_63) + ((fD i) * r_69)), .int (nI i), .ref (rh 2)]) ⟨hx, hb, hml, hown, hts⟩ (c_beside l dC dI gd i 3 (by omega) (by omega)) ⟨va_cnB 2 hts ggX0_tellHits_X11_besideOrSame rfl rfl rfl (hG.1 (.methodLinkNest RX0 56 yX11_besideOrSame "MistHeaps") (by decide +kernel)) (hts (.initialized RX11) kc_xTellHits_4) (by decide +kernel) ⟨Nat.le_of_ble_eq_true rfl, Nat.le_of_ble_eq_true rfl⟩, (hts (.static yX11_besideOrSame) kc_xTellHits_7), trivial⟩ ⟨fun a U g mk q => by obtain ⟨q0, qhG⟩ := q; exact ⟨q0, qhG.same rfl rfl⟩, fun U hU hW => ⟨rfl, hG.callF hS hU hW⟩⟩ rfl rfl hl.1 rfl (lv_room (Nat.le_of_ble_eq_true rfl)) dX0_tellHits_120 ⟨Nat.le_of_ble_eq_true rfl, Nat.le_of_ble_eq_true rfl⟩).run (fun r_71 hw_72 => ?_)
                  obtain ⟨k_73, hk_74, rfl⟩ := hw_72
                  refine vp_callSi (va_runS (As := [.long mk, .int (nI k_73)]) (rest := [.int (fD i), .int (((20 - (2 * (fD i))) * r_63) + ((fD i) * r_69)), .int (nI i), .ref (rh 2)]) ⟨hx, hb, hml, hown, hts⟩ (c_hit l dC dI gd mk (nI k_73)) (va_cwS 2 hts gX0_tellHits_X0_hit rfl rfl rfl hd_yX0_hit.2 ⟨Nat.le_of_ble_eq_true rfl, Nat.le_of_ble_eq_true rfl⟩) ⟨fun a U g mk q => by obtain ⟨q0, qhG⟩ := q; exact ⟨q0, qhG.same rfl rfl⟩, fun U hU hW => ⟨rfl, hG.callF hS hU hW⟩⟩ rfl rfl hl.1 rfl (lv_room (Nat.le_of_ble_eq_true rfl)) dX0_tellHits_123 ⟨Nat.le_of_ble_eq_true rfl, Nat.le_of_ble_eq_true rfl⟩).run (fun r_75 hw_76 => ?_)
                  refine lv_imul hx hb dX0_tellHits_126 ?_
                  refine lv_iadd hx hb dX0_tellHits_127 ?_
                  refine va_iast hx hb hK hP hD hS 5 4 rfl rfl (vp_in_nI (n := i) (N := 36) (by omega) (by omega)) dX0_tellHits_128 (fun H locs hP hD hS => ?_)
                  rw [nI_clamp (n := i) (by omega)] at hP hD
                  have hP : va_P (dC, dI) vwCl [(zo2lirrr ch ft fr dr tO hO), (zaI dr cD 36 fD), (zaR hO cHO 8 (fun i => if i < 8 then some (rh i) else none)), (zaI (rh 0) cH 36 g02), (zaI (rh 1) cH 36 g12), (zaI (rh 2) cH 36 (upd f9 i ((((20 - (2 * (fD i))) * r_63) + ((fD i) * r_69)) + ((fD i) * r_75)))), (zaI (rh 3) cH 36 g32), (zaI (rh 4) cH 36 g42), (zaI (rh 5) cH 36 g52), (zaI (rh 6) cH 36 g62), (zaI (rh 7) cH 36 g72), (zo10ririliiriririr sc aTp (nI ts) aHl (nI nh) ed mi sn aHs (nI n) aWk (nI wz) aBk (nI bz) aFc)] H := hP
                  have hD : va_D A [(zo2lirrr ch ft fr dr tO hO), (zaI dr cD 36 fD), (zaR hO cHO 8 (fun i => if i < 8 then some (rh i) else none)), (zaI (rh 0) cH 36 g02), (zaI (rh 1) cH 36 g12), (zaI (rh 2) cH 36 (upd f9 i ((((20 - (2 * (fD i))) * r_63) + ((fD i) * r_69)) + ((fD i) * r_75)))), (zaI (rh 3) cH 36 g32), (zaI (rh 4) cH 36 g42), (zaI (rh 5) cH 36 g52), (zaI (rh 6) cH 36 g62), (zaI (rh 7) cH 36 g72), (zo10ririliiriririr sc aTp (nI ts) aHl (nI nh) ed mi sn aHs (nI n) aWk (nI wz) aBk (nI bz) aFc)] := hD
                  refine lv_iinc (v := nI (i + 1)) (lv' := [(5, .int (nI (i + 1))), (0, .ref ch), (1, .ref sc), (2, .long mk), (4, .int 2)]) hx hb dX0_tellHits_129 hl (k := 4) rfl (nI_add i 1) (by decide) rfl (fun ls hl => ?_)
                  refine lv_goto (tgt := 13) hx hb dX0_tellHits_132 (by decide) ?_
                  exact ih13 (i + 1) _ (by omega) (by omega) _ _ (hK.sub [0, 1, 2, 3, 4, 5, 6, 7, 8, 9] rfl) (hP.sub [0, 1, 2, 3, 4, 5, 6, 7, 8, 9, 10, 11] rfl) (hD.sub [0, 1, 2, 3, 4, 5, 6, 7, 8, 9, 10, 11] (by decide) rfl) hS ls (lv_sub hl [1, 2, 3, 4, 0] rfl)
          exact L13 _ (0) _ (Nat.lt_succ_self _) (by omega) _ _ (hK.sub [0, 1, 2, 3, 4, 5, 6, 7, 8, 9] rfl) (hP.sub [0, 1, 2, 3, 4, 5, 6, 7, 8, 9, 10, 11] rfl) (hD.sub [0, 1, 2, 3, 4, 5, 6, 7, 8, 9, 10, 11] (by decide) rfl) hS ls (lv_sub hl [1, 2, 3, 4, 0] rfl)
        · skip
          refine lv_iconst (v := 0) hx hb dX0_tellHits_10 (by decide) ?_
          refine lv_istore (lv' := [(5, .int 0), (0, .ref ch), (1, .ref sc), (2, .long mk), (4, .int 3)]) hx hb dX0_tellHits_11 hl (by decide) rfl (fun ls hl => ?_)
          have L13 : ∀ (nF : Nat) (i : Nat) (f9 : Nat → Int32), 36 - i < nF → (i ≤ 36) → ∀ (H : Heap) (locs : List Loc), va_K (dC, dI) vwCl [(cD, .int), (cHO, .array .int), (cH, .int), (cH, .int), (cH, .int), (cH, .int), (cH, .int), (cH, .int), (cH, .int), (cH, .int)] s → va_P (dC, dI) vwCl [(zo2lirrr ch ft fr dr tO hO), (zaI dr cD 36 fD), (zaR hO cHO 8 (fun i => if i < 8 then some (rh i) else none)), (zaI (rh 0) cH 36 g02), (zaI (rh 1) cH 36 g12), (zaI (rh 2) cH 36 g22), (zaI (rh 3) cH 36 f9), (zaI (rh 4) cH 36 g42), (zaI (rh 5) cH 36 g52), (zaI (rh 6) cH 36 g62), (zaI (rh 7) cH 36 g72), (zo10ririliiriririr sc aTp (nI ts) aHl (nI nh) ed mi sn aHs (nI n) aWk (nI wz) aBk (nI bz) aFc)] H → va_D A [(zo2lirrr ch ft fr dr tO hO), (zaI dr cD 36 fD), (zaR hO cHO 8 (fun i => if i < 8 then some (rh i) else none)), (zaI (rh 0) cH 36 g02), (zaI (rh 1) cH 36 g12), (zaI (rh 2) cH 36 g22), (zaI (rh 3) cH 36 f9), (zaI (rh 4) cH 36 g42), (zaI (rh 5) cH 36 g52), (zaI (rh 6) cH 36 g62), (zaI (rh 7) cH 36 g72), (zo10ririliiriririr sc aTp (nI ts) aHl (nI nh) ed mi sn aHs (nI n) aWk (nI wz) aBk (nI bz) aFc)] → va_S A s.heap H locs → ∀ (ls : Array Slot), lv_has ls 6 [(0, .ref ch), (1, .ref sc), (2, .long mk), (4, .int 3), (5, .int (nI i))] → W p l e ({ frames := 2, cells := 0, slots := 0, locals := 44 } : Room) s m args below meth c H locs 0 0 Q (F0 m 13 ls []) := by
            intro nF
            induction nF with
            | zero => intro i f9 hm; exact absurd hm (Nat.not_lt_zero _)
            | succ nF ih13 =>
              intro i f9 hm hi H locs hK hP hD hS ls hl
              refine lv_iload hx hb dX0_tellHits_13 (lv_at hl 4 rfl) ?_
              refine lv_bipush (v := 36) hx hb dX0_tellHits_15 (by decide) ?_
              refine lv_icmp_ge (tgt := 135) hx hb dX0_tellHits_17 (by decide) (fun c_77 => ?_) (fun c_77 => ?_)
              · skip
                have c_77 : 36 ≤ i := (nI_leI (a := 36) (b := i) (by omega) (by omega)).mp c_77
                refine lv_iinc (v := 4) (lv' := [(4, .int 4), (0, .ref ch), (1, .ref sc), (2, .long mk), (5, .int (nI i))]) hx hb dX0_tellHits_135 hl (k := 3) rfl (by decide) (by decide) rfl (fun ls hl => ?_)
                refine lv_goto (tgt := 3) hx hb dX0_tellHits_138 (by decide) ?_
                exact ih3 (4) _ _ _ _ _ _ _ _ (by omega) (by omega) _ _ (hK.sub [0, 1, 2, 3, 4, 5, 6, 7, 8, 9] rfl) (hP.sub [0, 1, 2, 3, 4, 5, 6, 7, 8, 9, 10, 11] rfl) (hD.sub [0, 1, 2, 3, 4, 5, 6, 7, 8, 9, 10, 11] (by decide) rfl) hS ls (lv_sub hl [1, 2, 3, 0] rfl)
              · skip
                have c_77 : ¬ 36 ≤ i := fun q => c_77 ((nI_leI (a := 36) (b := i) (by omega) (by omega)).mpr q)
                refine lv_aload_n hx hb dX0_tellHits_20 rfl (lv_at hl 0 rfl) ?_
                refine va_get (D := (dC, dI)) (ci := 2) (v := .ref hO) (C := RX0) (T := TX0) (N := 5) hx hb hts kc_xTellHits_0 hown hK hP 0 rfl rfl 4 (by decide) (hts (.fieldLink RX0 22 "MistHeaps$Chances" "hits" "[[I") kc_xTellHits_1) (fun _ h9 => h9) rfl dX0_tellHits_21 ?_
                refine lv_iload hx hb dX0_tellHits_24 (lv_at hl 3 rfl) ?_
                refine va_alda hx hb hK hP 2 1 rfl rfl (vp_in_nI (n := 3) (N := 8) (by omega) (by omega)) dX0_tellHits_26 ?_
                refine qq_as (v := .ref (rh 3)) (rfl) ?_
                refine lv_iload hx hb dX0_tellHits_27 (lv_at hl 4 rfl) ?_
                refine lv_aload_n hx hb dX0_tellHits_29 rfl (lv_at hl 1 rfl) ?_
                refine va_get (D := (dC, dI)) (ci := 10) (v := .long ed) (C := RX8) (T := TX8) (N := 14) hx hb hts kc_xTellHits_2 hown hK hP 11 rfl rfl 4 (by decide) (hts (.fieldLink RX0 52 "MistHeaps$Scene" "edges" "J") kc_xTellHits_3) (fun _ h9 => h9) rfl dX0_tellHits_30 ?_
                refine lv_iload hx hb dX0_tellHits_33 (lv_at hl 4 rfl) ?_
                refine vp_callSi (va_runSN (As := [.long ed, .int (nI i)]) (rest := [.int (nI i), .ref (rh 3)]) ⟨hx, hb, hml, hown, hts⟩ (c_isIn l dC dI ed (nI i)) ⟨va_cnB 2 hts ggX0_tellHits_X11_isIn rfl rfl rfl (hG.1 (.methodLinkNest RX0 44 yX11_isIn "MistHeaps") (by decide +kernel)) (hts (.initialized RX11) kc_xTellHits_4) (by decide +kernel) ⟨Nat.le_of_ble_eq_true rfl, Nat.le_of_ble_eq_true rfl⟩, (hts (.static yX11_isIn) kc_xTellHits_5), trivial⟩ ⟨fun a U g mk q => ⟨q.1, trivial⟩, fun U hU hW => ⟨rfl, trivial⟩⟩ rfl rfl hl.1 rfl (lv_room (Nat.le_of_ble_eq_true rfl)) dX0_tellHits_35 ⟨Nat.le_of_ble_eq_true rfl, Nat.le_of_ble_eq_true rfl⟩).run (fun r_78 hw_79 => ?_)
                rcases hw_79 with rfl | rfl
                · skip
                  refine lv_if_eq (tgt := 53) hx hb dX0_tellHits_38 (by decide) (fun c_80 => absurd c_80 (by decide)) (fun _ => ?_)
                  refine lv_bipush (v := 20) hx hb dX0_tellHits_41 (by decide) ?_
                  refine lv_lload_n hx hb dX0_tellHits_43 rfl (lv_at hl 2 rfl) ?_
                  refine lv_iload hx hb dX0_tellHits_44 (lv_at hl 4 rfl) ?_
                  refine vp_callSi (va_runS (As := [.long mk, .int (nI i)]) (rest := [.int 20, .int (nI i), .ref (rh 3)]) ⟨hx, hb, hml, hown, hts⟩ (c_hit l dC dI gd mk (nI i)) (va_cwS 2 hts gX0_tellHits_X0_hit rfl rfl rfl hd_yX0_hit.2 ⟨Nat.le_of_ble_eq_true rfl, Nat.le_of_ble_eq_true rfl⟩) ⟨fun a U g mk q => by obtain ⟨q0, qhG⟩ := q; exact ⟨q0, qhG.same rfl rfl⟩, fun U hU hW => ⟨rfl, hG.callF hS hU hW⟩⟩ rfl rfl hl.1 rfl (lv_room (Nat.le_of_ble_eq_true rfl)) dX0_tellHits_46 ⟨Nat.le_of_ble_eq_true rfl, Nat.le_of_ble_eq_true rfl⟩).run (fun r_81 hw_82 => ?_)
                  refine lv_imul hx hb dX0_tellHits_49 ?_
                  refine lv_goto (tgt := 128) hx hb dX0_tellHits_50 (by decide) ?_
                  refine va_iast hx hb hK hP hD hS 6 5 rfl rfl (vp_in_nI (n := i) (N := 36) (by omega) (by omega)) dX0_tellHits_128 (fun H locs hP hD hS => ?_)
                  rw [nI_clamp (n := i) (by omega)] at hP hD
                  have hP : va_P (dC, dI) vwCl [(zo2lirrr ch ft fr dr tO hO), (zaI dr cD 36 fD), (zaR hO cHO 8 (fun i => if i < 8 then some (rh i) else none)), (zaI (rh 0) cH 36 g02), (zaI (rh 1) cH 36 g12), (zaI (rh 2) cH 36 g22), (zaI (rh 3) cH 36 (upd f9 i (20 * r_81))), (zaI (rh 4) cH 36 g42), (zaI (rh 5) cH 36 g52), (zaI (rh 6) cH 36 g62), (zaI (rh 7) cH 36 g72), (zo10ririliiriririr sc aTp (nI ts) aHl (nI nh) ed mi sn aHs (nI n) aWk (nI wz) aBk (nI bz) aFc)] H := hP
                  have hD : va_D A [(zo2lirrr ch ft fr dr tO hO), (zaI dr cD 36 fD), (zaR hO cHO 8 (fun i => if i < 8 then some (rh i) else none)), (zaI (rh 0) cH 36 g02), (zaI (rh 1) cH 36 g12), (zaI (rh 2) cH 36 g22), (zaI (rh 3) cH 36 (upd f9 i (20 * r_81))), (zaI (rh 4) cH 36 g42), (zaI (rh 5) cH 36 g52), (zaI (rh 6) cH 36 g62), (zaI (rh 7) cH 36 g72), (zo10ririliiriririr sc aTp (nI ts) aHl (nI nh) ed mi sn aHs (nI n) aWk (nI wz) aBk (nI bz) aFc)] := hD
                  refine lv_iinc (v := nI (i + 1)) (lv' := [(5, .int (nI (i + 1))), (0, .ref ch), (1, .ref sc), (2, .long mk), (4, .int 3)]) hx hb dX0_tellHits_129 hl (k := 4) rfl (nI_add i 1) (by decide) rfl (fun ls hl => ?_)
                  refine lv_goto (tgt := 13) hx hb dX0_tellHits_132 (by decide) ?_
                  exact ih13 (i + 1) _ (by omega) (by omega) _ _ (hK.sub [0, 1, 2, 3, 4, 5, 6, 7, 8, 9] rfl) (hP.sub [0, 1, 2, 3, 4, 5, 6, 7, 8, 9, 10, 11] rfl) (hD.sub [0, 1, 2, 3, 4, 5, 6, 7, 8, 9, 10, 11] (by decide) rfl) hS ls (lv_sub hl [1, 2, 3, 4, 0] rfl)
                · skip
                  refine lv_if_eq (tgt := 53) hx hb dX0_tellHits_38 (by decide) (fun _ => ?_) (fun c_83 => absurd c_83 (by decide))
                  refine lv_bipush (v := 20) hx hb dX0_tellHits_53 (by decide) ?_
                  refine lv_iconst (v := 2) hx hb dX0_tellHits_55 (by decide) ?_
                  refine lv_aload_n hx hb dX0_tellHits_56 rfl (lv_at hl 0 rfl) ?_
                  refine va_get (D := (dC, dI)) (ci := 2) (v := .ref dr) (C := RX0) (T := TX0) (N := 5) hx hb hts kc_xTellHits_0 hown hK hP 0 rfl rfl 2 (by decide) (hts (.fieldLink RX0 9 "MistHeaps$Chances" "drifts" "[I") kc_xTellHits_6) (fun _ h9 => h9) rfl dX0_tellHits_57 ?_
                  refine lv_iload hx hb dX0_tellHits_60 (lv_at hl 4 rfl) ?_
                  refine va_iald hx hb hK hP 1 0 rfl rfl (vp_in_nI (n := i) (N := 36) (by omega) (by omega)) dX0_tellHits_62 ?_
                  refine qi_as (y := fD i) (by rw [nI_clamp (by omega)]) ?_
                  refine lv_imul hx hb dX0_tellHits_63 ?_
                  refine lv_isub hx hb dX0_tellHits_64 ?_
                  refine lv_lload_n hx hb dX0_tellHits_65 rfl (lv_at hl 2 rfl) ?_
                  refine lv_iload hx hb dX0_tellHits_66 (lv_at hl 4 rfl) ?_
                  refine lv_iload hx hb dX0_tellHits_68 (lv_at hl 3 rfl) ?_
                  refine vp_callSi (va_runSN (As := [.int (nI i), .int 3]) (rest := [.long mk, .int (20 - (2 * (fD i))), .int (nI i), .ref (rh 3)]) ⟨hx, hb, hml, hown, hts⟩ (c_beside l dC dI gd i 3 (by omega) (by omega)) ⟨va_cnB 2 hts ggX0_tellHits_X11_besideOrSame rfl rfl rfl (hG.1 (.methodLinkNest RX0 56 yX11_besideOrSame "MistHeaps") (by decide +kernel)) (hts (.initialized RX11) kc_xTellHits_4) (by decide +kernel) ⟨Nat.le_of_ble_eq_true rfl, Nat.le_of_ble_eq_true rfl⟩, (hts (.static yX11_besideOrSame) kc_xTellHits_7), trivial⟩ ⟨fun a U g mk q => by obtain ⟨q0, qhG⟩ := q; exact ⟨q0, qhG.same rfl rfl⟩, fun U hU hW => ⟨rfl, hG.callF hS hU hW⟩⟩ rfl rfl hl.1 rfl (lv_room (Nat.le_of_ble_eq_true rfl)) dX0_tellHits_70 ⟨Nat.le_of_ble_eq_true rfl, Nat.le_of_ble_eq_true rfl⟩).run (fun r_84 hw_85 => ?_)
                  obtain ⟨k_86, hk_87, rfl⟩ := hw_85
                  refine vp_callSi (va_runS (As := [.long mk, .int (nI k_86)]) (rest := [.int (20 - (2 * (fD i))), .int (nI i), .ref (rh 3)]) ⟨hx, hb, hml, hown, hts⟩ (c_hit l dC dI gd mk (nI k_86)) (va_cwS 2 hts gX0_tellHits_X0_hit rfl rfl rfl hd_yX0_hit.2 ⟨Nat.le_of_ble_eq_true rfl, Nat.le_of_ble_eq_true rfl⟩) ⟨fun a U g mk q => by obtain ⟨q0, qhG⟩ := q; exact ⟨q0, qhG.same rfl rfl⟩, fun U hU hW => ⟨rfl, hG.callF hS hU hW⟩⟩ rfl rfl hl.1 rfl (lv_room (Nat.le_of_ble_eq_true rfl)) dX0_tellHits_73 ⟨Nat.le_of_ble_eq_true rfl, Nat.le_of_ble_eq_true rfl⟩).run (fun r_88 hw_89 => ?_)
                  refine lv_imul hx hb dX0_tellHits_76 ?_
                  refine lv_aload_n hx hb dX0_tellHits_77 rfl (lv_at hl 0 rfl) ?_
                  refine va_get (D := (dC, dI)) (ci := 2) (v := .ref dr) (C := RX0) (T := TX0) (N := 5) hx hb hts kc_xTellHits_0 hown hK hP 0 rfl rfl 2 (by decide) (hts (.fieldLink RX0 9 "MistHeaps$Chances" "drifts" "[I") kc_xTellHits_6) (fun _ h9 => h9) rfl dX0_tellHits_78 ?_
                  refine lv_iload hx hb dX0_tellHits_81 (lv_at hl 4 rfl) ?_
                  refine va_iald hx hb hK hP 1 0 rfl rfl (vp_in_nI (n := i) (N := 36) (by omega) (by omega)) dX0_tellHits_83 ?_
                  refine qi_as (y := fD i) (by rw [nI_clamp (by omega)]) ?_
                  refine lv_lload_n hx hb dX0_tellHits_84 rfl (lv_at hl 2 rfl) ?_
                  refine lv_iload hx hb dX0_tellHits_85 (lv_at hl 4 rfl) ?_
                  refine lv_iload hx hb dX0_tellHits_87 (lv_at hl 3 rfl) ?_
                  refine lv_bipush (v := 7) hx hb dX0_tellHits_89 (by decide) ?_
                  refine lv_iadd hx hb dX0_tellHits_91 ?_
                  refine qi_as (y := 10) (by decide) ?_
                  refine lv_bipush (v := 7) hx hb dX0_tellHits_92 (by decide) ?_
                  refine lv_iand hx hb dX0_tellHits_94 ?_
                  refine qi_as (y := 2) (by decide) ?_
                  refine vp_callSi (va_runSN (As := [.int (nI i), .int 2]) (rest := [.long mk, .int (fD i), .int ((20 - (2 * (fD i))) * r_88), .int (nI i), .ref (rh 3)]) ⟨hx, hb, hml, hown, hts⟩ (c_beside l dC dI gd i 2 (by omega) (by omega)) ⟨va_cnB 2 hts ggX0_tellHits_X11_besideOrSame rfl rfl rfl (hG.1 (.methodLinkNest RX0 56 yX11_besideOrSame "MistHeaps") (by decide +kernel)) (hts (.initialized RX11) kc_xTellHits_4) (by decide +kernel) ⟨Nat.le_of_ble_eq_true rfl, Nat.le_of_ble_eq_true rfl⟩, (hts (.static yX11_besideOrSame) kc_xTellHits_7), trivial⟩ ⟨fun a U g mk q => by obtain ⟨q0, qhG⟩ := q; exact ⟨q0, qhG.same rfl rfl⟩, fun U hU hW => ⟨rfl, hG.callF hS hU hW⟩⟩ rfl rfl hl.1 rfl (lv_room (Nat.le_of_ble_eq_true rfl)) dX0_tellHits_95 ⟨Nat.le_of_ble_eq_true rfl, Nat.le_of_ble_eq_true rfl⟩).run (fun r_90 hw_91 => ?_)
                  obtain ⟨k_92, hk_93, rfl⟩ := hw_91
                  refine vp_callSi (va_runS (As := [.long mk, .int (nI k_92)]) (rest := [.int (fD i), .int ((20 - (2 * (fD i))) * r_88), .int (nI i), .ref (rh 3)]) ⟨hx, hb, hml, hown, hts⟩ (c_hit l dC dI gd mk (nI k_92)) (va_cwS 2 hts gX0_tellHits_X0_hit rfl rfl rfl hd_yX0_hit.2 ⟨Nat.le_of_ble_eq_true rfl, Nat.le_of_ble_eq_true rfl⟩) ⟨fun a U g mk q => by obtain ⟨q0, qhG⟩ := q; exact ⟨q0, qhG.same rfl rfl⟩, fun U hU hW => ⟨rfl, hG.callF hS hU hW⟩⟩ rfl rfl hl.1 rfl (lv_room (Nat.le_of_ble_eq_true rfl)) dX0_tellHits_98 ⟨Nat.le_of_ble_eq_true rfl, Nat.le_of_ble_eq_true rfl⟩).run (fun r_94 hw_95 => ?_)
                  refine lv_imul hx hb dX0_tellHits_101 ?_
                  refine lv_iadd hx hb dX0_tellHits_102 ?_
                  refine lv_aload_n hx hb dX0_tellHits_103 rfl (lv_at hl 0 rfl) ?_
                  refine va_get (D := (dC, dI)) (ci := 2) (v := .ref dr) (C := RX0) (T := TX0) (N := 5) hx hb hts kc_xTellHits_0 hown hK hP 0 rfl rfl 2 (by decide) (hts (.fieldLink RX0 9 "MistHeaps$Chances" "drifts" "[I") kc_xTellHits_6) (fun _ h9 => h9) rfl dX0_tellHits_104 ?_
                  refine lv_iload hx hb dX0_tellHits_107 (lv_at hl 4 rfl) ?_
                  refine va_iald hx hb hK hP 1 0 rfl rfl (vp_in_nI (n := i) (N := 36) (by omega) (by omega)) dX0_tellHits_109 ?_
                  refine qi_as (y := fD i) (by rw [nI_clamp (by omega)]) ?_
                  refine lv_lload_n hx hb dX0_tellHits_110 rfl (lv_at hl 2 rfl) ?_
                  refine lv_iload hx hb dX0_tellHits_111 (lv_at hl 4 rfl) ?_
                  refine lv_iload hx hb dX0_tellHits_113 (lv_at hl 3 rfl) ?_
                  refine lv_iconst (v := 1) hx hb dX0_tellHits_115 (by decide) ?_
                  refine lv_iadd hx hb dX0_tellHits_116 ?_
                  refine qi_as (y := 4) (by decide) ?_
                  refine lv_bipush (v := 7) hx hb dX0_tellHits_117 (by decide) ?_
                  refine lv_iand hx hb dX0_tellHits_119 ?_
                  refine qi_as (y := 4) (by decide) ?_
                  refine vp_callSi (va_runSN (As := [.int (nI i), .int 4]) (rest := [.long mk, .int (fD i), .int (((20 - (2 * (fD i))) * r_88) + ((fD i) * r_94)), .int (nI i), .ref (rh 3)]) ⟨hx, hb, hml, hown, hts⟩ (c_beside l dC dI gd i 4 (by omega) (by omega)) ⟨va_cnB 2 hts ggX0_tellHits_X11_besideOrSame rfl rfl rfl (hG.1 (.methodLinkNest RX0 56 yX11_besideOrSame "MistHeaps") (by decide +kernel)) (hts (.initialized RX11) kc_xTellHits_4) (by decide +kernel) ⟨Nat.le_of_ble_eq_true rfl, Nat.le_of_ble_eq_true rfl⟩, (hts (.static yX11_besideOrSame) kc_xTellHits_7), trivial⟩ ⟨fun a U g mk q => by obtain ⟨q0, qhG⟩ := q; exact ⟨q0, qhG.same rfl rfl⟩, fun U hU hW => ⟨rfl, hG.callF hS hU hW⟩⟩ rfl rfl hl.1 rfl (lv_room (Nat.le_of_ble_eq_true rfl)) dX0_tellHits_120 ⟨Nat.le_of_ble_eq_true rfl, Nat.le_of_ble_eq_true rfl⟩).run (fun r_96 hw_97 => ?_)
                  obtain ⟨k_98, hk_99, rfl⟩ := hw_97
                  refine vp_callSi (va_runS (As := [.long mk, .int (nI k_98)]) (rest := [.int (fD i), .int (((20 - (2 * (fD i))) * r_88) + ((fD i) * r_94)), .int (nI i), .ref (rh 3)]) ⟨hx, hb, hml, hown, hts⟩ (c_hit l dC dI gd mk (nI k_98)) (va_cwS 2 hts gX0_tellHits_X0_hit rfl rfl rfl hd_yX0_hit.2 ⟨Nat.le_of_ble_eq_true rfl, Nat.le_of_ble_eq_true rfl⟩) ⟨fun a U g mk q => by obtain ⟨q0, qhG⟩ := q; exact ⟨q0, qhG.same rfl rfl⟩, fun U hU hW => ⟨rfl, hG.callF hS hU hW⟩⟩ rfl rfl hl.1 rfl (lv_room (Nat.le_of_ble_eq_true rfl)) dX0_tellHits_123 ⟨Nat.le_of_ble_eq_true rfl, Nat.le_of_ble_eq_true rfl⟩).run (fun r_100 hw_101 => ?_)
                  refine lv_imul hx hb dX0_tellHits_126 ?_
                  refine lv_iadd hx hb dX0_tellHits_127 ?_
                  refine va_iast hx hb hK hP hD hS 6 5 rfl rfl (vp_in_nI (n := i) (N := 36) (by omega) (by omega)) dX0_tellHits_128 (fun H locs hP hD hS => ?_)
                  rw [nI_clamp (n := i) (by omega)] at hP hD
                  have hP : va_P (dC, dI) vwCl [(zo2lirrr ch ft fr dr tO hO), (zaI dr cD 36 fD), (zaR hO cHO 8 (fun i => if i < 8 then some (rh i) else none)), (zaI (rh 0) cH 36 g02), (zaI (rh 1) cH 36 g12), (zaI (rh 2) cH 36 g22), (zaI (rh 3) cH 36 (upd f9 i ((((20 - (2 * (fD i))) * r_88) + ((fD i) * r_94)) + ((fD i) * r_100)))), (zaI (rh 4) cH 36 g42), (zaI (rh 5) cH 36 g52), (zaI (rh 6) cH 36 g62), (zaI (rh 7) cH 36 g72), (zo10ririliiriririr sc aTp (nI ts) aHl (nI nh) ed mi sn aHs (nI n) aWk (nI wz) aBk (nI bz) aFc)] H := hP
                  have hD : va_D A [(zo2lirrr ch ft fr dr tO hO), (zaI dr cD 36 fD), (zaR hO cHO 8 (fun i => if i < 8 then some (rh i) else none)), (zaI (rh 0) cH 36 g02), (zaI (rh 1) cH 36 g12), (zaI (rh 2) cH 36 g22), (zaI (rh 3) cH 36 (upd f9 i ((((20 - (2 * (fD i))) * r_88) + ((fD i) * r_94)) + ((fD i) * r_100)))), (zaI (rh 4) cH 36 g42), (zaI (rh 5) cH 36 g52), (zaI (rh 6) cH 36 g62), (zaI (rh 7) cH 36 g72), (zo10ririliiriririr sc aTp (nI ts) aHl (nI nh) ed mi sn aHs (nI n) aWk (nI wz) aBk (nI bz) aFc)] := hD
                  refine lv_iinc (v := nI (i + 1)) (lv' := [(5, .int (nI (i + 1))), (0, .ref ch), (1, .ref sc), (2, .long mk), (4, .int 3)]) hx hb dX0_tellHits_129 hl (k := 4) rfl (nI_add i 1) (by decide) rfl (fun ls hl => ?_)
                  refine lv_goto (tgt := 13) hx hb dX0_tellHits_132 (by decide) ?_
                  exact ih13 (i + 1) _ (by omega) (by omega) _ _ (hK.sub [0, 1, 2, 3, 4, 5, 6, 7, 8, 9] rfl) (hP.sub [0, 1, 2, 3, 4, 5, 6, 7, 8, 9, 10, 11] rfl) (hD.sub [0, 1, 2, 3, 4, 5, 6, 7, 8, 9, 10, 11] (by decide) rfl) hS ls (lv_sub hl [1, 2, 3, 4, 0] rfl)
          exact L13 _ (0) _ (Nat.lt_succ_self _) (by omega) _ _ (hK.sub [0, 1, 2, 3, 4, 5, 6, 7, 8, 9] rfl) (hP.sub [0, 1, 2, 3, 4, 5, 6, 7, 8, 9, 10, 11] rfl) (hD.sub [0, 1, 2, 3, 4, 5, 6, 7, 8, 9, 10, 11] (by decide) rfl) hS ls (lv_sub hl [1, 2, 3, 4, 0] rfl)
        · skip
          refine lv_iconst (v := 0) hx hb dX0_tellHits_10 (by decide) ?_
          refine lv_istore (lv' := [(5, .int 0), (0, .ref ch), (1, .ref sc), (2, .long mk), (4, .int 4)]) hx hb dX0_tellHits_11 hl (by decide) rfl (fun ls hl => ?_)
          have L13 : ∀ (nF : Nat) (i : Nat) (f9 : Nat → Int32), 36 - i < nF → (i ≤ 36) → ∀ (H : Heap) (locs : List Loc), va_K (dC, dI) vwCl [(cD, .int), (cHO, .array .int), (cH, .int), (cH, .int), (cH, .int), (cH, .int), (cH, .int), (cH, .int), (cH, .int), (cH, .int)] s → va_P (dC, dI) vwCl [(zo2lirrr ch ft fr dr tO hO), (zaI dr cD 36 fD), (zaR hO cHO 8 (fun i => if i < 8 then some (rh i) else none)), (zaI (rh 0) cH 36 g02), (zaI (rh 1) cH 36 g12), (zaI (rh 2) cH 36 g22), (zaI (rh 3) cH 36 g32), (zaI (rh 4) cH 36 f9), (zaI (rh 5) cH 36 g52), (zaI (rh 6) cH 36 g62), (zaI (rh 7) cH 36 g72), (zo10ririliiriririr sc aTp (nI ts) aHl (nI nh) ed mi sn aHs (nI n) aWk (nI wz) aBk (nI bz) aFc)] H → va_D A [(zo2lirrr ch ft fr dr tO hO), (zaI dr cD 36 fD), (zaR hO cHO 8 (fun i => if i < 8 then some (rh i) else none)), (zaI (rh 0) cH 36 g02), (zaI (rh 1) cH 36 g12), (zaI (rh 2) cH 36 g22), (zaI (rh 3) cH 36 g32), (zaI (rh 4) cH 36 f9), (zaI (rh 5) cH 36 g52), (zaI (rh 6) cH 36 g62), (zaI (rh 7) cH 36 g72), (zo10ririliiriririr sc aTp (nI ts) aHl (nI nh) ed mi sn aHs (nI n) aWk (nI wz) aBk (nI bz) aFc)] → va_S A s.heap H locs → ∀ (ls : Array Slot), lv_has ls 6 [(0, .ref ch), (1, .ref sc), (2, .long mk), (4, .int 4), (5, .int (nI i))] → W p l e ({ frames := 2, cells := 0, slots := 0, locals := 44 } : Room) s m args below meth c H locs 0 0 Q (F0 m 13 ls []) := by
            intro nF
            induction nF with
            | zero => intro i f9 hm; exact absurd hm (Nat.not_lt_zero _)
            | succ nF ih13 =>
              intro i f9 hm hi H locs hK hP hD hS ls hl
              refine lv_iload hx hb dX0_tellHits_13 (lv_at hl 4 rfl) ?_
              refine lv_bipush (v := 36) hx hb dX0_tellHits_15 (by decide) ?_
              refine lv_icmp_ge (tgt := 135) hx hb dX0_tellHits_17 (by decide) (fun c_102 => ?_) (fun c_102 => ?_)
              · skip
                have c_102 : 36 ≤ i := (nI_leI (a := 36) (b := i) (by omega) (by omega)).mp c_102
                refine lv_iinc (v := 5) (lv' := [(4, .int 5), (0, .ref ch), (1, .ref sc), (2, .long mk), (5, .int (nI i))]) hx hb dX0_tellHits_135 hl (k := 3) rfl (by decide) (by decide) rfl (fun ls hl => ?_)
                refine lv_goto (tgt := 3) hx hb dX0_tellHits_138 (by decide) ?_
                exact ih3 (5) _ _ _ _ _ _ _ _ (by omega) (by omega) _ _ (hK.sub [0, 1, 2, 3, 4, 5, 6, 7, 8, 9] rfl) (hP.sub [0, 1, 2, 3, 4, 5, 6, 7, 8, 9, 10, 11] rfl) (hD.sub [0, 1, 2, 3, 4, 5, 6, 7, 8, 9, 10, 11] (by decide) rfl) hS ls (lv_sub hl [1, 2, 3, 0] rfl)
              · skip
                have c_102 : ¬ 36 ≤ i := fun q => c_102 ((nI_leI (a := 36) (b := i) (by omega) (by omega)).mpr q)
                refine lv_aload_n hx hb dX0_tellHits_20 rfl (lv_at hl 0 rfl) ?_
                refine va_get (D := (dC, dI)) (ci := 2) (v := .ref hO) (C := RX0) (T := TX0) (N := 5) hx hb hts kc_xTellHits_0 hown hK hP 0 rfl rfl 4 (by decide) (hts (.fieldLink RX0 22 "MistHeaps$Chances" "hits" "[[I") kc_xTellHits_1) (fun _ h9 => h9) rfl dX0_tellHits_21 ?_
                refine lv_iload hx hb dX0_tellHits_24 (lv_at hl 3 rfl) ?_
                refine va_alda hx hb hK hP 2 1 rfl rfl (vp_in_nI (n := 4) (N := 8) (by omega) (by omega)) dX0_tellHits_26 ?_
                refine qq_as (v := .ref (rh 4)) (rfl) ?_
                refine lv_iload hx hb dX0_tellHits_27 (lv_at hl 4 rfl) ?_
                refine lv_aload_n hx hb dX0_tellHits_29 rfl (lv_at hl 1 rfl) ?_
                refine va_get (D := (dC, dI)) (ci := 10) (v := .long ed) (C := RX8) (T := TX8) (N := 14) hx hb hts kc_xTellHits_2 hown hK hP 11 rfl rfl 4 (by decide) (hts (.fieldLink RX0 52 "MistHeaps$Scene" "edges" "J") kc_xTellHits_3) (fun _ h9 => h9) rfl dX0_tellHits_30 ?_
                refine lv_iload hx hb dX0_tellHits_33 (lv_at hl 4 rfl) ?_
                refine vp_callSi (va_runSN (As := [.long ed, .int (nI i)]) (rest := [.int (nI i), .ref (rh 4)]) ⟨hx, hb, hml, hown, hts⟩ (c_isIn l dC dI ed (nI i)) ⟨va_cnB 2 hts ggX0_tellHits_X11_isIn rfl rfl rfl (hG.1 (.methodLinkNest RX0 44 yX11_isIn "MistHeaps") (by decide +kernel)) (hts (.initialized RX11) kc_xTellHits_4) (by decide +kernel) ⟨Nat.le_of_ble_eq_true rfl, Nat.le_of_ble_eq_true rfl⟩, (hts (.static yX11_isIn) kc_xTellHits_5), trivial⟩ ⟨fun a U g mk q => ⟨q.1, trivial⟩, fun U hU hW => ⟨rfl, trivial⟩⟩ rfl rfl hl.1 rfl (lv_room (Nat.le_of_ble_eq_true rfl)) dX0_tellHits_35 ⟨Nat.le_of_ble_eq_true rfl, Nat.le_of_ble_eq_true rfl⟩).run (fun r_103 hw_104 => ?_)
                rcases hw_104 with rfl | rfl
                · skip
                  refine lv_if_eq (tgt := 53) hx hb dX0_tellHits_38 (by decide) (fun c_105 => absurd c_105 (by decide)) (fun _ => ?_)
                  refine lv_bipush (v := 20) hx hb dX0_tellHits_41 (by decide) ?_
                  refine lv_lload_n hx hb dX0_tellHits_43 rfl (lv_at hl 2 rfl) ?_
                  refine lv_iload hx hb dX0_tellHits_44 (lv_at hl 4 rfl) ?_
                  refine vp_callSi (va_runS (As := [.long mk, .int (nI i)]) (rest := [.int 20, .int (nI i), .ref (rh 4)]) ⟨hx, hb, hml, hown, hts⟩ (c_hit l dC dI gd mk (nI i)) (va_cwS 2 hts gX0_tellHits_X0_hit rfl rfl rfl hd_yX0_hit.2 ⟨Nat.le_of_ble_eq_true rfl, Nat.le_of_ble_eq_true rfl⟩) ⟨fun a U g mk q => by obtain ⟨q0, qhG⟩ := q; exact ⟨q0, qhG.same rfl rfl⟩, fun U hU hW => ⟨rfl, hG.callF hS hU hW⟩⟩ rfl rfl hl.1 rfl (lv_room (Nat.le_of_ble_eq_true rfl)) dX0_tellHits_46 ⟨Nat.le_of_ble_eq_true rfl, Nat.le_of_ble_eq_true rfl⟩).run (fun r_106 hw_107 => ?_)
                  refine lv_imul hx hb dX0_tellHits_49 ?_
                  refine lv_goto (tgt := 128) hx hb dX0_tellHits_50 (by decide) ?_
                  refine va_iast hx hb hK hP hD hS 7 6 rfl rfl (vp_in_nI (n := i) (N := 36) (by omega) (by omega)) dX0_tellHits_128 (fun H locs hP hD hS => ?_)
                  rw [nI_clamp (n := i) (by omega)] at hP hD
                  have hP : va_P (dC, dI) vwCl [(zo2lirrr ch ft fr dr tO hO), (zaI dr cD 36 fD), (zaR hO cHO 8 (fun i => if i < 8 then some (rh i) else none)), (zaI (rh 0) cH 36 g02), (zaI (rh 1) cH 36 g12), (zaI (rh 2) cH 36 g22), (zaI (rh 3) cH 36 g32), (zaI (rh 4) cH 36 (upd f9 i (20 * r_106))), (zaI (rh 5) cH 36 g52), (zaI (rh 6) cH 36 g62), (zaI (rh 7) cH 36 g72), (zo10ririliiriririr sc aTp (nI ts) aHl (nI nh) ed mi sn aHs (nI n) aWk (nI wz) aBk (nI bz) aFc)] H := hP
                  have hD : va_D A [(zo2lirrr ch ft fr dr tO hO), (zaI dr cD 36 fD), (zaR hO cHO 8 (fun i => if i < 8 then some (rh i) else none)), (zaI (rh 0) cH 36 g02), (zaI (rh 1) cH 36 g12), (zaI (rh 2) cH 36 g22), (zaI (rh 3) cH 36 g32), (zaI (rh 4) cH 36 (upd f9 i (20 * r_106))), (zaI (rh 5) cH 36 g52), (zaI (rh 6) cH 36 g62), (zaI (rh 7) cH 36 g72), (zo10ririliiriririr sc aTp (nI ts) aHl (nI nh) ed mi sn aHs (nI n) aWk (nI wz) aBk (nI bz) aFc)] := hD
                  refine lv_iinc (v := nI (i + 1)) (lv' := [(5, .int (nI (i + 1))), (0, .ref ch), (1, .ref sc), (2, .long mk), (4, .int 4)]) hx hb dX0_tellHits_129 hl (k := 4) rfl (nI_add i 1) (by decide) rfl (fun ls hl => ?_)
                  refine lv_goto (tgt := 13) hx hb dX0_tellHits_132 (by decide) ?_
                  exact ih13 (i + 1) _ (by omega) (by omega) _ _ (hK.sub [0, 1, 2, 3, 4, 5, 6, 7, 8, 9] rfl) (hP.sub [0, 1, 2, 3, 4, 5, 6, 7, 8, 9, 10, 11] rfl) (hD.sub [0, 1, 2, 3, 4, 5, 6, 7, 8, 9, 10, 11] (by decide) rfl) hS ls (lv_sub hl [1, 2, 3, 4, 0] rfl)
                · skip
                  refine lv_if_eq (tgt := 53) hx hb dX0_tellHits_38 (by decide) (fun _ => ?_) (fun c_108 => absurd c_108 (by decide))
                  refine lv_bipush (v := 20) hx hb dX0_tellHits_53 (by decide) ?_
                  refine lv_iconst (v := 2) hx hb dX0_tellHits_55 (by decide) ?_
                  refine lv_aload_n hx hb dX0_tellHits_56 rfl (lv_at hl 0 rfl) ?_
                  refine va_get (D := (dC, dI)) (ci := 2) (v := .ref dr) (C := RX0) (T := TX0) (N := 5) hx hb hts kc_xTellHits_0 hown hK hP 0 rfl rfl 2 (by decide) (hts (.fieldLink RX0 9 "MistHeaps$Chances" "drifts" "[I") kc_xTellHits_6) (fun _ h9 => h9) rfl dX0_tellHits_57 ?_
                  refine lv_iload hx hb dX0_tellHits_60 (lv_at hl 4 rfl) ?_
                  refine va_iald hx hb hK hP 1 0 rfl rfl (vp_in_nI (n := i) (N := 36) (by omega) (by omega)) dX0_tellHits_62 ?_
                  refine qi_as (y := fD i) (by rw [nI_clamp (by omega)]) ?_
                  refine lv_imul hx hb dX0_tellHits_63 ?_
                  refine lv_isub hx hb dX0_tellHits_64 ?_
                  refine lv_lload_n hx hb dX0_tellHits_65 rfl (lv_at hl 2 rfl) ?_
                  refine lv_iload hx hb dX0_tellHits_66 (lv_at hl 4 rfl) ?_
                  refine lv_iload hx hb dX0_tellHits_68 (lv_at hl 3 rfl) ?_
                  refine vp_callSi (va_runSN (As := [.int (nI i), .int 4]) (rest := [.long mk, .int (20 - (2 * (fD i))), .int (nI i), .ref (rh 4)]) ⟨hx, hb, hml, hown, hts⟩ (c_beside l dC dI gd i 4 (by omega) (by omega)) ⟨va_cnB 2 hts ggX0_tellHits_X11_besideOrSame rfl rfl rfl (hG.1 (.methodLinkNest RX0 56 yX11_besideOrSame "MistHeaps") (by decide +kernel)) (hts (.initialized RX11) kc_xTellHits_4) (by decide +kernel) ⟨Nat.le_of_ble_eq_true rfl, Nat.le_of_ble_eq_true rfl⟩, (hts (.static yX11_besideOrSame) kc_xTellHits_7), trivial⟩ ⟨fun a U g mk q => by obtain ⟨q0, qhG⟩ := q; exact ⟨q0, qhG.same rfl rfl⟩, fun U hU hW => ⟨rfl, hG.callF hS hU hW⟩⟩ rfl rfl hl.1 rfl (lv_room (Nat.le_of_ble_eq_true rfl)) dX0_tellHits_70 ⟨Nat.le_of_ble_eq_true rfl, Nat.le_of_ble_eq_true rfl⟩).run (fun r_109 hw_110 => ?_)
                  obtain ⟨k_111, hk_112, rfl⟩ := hw_110
                  refine vp_callSi (va_runS (As := [.long mk, .int (nI k_111)]) (rest := [.int (20 - (2 * (fD i))), .int (nI i), .ref (rh 4)]) ⟨hx, hb, hml, hown, hts⟩ (c_hit l dC dI gd mk (nI k_111)) (va_cwS 2 hts gX0_tellHits_X0_hit rfl rfl rfl hd_yX0_hit.2 ⟨Nat.le_of_ble_eq_true rfl, Nat.le_of_ble_eq_true rfl⟩) ⟨fun a U g mk q => by obtain ⟨q0, qhG⟩ := q; exact ⟨q0, qhG.same rfl rfl⟩, fun U hU hW => ⟨rfl, hG.callF hS hU hW⟩⟩ rfl rfl hl.1 rfl (lv_room (Nat.le_of_ble_eq_true rfl)) dX0_tellHits_73 ⟨Nat.le_of_ble_eq_true rfl, Nat.le_of_ble_eq_true rfl⟩).run (fun r_113 hw_114 => ?_)
                  refine lv_imul hx hb dX0_tellHits_76 ?_
                  refine lv_aload_n hx hb dX0_tellHits_77 rfl (lv_at hl 0 rfl) ?_
                  refine va_get (D := (dC, dI)) (ci := 2) (v := .ref dr) (C := RX0) (T := TX0) (N := 5) hx hb hts kc_xTellHits_0 hown hK hP 0 rfl rfl 2 (by decide) (hts (.fieldLink RX0 9 "MistHeaps$Chances" "drifts" "[I") kc_xTellHits_6) (fun _ h9 => h9) rfl dX0_tellHits_78 ?_
                  refine lv_iload hx hb dX0_tellHits_81 (lv_at hl 4 rfl) ?_
                  refine va_iald hx hb hK hP 1 0 rfl rfl (vp_in_nI (n := i) (N := 36) (by omega) (by omega)) dX0_tellHits_83 ?_
                  refine qi_as (y := fD i) (by rw [nI_clamp (by omega)]) ?_
                  refine lv_lload_n hx hb dX0_tellHits_84 rfl (lv_at hl 2 rfl) ?_
                  refine lv_iload hx hb dX0_tellHits_85 (lv_at hl 4 rfl) ?_
                  refine lv_iload hx hb dX0_tellHits_87 (lv_at hl 3 rfl) ?_
                  refine lv_bipush (v := 7) hx hb dX0_tellHits_89 (by decide) ?_
                  refine lv_iadd hx hb dX0_tellHits_91 ?_
                  refine qi_as (y := 11) (by decide) ?_
                  refine lv_bipush (v := 7) hx hb dX0_tellHits_92 (by decide) ?_
                  refine lv_iand hx hb dX0_tellHits_94 ?_
                  refine qi_as (y := 3) (by decide) ?_
                  refine vp_callSi (va_runSN (As := [.int (nI i), .int 3]) (rest := [.long mk, .int (fD i), .int ((20 - (2 * (fD i))) * r_113), .int (nI i), .ref (rh 4)]) ⟨hx, hb, hml, hown, hts⟩ (c_beside l dC dI gd i 3 (by omega) (by omega)) ⟨va_cnB 2 hts ggX0_tellHits_X11_besideOrSame rfl rfl rfl (hG.1 (.methodLinkNest RX0 56 yX11_besideOrSame "MistHeaps") (by decide +kernel)) (hts (.initialized RX11) kc_xTellHits_4) (by decide +kernel) ⟨Nat.le_of_ble_eq_true rfl, Nat.le_of_ble_eq_true rfl⟩, (hts (.static yX11_besideOrSame) kc_xTellHits_7), trivial⟩ ⟨fun a U g mk q => by obtain ⟨q0, qhG⟩ := q; exact ⟨q0, qhG.same rfl rfl⟩, fun U hU hW => ⟨rfl, hG.callF hS hU hW⟩⟩ rfl rfl hl.1 rfl (lv_room (Nat.le_of_ble_eq_true rfl)) dX0_tellHits_95 ⟨Nat.le_of_ble_eq_true rfl, Nat.le_of_ble_eq_true rfl⟩).run (fun r_115 hw_116 => ?_)
                  obtain ⟨k_117, hk_118, rfl⟩ := hw_116
                  refine vp_callSi (va_runS (As := [.long mk, .int (nI k_117)]) (rest := [.int (fD i), .int ((20 - (2 * (fD i))) * r_113), .int (nI i), .ref (rh 4)]) ⟨hx, hb, hml, hown, hts⟩ (c_hit l dC dI gd mk (nI k_117)) (va_cwS 2 hts gX0_tellHits_X0_hit rfl rfl rfl hd_yX0_hit.2 ⟨Nat.le_of_ble_eq_true rfl, Nat.le_of_ble_eq_true rfl⟩) ⟨fun a U g mk q => by obtain ⟨q0, qhG⟩ := q; exact ⟨q0, qhG.same rfl rfl⟩, fun U hU hW => ⟨rfl, hG.callF hS hU hW⟩⟩ rfl rfl hl.1 rfl (lv_room (Nat.le_of_ble_eq_true rfl)) dX0_tellHits_98 ⟨Nat.le_of_ble_eq_true rfl, Nat.le_of_ble_eq_true rfl⟩).run (fun r_119 hw_120 => ?_)
                  refine lv_imul hx hb dX0_tellHits_101 ?_
                  refine lv_iadd hx hb dX0_tellHits_102 ?_
                  refine lv_aload_n hx hb dX0_tellHits_103 rfl (lv_at hl 0 rfl) ?_
                  refine va_get (D := (dC, dI)) (ci := 2) (v := .ref dr) (C := RX0) (T := TX0) (N := 5) hx hb hts kc_xTellHits_0 hown hK hP 0 rfl rfl 2 (by decide) (hts (.fieldLink RX0 9 "MistHeaps$Chances" "drifts" "[I") kc_xTellHits_6) (fun _ h9 => h9) rfl dX0_tellHits_104 ?_
                  refine lv_iload hx hb dX0_tellHits_107 (lv_at hl 4 rfl) ?_
                  refine va_iald hx hb hK hP 1 0 rfl rfl (vp_in_nI (n := i) (N := 36) (by omega) (by omega)) dX0_tellHits_109 ?_
                  refine qi_as (y := fD i) (by rw [nI_clamp (by omega)]) ?_
                  refine lv_lload_n hx hb dX0_tellHits_110 rfl (lv_at hl 2 rfl) ?_
                  refine lv_iload hx hb dX0_tellHits_111 (lv_at hl 4 rfl) ?_
                  refine lv_iload hx hb dX0_tellHits_113 (lv_at hl 3 rfl) ?_
                  refine lv_iconst (v := 1) hx hb dX0_tellHits_115 (by decide) ?_
                  refine lv_iadd hx hb dX0_tellHits_116 ?_
                  refine qi_as (y := 5) (by decide) ?_
                  refine lv_bipush (v := 7) hx hb dX0_tellHits_117 (by decide) ?_
                  refine lv_iand hx hb dX0_tellHits_119 ?_
                  refine qi_as (y := 5) (by decide) ?_
                  refine vp_callSi (va_runSN (As := [.int (nI i), .int 5]) (rest := [.long mk, .int (fD i), .int (((20 - (2 * (fD i))) * r_113) + ((fD i) * r_119)), .int (nI i), .ref (rh 4)]) ⟨hx, hb, hml, hown, hts⟩ (c_beside l dC dI gd i 5 (by omega) (by omega)) ⟨va_cnB 2 hts ggX0_tellHits_X11_besideOrSame rfl rfl rfl (hG.1 (.methodLinkNest RX0 56 yX11_besideOrSame "MistHeaps") (by decide +kernel)) (hts (.initialized RX11) kc_xTellHits_4) (by decide +kernel) ⟨Nat.le_of_ble_eq_true rfl, Nat.le_of_ble_eq_true rfl⟩, (hts (.static yX11_besideOrSame) kc_xTellHits_7), trivial⟩ ⟨fun a U g mk q => by obtain ⟨q0, qhG⟩ := q; exact ⟨q0, qhG.same rfl rfl⟩, fun U hU hW => ⟨rfl, hG.callF hS hU hW⟩⟩ rfl rfl hl.1 rfl (lv_room (Nat.le_of_ble_eq_true rfl)) dX0_tellHits_120 ⟨Nat.le_of_ble_eq_true rfl, Nat.le_of_ble_eq_true rfl⟩).run (fun r_121 hw_122 => ?_)
                  obtain ⟨k_123, hk_124, rfl⟩ := hw_122
                  refine vp_callSi (va_runS (As := [.long mk, .int (nI k_123)]) (rest := [.int (fD i), .int (((20 - (2 * (fD i))) * r_113) + ((fD i) * r_119)), .int (nI i), .ref (rh 4)]) ⟨hx, hb, hml, hown, hts⟩ (c_hit l dC dI gd mk (nI k_123)) (va_cwS 2 hts gX0_tellHits_X0_hit rfl rfl rfl hd_yX0_hit.2 ⟨Nat.le_of_ble_eq_true rfl, Nat.le_of_ble_eq_true rfl⟩) ⟨fun a U g mk q => by obtain ⟨q0, qhG⟩ := q; exact ⟨q0, qhG.same rfl rfl⟩, fun U hU hW => ⟨rfl, hG.callF hS hU hW⟩⟩ rfl rfl hl.1 rfl (lv_room (Nat.le_of_ble_eq_true rfl)) dX0_tellHits_123 ⟨Nat.le_of_ble_eq_true rfl, Nat.le_of_ble_eq_true rfl⟩).run (fun r_125 hw_126 => ?_)
                  refine lv_imul hx hb dX0_tellHits_126 ?_
                  refine lv_iadd hx hb dX0_tellHits_127 ?_
                  refine va_iast hx hb hK hP hD hS 7 6 rfl rfl (vp_in_nI (n := i) (N := 36) (by omega) (by omega)) dX0_tellHits_128 (fun H locs hP hD hS => ?_)
                  rw [nI_clamp (n := i) (by omega)] at hP hD
                  have hP : va_P (dC, dI) vwCl [(zo2lirrr ch ft fr dr tO hO), (zaI dr cD 36 fD), (zaR hO cHO 8 (fun i => if i < 8 then some (rh i) else none)), (zaI (rh 0) cH 36 g02), (zaI (rh 1) cH 36 g12), (zaI (rh 2) cH 36 g22), (zaI (rh 3) cH 36 g32), (zaI (rh 4) cH 36 (upd f9 i ((((20 - (2 * (fD i))) * r_113) + ((fD i) * r_119)) + ((fD i) * r_125)))), (zaI (rh 5) cH 36 g52), (zaI (rh 6) cH 36 g62), (zaI (rh 7) cH 36 g72), (zo10ririliiriririr sc aTp (nI ts) aHl (nI nh) ed mi sn aHs (nI n) aWk (nI wz) aBk (nI bz) aFc)] H := hP
                  have hD : va_D A [(zo2lirrr ch ft fr dr tO hO), (zaI dr cD 36 fD), (zaR hO cHO 8 (fun i => if i < 8 then some (rh i) else none)), (zaI (rh 0) cH 36 g02), (zaI (rh 1) cH 36 g12), (zaI (rh 2) cH 36 g22), (zaI (rh 3) cH 36 g32), (zaI (rh 4) cH 36 (upd f9 i ((((20 - (2 * (fD i))) * r_113) + ((fD i) * r_119)) + ((fD i) * r_125)))), (zaI (rh 5) cH 36 g52), (zaI (rh 6) cH 36 g62), (zaI (rh 7) cH 36 g72), (zo10ririliiriririr sc aTp (nI ts) aHl (nI nh) ed mi sn aHs (nI n) aWk (nI wz) aBk (nI bz) aFc)] := hD
                  refine lv_iinc (v := nI (i + 1)) (lv' := [(5, .int (nI (i + 1))), (0, .ref ch), (1, .ref sc), (2, .long mk), (4, .int 4)]) hx hb dX0_tellHits_129 hl (k := 4) rfl (nI_add i 1) (by decide) rfl (fun ls hl => ?_)
                  refine lv_goto (tgt := 13) hx hb dX0_tellHits_132 (by decide) ?_
                  exact ih13 (i + 1) _ (by omega) (by omega) _ _ (hK.sub [0, 1, 2, 3, 4, 5, 6, 7, 8, 9] rfl) (hP.sub [0, 1, 2, 3, 4, 5, 6, 7, 8, 9, 10, 11] rfl) (hD.sub [0, 1, 2, 3, 4, 5, 6, 7, 8, 9, 10, 11] (by decide) rfl) hS ls (lv_sub hl [1, 2, 3, 4, 0] rfl)
          exact L13 _ (0) _ (Nat.lt_succ_self _) (by omega) _ _ (hK.sub [0, 1, 2, 3, 4, 5, 6, 7, 8, 9] rfl) (hP.sub [0, 1, 2, 3, 4, 5, 6, 7, 8, 9, 10, 11] rfl) (hD.sub [0, 1, 2, 3, 4, 5, 6, 7, 8, 9, 10, 11] (by decide) rfl) hS ls (lv_sub hl [1, 2, 3, 4, 0] rfl)
        · skip
          refine lv_iconst (v := 0) hx hb dX0_tellHits_10 (by decide) ?_
          refine lv_istore (lv' := [(5, .int 0), (0, .ref ch), (1, .ref sc), (2, .long mk), (4, .int 5)]) hx hb dX0_tellHits_11 hl (by decide) rfl (fun ls hl => ?_)
          have L13 : ∀ (nF : Nat) (i : Nat) (f9 : Nat → Int32), 36 - i < nF → (i ≤ 36) → ∀ (H : Heap) (locs : List Loc), va_K (dC, dI) vwCl [(cD, .int), (cHO, .array .int), (cH, .int), (cH, .int), (cH, .int), (cH, .int), (cH, .int), (cH, .int), (cH, .int), (cH, .int)] s → va_P (dC, dI) vwCl [(zo2lirrr ch ft fr dr tO hO), (zaI dr cD 36 fD), (zaR hO cHO 8 (fun i => if i < 8 then some (rh i) else none)), (zaI (rh 0) cH 36 g02), (zaI (rh 1) cH 36 g12), (zaI (rh 2) cH 36 g22), (zaI (rh 3) cH 36 g32), (zaI (rh 4) cH 36 g42), (zaI (rh 5) cH 36 f9), (zaI (rh 6) cH 36 g62), (zaI (rh 7) cH 36 g72), (zo10ririliiriririr sc aTp (nI ts) aHl (nI nh) ed mi sn aHs (nI n) aWk (nI wz) aBk (nI bz) aFc)] H → va_D A [(zo2lirrr ch ft fr dr tO hO), (zaI dr cD 36 fD), (zaR hO cHO 8 (fun i => if i < 8 then some (rh i) else none)), (zaI (rh 0) cH 36 g02), (zaI (rh 1) cH 36 g12), (zaI (rh 2) cH 36 g22), (zaI (rh 3) cH 36 g32), (zaI (rh 4) cH 36 g42), (zaI (rh 5) cH 36 f9), (zaI (rh 6) cH 36 g62), (zaI (rh 7) cH 36 g72), (zo10ririliiriririr sc aTp (nI ts) aHl (nI nh) ed mi sn aHs (nI n) aWk (nI wz) aBk (nI bz) aFc)] → va_S A s.heap H locs → ∀ (ls : Array Slot), lv_has ls 6 [(0, .ref ch), (1, .ref sc), (2, .long mk), (4, .int 5), (5, .int (nI i))] → W p l e ({ frames := 2, cells := 0, slots := 0, locals := 44 } : Room) s m args below meth c H locs 0 0 Q (F0 m 13 ls []) := by
            intro nF
            induction nF with
            | zero => intro i f9 hm; exact absurd hm (Nat.not_lt_zero _)
            | succ nF ih13 =>
              intro i f9 hm hi H locs hK hP hD hS ls hl
              refine lv_iload hx hb dX0_tellHits_13 (lv_at hl 4 rfl) ?_
              refine lv_bipush (v := 36) hx hb dX0_tellHits_15 (by decide) ?_
              refine lv_icmp_ge (tgt := 135) hx hb dX0_tellHits_17 (by decide) (fun c_127 => ?_) (fun c_127 => ?_)
              · skip
                have c_127 : 36 ≤ i := (nI_leI (a := 36) (b := i) (by omega) (by omega)).mp c_127
                refine lv_iinc (v := 6) (lv' := [(4, .int 6), (0, .ref ch), (1, .ref sc), (2, .long mk), (5, .int (nI i))]) hx hb dX0_tellHits_135 hl (k := 3) rfl (by decide) (by decide) rfl (fun ls hl => ?_)
                refine lv_goto (tgt := 3) hx hb dX0_tellHits_138 (by decide) ?_
                exact ih3 (6) _ _ _ _ _ _ _ _ (by omega) (by omega) _ _ (hK.sub [0, 1, 2, 3, 4, 5, 6, 7, 8, 9] rfl) (hP.sub [0, 1, 2, 3, 4, 5, 6, 7, 8, 9, 10, 11] rfl) (hD.sub [0, 1, 2, 3, 4, 5, 6, 7, 8, 9, 10, 11] (by decide) rfl) hS ls (lv_sub hl [1, 2, 3, 0] rfl)
              · skip
                have c_127 : ¬ 36 ≤ i := fun q => c_127 ((nI_leI (a := 36) (b := i) (by omega) (by omega)).mpr q)
                refine lv_aload_n hx hb dX0_tellHits_20 rfl (lv_at hl 0 rfl) ?_
                refine va_get (D := (dC, dI)) (ci := 2) (v := .ref hO) (C := RX0) (T := TX0) (N := 5) hx hb hts kc_xTellHits_0 hown hK hP 0 rfl rfl 4 (by decide) (hts (.fieldLink RX0 22 "MistHeaps$Chances" "hits" "[[I") kc_xTellHits_1) (fun _ h9 => h9) rfl dX0_tellHits_21 ?_
                refine lv_iload hx hb dX0_tellHits_24 (lv_at hl 3 rfl) ?_
                refine va_alda hx hb hK hP 2 1 rfl rfl (vp_in_nI (n := 5) (N := 8) (by omega) (by omega)) dX0_tellHits_26 ?_
                refine qq_as (v := .ref (rh 5)) (rfl) ?_
                refine lv_iload hx hb dX0_tellHits_27 (lv_at hl 4 rfl) ?_
                refine lv_aload_n hx hb dX0_tellHits_29 rfl (lv_at hl 1 rfl) ?_
                refine va_get (D := (dC, dI)) (ci := 10) (v := .long ed) (C := RX8) (T := TX8) (N := 14) hx hb hts kc_xTellHits_2 hown hK hP 11 rfl rfl 4 (by decide) (hts (.fieldLink RX0 52 "MistHeaps$Scene" "edges" "J") kc_xTellHits_3) (fun _ h9 => h9) rfl dX0_tellHits_30 ?_
                refine lv_iload hx hb dX0_tellHits_33 (lv_at hl 4 rfl) ?_
                refine vp_callSi (va_runSN (As := [.long ed, .int (nI i)]) (rest := [.int (nI i), .ref (rh 5)]) ⟨hx, hb, hml, hown, hts⟩ (c_isIn l dC dI ed (nI i)) ⟨va_cnB 2 hts ggX0_tellHits_X11_isIn rfl rfl rfl (hG.1 (.methodLinkNest RX0 44 yX11_isIn "MistHeaps") (by decide +kernel)) (hts (.initialized RX11) kc_xTellHits_4) (by decide +kernel) ⟨Nat.le_of_ble_eq_true rfl, Nat.le_of_ble_eq_true rfl⟩, (hts (.static yX11_isIn) kc_xTellHits_5), trivial⟩ ⟨fun a U g mk q => ⟨q.1, trivial⟩, fun U hU hW => ⟨rfl, trivial⟩⟩ rfl rfl hl.1 rfl (lv_room (Nat.le_of_ble_eq_true rfl)) dX0_tellHits_35 ⟨Nat.le_of_ble_eq_true rfl, Nat.le_of_ble_eq_true rfl⟩).run (fun r_128 hw_129 => ?_)
                rcases hw_129 with rfl | rfl
                · skip
                  refine lv_if_eq (tgt := 53) hx hb dX0_tellHits_38 (by decide) (fun c_130 => absurd c_130 (by decide)) (fun _ => ?_)
                  refine lv_bipush (v := 20) hx hb dX0_tellHits_41 (by decide) ?_
                  refine lv_lload_n hx hb dX0_tellHits_43 rfl (lv_at hl 2 rfl) ?_
                  refine lv_iload hx hb dX0_tellHits_44 (lv_at hl 4 rfl) ?_
                  refine vp_callSi (va_runS (As := [.long mk, .int (nI i)]) (rest := [.int 20, .int (nI i), .ref (rh 5)]) ⟨hx, hb, hml, hown, hts⟩ (c_hit l dC dI gd mk (nI i)) (va_cwS 2 hts gX0_tellHits_X0_hit rfl rfl rfl hd_yX0_hit.2 ⟨Nat.le_of_ble_eq_true rfl, Nat.le_of_ble_eq_true rfl⟩) ⟨fun a U g mk q => by obtain ⟨q0, qhG⟩ := q; exact ⟨q0, qhG.same rfl rfl⟩, fun U hU hW => ⟨rfl, hG.callF hS hU hW⟩⟩ rfl rfl hl.1 rfl (lv_room (Nat.le_of_ble_eq_true rfl)) dX0_tellHits_46 ⟨Nat.le_of_ble_eq_true rfl, Nat.le_of_ble_eq_true rfl⟩).run (fun r_131 hw_132 => ?_)
                  refine lv_imul hx hb dX0_tellHits_49 ?_
                  refine lv_goto (tgt := 128) hx hb dX0_tellHits_50 (by decide) ?_
                  refine va_iast hx hb hK hP hD hS 8 7 rfl rfl (vp_in_nI (n := i) (N := 36) (by omega) (by omega)) dX0_tellHits_128 (fun H locs hP hD hS => ?_)
                  rw [nI_clamp (n := i) (by omega)] at hP hD
                  have hP : va_P (dC, dI) vwCl [(zo2lirrr ch ft fr dr tO hO), (zaI dr cD 36 fD), (zaR hO cHO 8 (fun i => if i < 8 then some (rh i) else none)), (zaI (rh 0) cH 36 g02), (zaI (rh 1) cH 36 g12), (zaI (rh 2) cH 36 g22), (zaI (rh 3) cH 36 g32), (zaI (rh 4) cH 36 g42), (zaI (rh 5) cH 36 (upd f9 i (20 * r_131))), (zaI (rh 6) cH 36 g62), (zaI (rh 7) cH 36 g72), (zo10ririliiriririr sc aTp (nI ts) aHl (nI nh) ed mi sn aHs (nI n) aWk (nI wz) aBk (nI bz) aFc)] H := hP
                  have hD : va_D A [(zo2lirrr ch ft fr dr tO hO), (zaI dr cD 36 fD), (zaR hO cHO 8 (fun i => if i < 8 then some (rh i) else none)), (zaI (rh 0) cH 36 g02), (zaI (rh 1) cH 36 g12), (zaI (rh 2) cH 36 g22), (zaI (rh 3) cH 36 g32), (zaI (rh 4) cH 36 g42), (zaI (rh 5) cH 36 (upd f9 i (20 * r_131))), (zaI (rh 6) cH 36 g62), (zaI (rh 7) cH 36 g72), (zo10ririliiriririr sc aTp (nI ts) aHl (nI nh) ed mi sn aHs (nI n) aWk (nI wz) aBk (nI bz) aFc)] := hD
                  refine lv_iinc (v := nI (i + 1)) (lv' := [(5, .int (nI (i + 1))), (0, .ref ch), (1, .ref sc), (2, .long mk), (4, .int 5)]) hx hb dX0_tellHits_129 hl (k := 4) rfl (nI_add i 1) (by decide) rfl (fun ls hl => ?_)
                  refine lv_goto (tgt := 13) hx hb dX0_tellHits_132 (by decide) ?_
                  exact ih13 (i + 1) _ (by omega) (by omega) _ _ (hK.sub [0, 1, 2, 3, 4, 5, 6, 7, 8, 9] rfl) (hP.sub [0, 1, 2, 3, 4, 5, 6, 7, 8, 9, 10, 11] rfl) (hD.sub [0, 1, 2, 3, 4, 5, 6, 7, 8, 9, 10, 11] (by decide) rfl) hS ls (lv_sub hl [1, 2, 3, 4, 0] rfl)
                · skip
                  refine lv_if_eq (tgt := 53) hx hb dX0_tellHits_38 (by decide) (fun _ => ?_) (fun c_133 => absurd c_133 (by decide))
                  refine lv_bipush (v := 20) hx hb dX0_tellHits_53 (by decide) ?_
                  refine lv_iconst (v := 2) hx hb dX0_tellHits_55 (by decide) ?_
                  refine lv_aload_n hx hb dX0_tellHits_56 rfl (lv_at hl 0 rfl) ?_
                  refine va_get (D := (dC, dI)) (ci := 2) (v := .ref dr) (C := RX0) (T := TX0) (N := 5) hx hb hts kc_xTellHits_0 hown hK hP 0 rfl rfl 2 (by decide) (hts (.fieldLink RX0 9 "MistHeaps$Chances" "drifts" "[I") kc_xTellHits_6) (fun _ h9 => h9) rfl dX0_tellHits_57 ?_
                  refine lv_iload hx hb dX0_tellHits_60 (lv_at hl 4 rfl) ?_
                  refine va_iald hx hb hK hP 1 0 rfl rfl (vp_in_nI (n := i) (N := 36) (by omega) (by omega)) dX0_tellHits_62 ?_
                  refine qi_as (y := fD i) (by rw [nI_clamp (by omega)]) ?_
                  refine lv_imul hx hb dX0_tellHits_63 ?_
                  refine lv_isub hx hb dX0_tellHits_64 ?_
                  refine lv_lload_n hx hb dX0_tellHits_65 rfl (lv_at hl 2 rfl) ?_
                  refine lv_iload hx hb dX0_tellHits_66 (lv_at hl 4 rfl) ?_
                  refine lv_iload hx hb dX0_tellHits_68 (lv_at hl 3 rfl) ?_
                  refine vp_callSi (va_runSN (As := [.int (nI i), .int 5]) (rest := [.long mk, .int (20 - (2 * (fD i))), .int (nI i), .ref (rh 5)]) ⟨hx, hb, hml, hown, hts⟩ (c_beside l dC dI gd i 5 (by omega) (by omega)) ⟨va_cnB 2 hts ggX0_tellHits_X11_besideOrSame rfl rfl rfl (hG.1 (.methodLinkNest RX0 56 yX11_besideOrSame "MistHeaps") (by decide +kernel)) (hts (.initialized RX11) kc_xTellHits_4) (by decide +kernel) ⟨Nat.le_of_ble_eq_true rfl, Nat.le_of_ble_eq_true rfl⟩, (hts (.static yX11_besideOrSame) kc_xTellHits_7), trivial⟩ ⟨fun a U g mk q => by obtain ⟨q0, qhG⟩ := q; exact ⟨q0, qhG.same rfl rfl⟩, fun U hU hW => ⟨rfl, hG.callF hS hU hW⟩⟩ rfl rfl hl.1 rfl (lv_room (Nat.le_of_ble_eq_true rfl)) dX0_tellHits_70 ⟨Nat.le_of_ble_eq_true rfl, Nat.le_of_ble_eq_true rfl⟩).run (fun r_134 hw_135 => ?_)
                  obtain ⟨k_136, hk_137, rfl⟩ := hw_135
                  refine vp_callSi (va_runS (As := [.long mk, .int (nI k_136)]) (rest := [.int (20 - (2 * (fD i))), .int (nI i), .ref (rh 5)]) ⟨hx, hb, hml, hown, hts⟩ (c_hit l dC dI gd mk (nI k_136)) (va_cwS 2 hts gX0_tellHits_X0_hit rfl rfl rfl hd_yX0_hit.2 ⟨Nat.le_of_ble_eq_true rfl, Nat.le_of_ble_eq_true rfl⟩) ⟨fun a U g mk q => by obtain ⟨q0, qhG⟩ := q; exact ⟨q0, qhG.same rfl rfl⟩, fun U hU hW => ⟨rfl, hG.callF hS hU hW⟩⟩ rfl rfl hl.1 rfl (lv_room (Nat.le_of_ble_eq_true rfl)) dX0_tellHits_73 ⟨Nat.le_of_ble_eq_true rfl, Nat.le_of_ble_eq_true rfl⟩).run (fun r_138 hw_139 => ?_)
                  refine lv_imul hx hb dX0_tellHits_76 ?_
                  refine lv_aload_n hx hb dX0_tellHits_77 rfl (lv_at hl 0 rfl) ?_
                  refine va_get (D := (dC, dI)) (ci := 2) (v := .ref dr) (C := RX0) (T := TX0) (N := 5) hx hb hts kc_xTellHits_0 hown hK hP 0 rfl rfl 2 (by decide) (hts (.fieldLink RX0 9 "MistHeaps$Chances" "drifts" "[I") kc_xTellHits_6) (fun _ h9 => h9) rfl dX0_tellHits_78 ?_
                  refine lv_iload hx hb dX0_tellHits_81 (lv_at hl 4 rfl) ?_
                  refine va_iald hx hb hK hP 1 0 rfl rfl (vp_in_nI (n := i) (N := 36) (by omega) (by omega)) dX0_tellHits_83 ?_
                  refine qi_as (y := fD i) (by rw [nI_clamp (by omega)]) ?_
                  refine lv_lload_n hx hb dX0_tellHits_84 rfl (lv_at hl 2 rfl) ?_
                  refine lv_iload hx hb dX0_tellHits_85 (lv_at hl 4 rfl) ?_
                  refine lv_iload hx hb dX0_tellHits_87 (lv_at hl 3 rfl) ?_
                  refine lv_bipush (v := 7) hx hb dX0_tellHits_89 (by decide) ?_
                  refine lv_iadd hx hb dX0_tellHits_91 ?_
                  refine qi_as (y := 12) (by decide) ?_
                  refine lv_bipush (v := 7) hx hb dX0_tellHits_92 (by decide) ?_
                  refine lv_iand hx hb dX0_tellHits_94 ?_
                  refine qi_as (y := 4) (by decide) ?_
                  refine vp_callSi (va_runSN (As := [.int (nI i), .int 4]) (rest := [.long mk, .int (fD i), .int ((20 - (2 * (fD i))) * r_138), .int (nI i), .ref (rh 5)]) ⟨hx, hb, hml, hown, hts⟩ (c_beside l dC dI gd i 4 (by omega) (by omega)) ⟨va_cnB 2 hts ggX0_tellHits_X11_besideOrSame rfl rfl rfl (hG.1 (.methodLinkNest RX0 56 yX11_besideOrSame "MistHeaps") (by decide +kernel)) (hts (.initialized RX11) kc_xTellHits_4) (by decide +kernel) ⟨Nat.le_of_ble_eq_true rfl, Nat.le_of_ble_eq_true rfl⟩, (hts (.static yX11_besideOrSame) kc_xTellHits_7), trivial⟩ ⟨fun a U g mk q => by obtain ⟨q0, qhG⟩ := q; exact ⟨q0, qhG.same rfl rfl⟩, fun U hU hW => ⟨rfl, hG.callF hS hU hW⟩⟩ rfl rfl hl.1 rfl (lv_room (Nat.le_of_ble_eq_true rfl)) dX0_tellHits_95 ⟨Nat.le_of_ble_eq_true rfl, Nat.le_of_ble_eq_true rfl⟩).run (fun r_140 hw_141 => ?_)
                  obtain ⟨k_142, hk_143, rfl⟩ := hw_141
                  refine vp_callSi (va_runS (As := [.long mk, .int (nI k_142)]) (rest := [.int (fD i), .int ((20 - (2 * (fD i))) * r_138), .int (nI i), .ref (rh 5)]) ⟨hx, hb, hml, hown, hts⟩ (c_hit l dC dI gd mk (nI k_142)) (va_cwS 2 hts gX0_tellHits_X0_hit rfl rfl rfl hd_yX0_hit.2 ⟨Nat.le_of_ble_eq_true rfl, Nat.le_of_ble_eq_true rfl⟩) ⟨fun a U g mk q => by obtain ⟨q0, qhG⟩ := q; exact ⟨q0, qhG.same rfl rfl⟩, fun U hU hW => ⟨rfl, hG.callF hS hU hW⟩⟩ rfl rfl hl.1 rfl (lv_room (Nat.le_of_ble_eq_true rfl)) dX0_tellHits_98 ⟨Nat.le_of_ble_eq_true rfl, Nat.le_of_ble_eq_true rfl⟩).run (fun r_144 hw_145 => ?_)
                  refine lv_imul hx hb dX0_tellHits_101 ?_
                  refine lv_iadd hx hb dX0_tellHits_102 ?_
                  refine lv_aload_n hx hb dX0_tellHits_103 rfl (lv_at hl 0 rfl) ?_
                  refine va_get (D := (dC, dI)) (ci := 2) (v := .ref dr) (C := RX0) (T := TX0) (N := 5) hx hb hts kc_xTellHits_0 hown hK hP 0 rfl rfl 2 (by decide) (hts (.fieldLink RX0 9 "MistHeaps$Chances" "drifts" "[I") kc_xTellHits_6) (fun _ h9 => h9) rfl dX0_tellHits_104 ?_
                  refine lv_iload hx hb dX0_tellHits_107 (lv_at hl 4 rfl) ?_
                  refine va_iald hx hb hK hP 1 0 rfl rfl (vp_in_nI (n := i) (N := 36) (by omega) (by omega)) dX0_tellHits_109 ?_
                  refine qi_as (y := fD i) (by rw [nI_clamp (by omega)]) ?_
                  refine lv_lload_n hx hb dX0_tellHits_110 rfl (lv_at hl 2 rfl) ?_
                  refine lv_iload hx hb dX0_tellHits_111 (lv_at hl 4 rfl) ?_
                  refine lv_iload hx hb dX0_tellHits_113 (lv_at hl 3 rfl) ?_
                  refine lv_iconst (v := 1) hx hb dX0_tellHits_115 (by decide) ?_
                  refine lv_iadd hx hb dX0_tellHits_116 ?_
                  refine qi_as (y := 6) (by decide) ?_
                  refine lv_bipush (v := 7) hx hb dX0_tellHits_117 (by decide) ?_
                  refine lv_iand hx hb dX0_tellHits_119 ?_
                  refine qi_as (y := 6) (by decide) ?_
                  refine vp_callSi (va_runSN (As := [.int (nI i), .int 6]) (rest := [.long mk, .int (fD i), .int (((20 - (2 * (fD i))) * r_138) + ((fD i) * r_144)), .int (nI i), .ref (rh 5)]) ⟨hx, hb, hml, hown, hts⟩ (c_beside l dC dI gd i 6 (by omega) (by omega)) ⟨va_cnB 2 hts ggX0_tellHits_X11_besideOrSame rfl rfl rfl (hG.1 (.methodLinkNest RX0 56 yX11_besideOrSame "MistHeaps") (by decide +kernel)) (hts (.initialized RX11) kc_xTellHits_4) (by decide +kernel) ⟨Nat.le_of_ble_eq_true rfl, Nat.le_of_ble_eq_true rfl⟩, (hts (.static yX11_besideOrSame) kc_xTellHits_7), trivial⟩ ⟨fun a U g mk q => by obtain ⟨q0, qhG⟩ := q; exact ⟨q0, qhG.same rfl rfl⟩, fun U hU hW => ⟨rfl, hG.callF hS hU hW⟩⟩ rfl rfl hl.1 rfl (lv_room (Nat.le_of_ble_eq_true rfl)) dX0_tellHits_120 ⟨Nat.le_of_ble_eq_true rfl, Nat.le_of_ble_eq_true rfl⟩).run (fun r_146 hw_147 => ?_)
                  obtain ⟨k_148, hk_149, rfl⟩ := hw_147
                  refine vp_callSi (va_runS (As := [.long mk, .int (nI k_148)]) (rest := [.int (fD i), .int (((20 - (2 * (fD i))) * r_138) + ((fD i) * r_144)), .int (nI i), .ref (rh 5)]) ⟨hx, hb, hml, hown, hts⟩ (c_hit l dC dI gd mk (nI k_148)) (va_cwS 2 hts gX0_tellHits_X0_hit rfl rfl rfl hd_yX0_hit.2 ⟨Nat.le_of_ble_eq_true rfl, Nat.le_of_ble_eq_true rfl⟩) ⟨fun a U g mk q => by obtain ⟨q0, qhG⟩ := q; exact ⟨q0, qhG.same rfl rfl⟩, fun U hU hW => ⟨rfl, hG.callF hS hU hW⟩⟩ rfl rfl hl.1 rfl (lv_room (Nat.le_of_ble_eq_true rfl)) dX0_tellHits_123 ⟨Nat.le_of_ble_eq_true rfl, Nat.le_of_ble_eq_true rfl⟩).run (fun r_150 hw_151 => ?_)
                  refine lv_imul hx hb dX0_tellHits_126 ?_
                  refine lv_iadd hx hb dX0_tellHits_127 ?_
                  refine va_iast hx hb hK hP hD hS 8 7 rfl rfl (vp_in_nI (n := i) (N := 36) (by omega) (by omega)) dX0_tellHits_128 (fun H locs hP hD hS => ?_)
                  rw [nI_clamp (n := i) (by omega)] at hP hD
                  have hP : va_P (dC, dI) vwCl [(zo2lirrr ch ft fr dr tO hO), (zaI dr cD 36 fD), (zaR hO cHO 8 (fun i => if i < 8 then some (rh i) else none)), (zaI (rh 0) cH 36 g02), (zaI (rh 1) cH 36 g12), (zaI (rh 2) cH 36 g22), (zaI (rh 3) cH 36 g32), (zaI (rh 4) cH 36 g42), (zaI (rh 5) cH 36 (upd f9 i ((((20 - (2 * (fD i))) * r_138) + ((fD i) * r_144)) + ((fD i) * r_150)))), (zaI (rh 6) cH 36 g62), (zaI (rh 7) cH 36 g72), (zo10ririliiriririr sc aTp (nI ts) aHl (nI nh) ed mi sn aHs (nI n) aWk (nI wz) aBk (nI bz) aFc)] H := hP
                  have hD : va_D A [(zo2lirrr ch ft fr dr tO hO), (zaI dr cD 36 fD), (zaR hO cHO 8 (fun i => if i < 8 then some (rh i) else none)), (zaI (rh 0) cH 36 g02), (zaI (rh 1) cH 36 g12), (zaI (rh 2) cH 36 g22), (zaI (rh 3) cH 36 g32), (zaI (rh 4) cH 36 g42), (zaI (rh 5) cH 36 (upd f9 i ((((20 - (2 * (fD i))) * r_138) + ((fD i) * r_144)) + ((fD i) * r_150)))), (zaI (rh 6) cH 36 g62), (zaI (rh 7) cH 36 g72), (zo10ririliiriririr sc aTp (nI ts) aHl (nI nh) ed mi sn aHs (nI n) aWk (nI wz) aBk (nI bz) aFc)] := hD
                  refine lv_iinc (v := nI (i + 1)) (lv' := [(5, .int (nI (i + 1))), (0, .ref ch), (1, .ref sc), (2, .long mk), (4, .int 5)]) hx hb dX0_tellHits_129 hl (k := 4) rfl (nI_add i 1) (by decide) rfl (fun ls hl => ?_)
                  refine lv_goto (tgt := 13) hx hb dX0_tellHits_132 (by decide) ?_
                  exact ih13 (i + 1) _ (by omega) (by omega) _ _ (hK.sub [0, 1, 2, 3, 4, 5, 6, 7, 8, 9] rfl) (hP.sub [0, 1, 2, 3, 4, 5, 6, 7, 8, 9, 10, 11] rfl) (hD.sub [0, 1, 2, 3, 4, 5, 6, 7, 8, 9, 10, 11] (by decide) rfl) hS ls (lv_sub hl [1, 2, 3, 4, 0] rfl)
          exact L13 _ (0) _ (Nat.lt_succ_self _) (by omega) _ _ (hK.sub [0, 1, 2, 3, 4, 5, 6, 7, 8, 9] rfl) (hP.sub [0, 1, 2, 3, 4, 5, 6, 7, 8, 9, 10, 11] rfl) (hD.sub [0, 1, 2, 3, 4, 5, 6, 7, 8, 9, 10, 11] (by decide) rfl) hS ls (lv_sub hl [1, 2, 3, 4, 0] rfl)
        · skip
          refine lv_iconst (v := 0) hx hb dX0_tellHits_10 (by decide) ?_
          refine lv_istore (lv' := [(5, .int 0), (0, .ref ch), (1, .ref sc), (2, .long mk), (4, .int 6)]) hx hb dX0_tellHits_11 hl (by decide) rfl (fun ls hl => ?_)
          have L13 : ∀ (nF : Nat) (i : Nat) (f9 : Nat → Int32), 36 - i < nF → (i ≤ 36) → ∀ (H : Heap) (locs : List Loc), va_K (dC, dI) vwCl [(cD, .int), (cHO, .array .int), (cH, .int), (cH, .int), (cH, .int), (cH, .int), (cH, .int), (cH, .int), (cH, .int), (cH, .int)] s → va_P (dC, dI) vwCl [(zo2lirrr ch ft fr dr tO hO), (zaI dr cD 36 fD), (zaR hO cHO 8 (fun i => if i < 8 then some (rh i) else none)), (zaI (rh 0) cH 36 g02), (zaI (rh 1) cH 36 g12), (zaI (rh 2) cH 36 g22), (zaI (rh 3) cH 36 g32), (zaI (rh 4) cH 36 g42), (zaI (rh 5) cH 36 g52), (zaI (rh 6) cH 36 f9), (zaI (rh 7) cH 36 g72), (zo10ririliiriririr sc aTp (nI ts) aHl (nI nh) ed mi sn aHs (nI n) aWk (nI wz) aBk (nI bz) aFc)] H → va_D A [(zo2lirrr ch ft fr dr tO hO), (zaI dr cD 36 fD), (zaR hO cHO 8 (fun i => if i < 8 then some (rh i) else none)), (zaI (rh 0) cH 36 g02), (zaI (rh 1) cH 36 g12), (zaI (rh 2) cH 36 g22), (zaI (rh 3) cH 36 g32), (zaI (rh 4) cH 36 g42), (zaI (rh 5) cH 36 g52), (zaI (rh 6) cH 36 f9), (zaI (rh 7) cH 36 g72), (zo10ririliiriririr sc aTp (nI ts) aHl (nI nh) ed mi sn aHs (nI n) aWk (nI wz) aBk (nI bz) aFc)] → va_S A s.heap H locs → ∀ (ls : Array Slot), lv_has ls 6 [(0, .ref ch), (1, .ref sc), (2, .long mk), (4, .int 6), (5, .int (nI i))] → W p l e ({ frames := 2, cells := 0, slots := 0, locals := 44 } : Room) s m args below meth c H locs 0 0 Q (F0 m 13 ls []) := by
            intro nF
            induction nF with
            | zero => intro i f9 hm; exact absurd hm (Nat.not_lt_zero _)
            | succ nF ih13 =>
              intro i f9 hm hi H locs hK hP hD hS ls hl
              refine lv_iload hx hb dX0_tellHits_13 (lv_at hl 4 rfl) ?_
              refine lv_bipush (v := 36) hx hb dX0_tellHits_15 (by decide) ?_
              refine lv_icmp_ge (tgt := 135) hx hb dX0_tellHits_17 (by decide) (fun c_152 => ?_) (fun c_152 => ?_)
              · skip
                have c_152 : 36 ≤ i := (nI_leI (a := 36) (b := i) (by omega) (by omega)).mp c_152
                refine lv_iinc (v := 7) (lv' := [(4, .int 7), (0, .ref ch), (1, .ref sc), (2, .long mk), (5, .int (nI i))]) hx hb dX0_tellHits_135 hl (k := 3) rfl (by decide) (by decide) rfl (fun ls hl => ?_)
                refine lv_goto (tgt := 3) hx hb dX0_tellHits_138 (by decide) ?_
                exact ih3 (7) _ _ _ _ _ _ _ _ (by omega) (by omega) _ _ (hK.sub [0, 1, 2, 3, 4, 5, 6, 7, 8, 9] rfl) (hP.sub [0, 1, 2, 3, 4, 5, 6, 7, 8, 9, 10, 11] rfl) (hD.sub [0, 1, 2, 3, 4, 5, 6, 7, 8, 9, 10, 11] (by decide) rfl) hS ls (lv_sub hl [1, 2, 3, 0] rfl)
              · skip
                have c_152 : ¬ 36 ≤ i := fun q => c_152 ((nI_leI (a := 36) (b := i) (by omega) (by omega)).mpr q)
                refine lv_aload_n hx hb dX0_tellHits_20 rfl (lv_at hl 0 rfl) ?_
                refine va_get (D := (dC, dI)) (ci := 2) (v := .ref hO) (C := RX0) (T := TX0) (N := 5) hx hb hts kc_xTellHits_0 hown hK hP 0 rfl rfl 4 (by decide) (hts (.fieldLink RX0 22 "MistHeaps$Chances" "hits" "[[I") kc_xTellHits_1) (fun _ h9 => h9) rfl dX0_tellHits_21 ?_
                refine lv_iload hx hb dX0_tellHits_24 (lv_at hl 3 rfl) ?_
                refine va_alda hx hb hK hP 2 1 rfl rfl (vp_in_nI (n := 6) (N := 8) (by omega) (by omega)) dX0_tellHits_26 ?_
                refine qq_as (v := .ref (rh 6)) (rfl) ?_
                refine lv_iload hx hb dX0_tellHits_27 (lv_at hl 4 rfl) ?_
                refine lv_aload_n hx hb dX0_tellHits_29 rfl (lv_at hl 1 rfl) ?_
                refine va_get (D := (dC, dI)) (ci := 10) (v := .long ed) (C := RX8) (T := TX8) (N := 14) hx hb hts kc_xTellHits_2 hown hK hP 11 rfl rfl 4 (by decide) (hts (.fieldLink RX0 52 "MistHeaps$Scene" "edges" "J") kc_xTellHits_3) (fun _ h9 => h9) rfl dX0_tellHits_30 ?_
                refine lv_iload hx hb dX0_tellHits_33 (lv_at hl 4 rfl) ?_
                refine vp_callSi (va_runSN (As := [.long ed, .int (nI i)]) (rest := [.int (nI i), .ref (rh 6)]) ⟨hx, hb, hml, hown, hts⟩ (c_isIn l dC dI ed (nI i)) ⟨va_cnB 2 hts ggX0_tellHits_X11_isIn rfl rfl rfl (hG.1 (.methodLinkNest RX0 44 yX11_isIn "MistHeaps") (by decide +kernel)) (hts (.initialized RX11) kc_xTellHits_4) (by decide +kernel) ⟨Nat.le_of_ble_eq_true rfl, Nat.le_of_ble_eq_true rfl⟩, (hts (.static yX11_isIn) kc_xTellHits_5), trivial⟩ ⟨fun a U g mk q => ⟨q.1, trivial⟩, fun U hU hW => ⟨rfl, trivial⟩⟩ rfl rfl hl.1 rfl (lv_room (Nat.le_of_ble_eq_true rfl)) dX0_tellHits_35 ⟨Nat.le_of_ble_eq_true rfl, Nat.le_of_ble_eq_true rfl⟩).run (fun r_153 hw_154 => ?_)
                rcases hw_154 with rfl | rfl
                · skip
                  refine lv_if_eq (tgt := 53) hx hb dX0_tellHits_38 (by decide) (fun c_155 => absurd c_155 (by decide)) (fun _ => ?_)
                  refine lv_bipush (v := 20) hx hb dX0_tellHits_41 (by decide) ?_
                  refine lv_lload_n hx hb dX0_tellHits_43 rfl (lv_at hl 2 rfl) ?_
                  refine lv_iload hx hb dX0_tellHits_44 (lv_at hl 4 rfl) ?_
                  refine vp_callSi (va_runS (As := [.long mk, .int (nI i)]) (rest := [.int 20, .int (nI i), .ref (rh 6)]) ⟨hx, hb, hml, hown, hts⟩ (c_hit l dC dI gd mk (nI i)) (va_cwS 2 hts gX0_tellHits_X0_hit rfl rfl rfl hd_yX0_hit.2 ⟨Nat.le_of_ble_eq_true rfl, Nat.le_of_ble_eq_true rfl⟩) ⟨fun a U g mk q => by obtain ⟨q0, qhG⟩ := q; exact ⟨q0, qhG.same rfl rfl⟩, fun U hU hW => ⟨rfl, hG.callF hS hU hW⟩⟩ rfl rfl hl.1 rfl (lv_room (Nat.le_of_ble_eq_true rfl)) dX0_tellHits_46 ⟨Nat.le_of_ble_eq_true rfl, Nat.le_of_ble_eq_true rfl⟩).run (fun r_156 hw_157 => ?_)
                  refine lv_imul hx hb dX0_tellHits_49 ?_
                  refine lv_goto (tgt := 128) hx hb dX0_tellHits_50 (by decide) ?_
                  refine va_iast hx hb hK hP hD hS 9 8 rfl rfl (vp_in_nI (n := i) (N := 36) (by omega) (by omega)) dX0_tellHits_128 (fun H locs hP hD hS => ?_)
                  rw [nI_clamp (n := i) (by omega)] at hP hD
                  have hP : va_P (dC, dI) vwCl [(zo2lirrr ch ft fr dr tO hO), (zaI dr cD 36 fD), (zaR hO cHO 8 (fun i => if i < 8 then some (rh i) else none)), (zaI (rh 0) cH 36 g02), (zaI (rh 1) cH 36 g12), (zaI (rh 2) cH 36 g22), (zaI (rh 3) cH 36 g32), (zaI (rh 4) cH 36 g42), (zaI (rh 5) cH 36 g52), (zaI (rh 6) cH 36 (upd f9 i (20 * r_156))), (zaI (rh 7) cH 36 g72), (zo10ririliiriririr sc aTp (nI ts) aHl (nI nh) ed mi sn aHs (nI n) aWk (nI wz) aBk (nI bz) aFc)] H := hP
                  have hD : va_D A [(zo2lirrr ch ft fr dr tO hO), (zaI dr cD 36 fD), (zaR hO cHO 8 (fun i => if i < 8 then some (rh i) else none)), (zaI (rh 0) cH 36 g02), (zaI (rh 1) cH 36 g12), (zaI (rh 2) cH 36 g22), (zaI (rh 3) cH 36 g32), (zaI (rh 4) cH 36 g42), (zaI (rh 5) cH 36 g52), (zaI (rh 6) cH 36 (upd f9 i (20 * r_156))), (zaI (rh 7) cH 36 g72), (zo10ririliiriririr sc aTp (nI ts) aHl (nI nh) ed mi sn aHs (nI n) aWk (nI wz) aBk (nI bz) aFc)] := hD
                  refine lv_iinc (v := nI (i + 1)) (lv' := [(5, .int (nI (i + 1))), (0, .ref ch), (1, .ref sc), (2, .long mk), (4, .int 6)]) hx hb dX0_tellHits_129 hl (k := 4) rfl (nI_add i 1) (by decide) rfl (fun ls hl => ?_)
                  refine lv_goto (tgt := 13) hx hb dX0_tellHits_132 (by decide) ?_
                  exact ih13 (i + 1) _ (by omega) (by omega) _ _ (hK.sub [0, 1, 2, 3, 4, 5, 6, 7, 8, 9] rfl) (hP.sub [0, 1, 2, 3, 4, 5, 6, 7, 8, 9, 10, 11] rfl) (hD.sub [0, 1, 2, 3, 4, 5, 6, 7, 8, 9, 10, 11] (by decide) rfl) hS ls (lv_sub hl [1, 2, 3, 4, 0] rfl)
                · skip
                  refine lv_if_eq (tgt := 53) hx hb dX0_tellHits_38 (by decide) (fun _ => ?_) (fun c_158 => absurd c_158 (by decide))
                  refine lv_bipush (v := 20) hx hb dX0_tellHits_53 (by decide) ?_
                  refine lv_iconst (v := 2) hx hb dX0_tellHits_55 (by decide) ?_
                  refine lv_aload_n hx hb dX0_tellHits_56 rfl (lv_at hl 0 rfl) ?_
                  refine va_get (D := (dC, dI)) (ci := 2) (v := .ref dr) (C := RX0) (T := TX0) (N := 5) hx hb hts kc_xTellHits_0 hown hK hP 0 rfl rfl 2 (by decide) (hts (.fieldLink RX0 9 "MistHeaps$Chances" "drifts" "[I") kc_xTellHits_6) (fun _ h9 => h9) rfl dX0_tellHits_57 ?_
                  refine lv_iload hx hb dX0_tellHits_60 (lv_at hl 4 rfl) ?_
                  refine va_iald hx hb hK hP 1 0 rfl rfl (vp_in_nI (n := i) (N := 36) (by omega) (by omega)) dX0_tellHits_62 ?_
                  refine qi_as (y := fD i) (by rw [nI_clamp (by omega)]) ?_
                  refine lv_imul hx hb dX0_tellHits_63 ?_
                  refine lv_isub hx hb dX0_tellHits_64 ?_
                  refine lv_lload_n hx hb dX0_tellHits_65 rfl (lv_at hl 2 rfl) ?_
                  refine lv_iload hx hb dX0_tellHits_66 (lv_at hl 4 rfl) ?_
                  refine lv_iload hx hb dX0_tellHits_68 (lv_at hl 3 rfl) ?_
                  refine vp_callSi (va_runSN (As := [.int (nI i), .int 6]) (rest := [.long mk, .int (20 - (2 * (fD i))), .int (nI i), .ref (rh 6)]) ⟨hx, hb, hml, hown, hts⟩ (c_beside l dC dI gd i 6 (by omega) (by omega)) ⟨va_cnB 2 hts ggX0_tellHits_X11_besideOrSame rfl rfl rfl (hG.1 (.methodLinkNest RX0 56 yX11_besideOrSame "MistHeaps") (by decide +kernel)) (hts (.initialized RX11) kc_xTellHits_4) (by decide +kernel) ⟨Nat.le_of_ble_eq_true rfl, Nat.le_of_ble_eq_true rfl⟩, (hts (.static yX11_besideOrSame) kc_xTellHits_7), trivial⟩ ⟨fun a U g mk q => by obtain ⟨q0, qhG⟩ := q; exact ⟨q0, qhG.same rfl rfl⟩, fun U hU hW => ⟨rfl, hG.callF hS hU hW⟩⟩ rfl rfl hl.1 rfl (lv_room (Nat.le_of_ble_eq_true rfl)) dX0_tellHits_70 ⟨Nat.le_of_ble_eq_true rfl, Nat.le_of_ble_eq_true rfl⟩).run (fun r_159 hw_160 => ?_)
                  obtain ⟨k_161, hk_162, rfl⟩ := hw_160
                  refine vp_callSi (va_runS (As := [.long mk, .int (nI k_161)]) (rest := [.int (20 - (2 * (fD i))), .int (nI i), .ref (rh 6)]) ⟨hx, hb, hml, hown, hts⟩ (c_hit l dC dI gd mk (nI k_161)) (va_cwS 2 hts gX0_tellHits_X0_hit rfl rfl rfl hd_yX0_hit.2 ⟨Nat.le_of_ble_eq_true rfl, Nat.le_of_ble_eq_true rfl⟩) ⟨fun a U g mk q => by obtain ⟨q0, qhG⟩ := q; exact ⟨q0, qhG.same rfl rfl⟩, fun U hU hW => ⟨rfl, hG.callF hS hU hW⟩⟩ rfl rfl hl.1 rfl (lv_room (Nat.le_of_ble_eq_true rfl)) dX0_tellHits_73 ⟨Nat.le_of_ble_eq_true rfl, Nat.le_of_ble_eq_true rfl⟩).run (fun r_163 hw_164 => ?_)
                  refine lv_imul hx hb dX0_tellHits_76 ?_
                  refine lv_aload_n hx hb dX0_tellHits_77 rfl (lv_at hl 0 rfl) ?_
                  refine va_get (D := (dC, dI)) (ci := 2) (v := .ref dr) (C := RX0) (T := TX0) (N := 5) hx hb hts kc_xTellHits_0 hown hK hP 0 rfl rfl 2 (by decide) (hts (.fieldLink RX0 9 "MistHeaps$Chances" "drifts" "[I") kc_xTellHits_6) (fun _ h9 => h9) rfl dX0_tellHits_78 ?_
                  refine lv_iload hx hb dX0_tellHits_81 (lv_at hl 4 rfl) ?_
                  refine va_iald hx hb hK hP 1 0 rfl rfl (vp_in_nI (n := i) (N := 36) (by omega) (by omega)) dX0_tellHits_83 ?_
                  refine qi_as (y := fD i) (by rw [nI_clamp (by omega)]) ?_
                  refine lv_lload_n hx hb dX0_tellHits_84 rfl (lv_at hl 2 rfl) ?_
                  refine lv_iload hx hb dX0_tellHits_85 (lv_at hl 4 rfl) ?_
                  refine lv_iload hx hb dX0_tellHits_87 (lv_at hl 3 rfl) ?_
                  refine lv_bipush (v := 7) hx hb dX0_tellHits_89 (by decide) ?_
                  refine lv_iadd hx hb dX0_tellHits_91 ?_
                  refine qi_as (y := 13) (by decide) ?_
                  refine lv_bipush (v := 7) hx hb dX0_tellHits_92 (by decide) ?_
                  refine lv_iand hx hb dX0_tellHits_94 ?_
                  refine qi_as (y := 5) (by decide) ?_
                  refine vp_callSi (va_runSN (As := [.int (nI i), .int 5]) (rest := [.long mk, .int (fD i), .int ((20 - (2 * (fD i))) * r_163), .int (nI i), .ref (rh 6)]) ⟨hx, hb, hml, hown, hts⟩ (c_beside l dC dI gd i 5 (by omega) (by omega)) ⟨va_cnB 2 hts ggX0_tellHits_X11_besideOrSame rfl rfl rfl (hG.1 (.methodLinkNest RX0 56 yX11_besideOrSame "MistHeaps") (by decide +kernel)) (hts (.initialized RX11) kc_xTellHits_4) (by decide +kernel) ⟨Nat.le_of_ble_eq_true rfl, Nat.le_of_ble_eq_true rfl⟩, (hts (.static yX11_besideOrSame) kc_xTellHits_7), trivial⟩ ⟨fun a U g mk q => by obtain ⟨q0, qhG⟩ := q; exact ⟨q0, qhG.same rfl rfl⟩, fun U hU hW => ⟨rfl, hG.callF hS hU hW⟩⟩ rfl rfl hl.1 rfl (lv_room (Nat.le_of_ble_eq_true rfl)) dX0_tellHits_95 ⟨Nat.le_of_ble_eq_true rfl, Nat.le_of_ble_eq_true rfl⟩).run (fun r_165 hw_166 => ?_)
                  obtain ⟨k_167, hk_168, rfl⟩ := hw_166
                  refine vp_callSi (va_runS (As := [.long mk, .int (nI k_167)]) (rest := [.int (fD i), .int ((20 - (2 * (fD i))) * r_163), .int (nI i), .ref (rh 6)]) ⟨hx, hb, hml, hown, hts⟩ (c_hit l dC dI gd mk (nI k_167)) (va_cwS 2 hts gX0_tellHits_X0_hit rfl rfl rfl hd_yX0_hit.2 ⟨Nat.le_of_ble_eq_true rfl, Nat.le_of_ble_eq_true rfl⟩) ⟨fun a U g mk q => by obtain ⟨q0, qhG⟩ := q; exact ⟨q0, qhG.same rfl rfl⟩, fun U hU hW => ⟨rfl, hG.callF hS hU hW⟩⟩ rfl rfl hl.1 rfl (lv_room (Nat.le_of_ble_eq_true rfl)) dX0_tellHits_98 ⟨Nat.le_of_ble_eq_true rfl, Nat.le_of_ble_eq_true rfl⟩).run (fun r_169 hw_170 => ?_)
                  refine lv_imul hx hb dX0_tellHits_101 ?_
                  refine lv_iadd hx hb dX0_tellHits_102 ?_
                  refine lv_aload_n hx hb dX0_tellHits_103 rfl (lv_at hl 0 rfl) ?_
                  refine va_get (D := (dC, dI)) (ci := 2) (v := .ref dr) (C := RX0) (T := TX0) (N := 5) hx hb hts kc_xTellHits_0 hown hK hP 0 rfl rfl 2 (by decide) (hts (.fieldLink RX0 9 "MistHeaps$Chances" "drifts" "[I") kc_xTellHits_6) (fun _ h9 => h9) rfl dX0_tellHits_104 ?_
                  refine lv_iload hx hb dX0_tellHits_107 (lv_at hl 4 rfl) ?_
                  refine va_iald hx hb hK hP 1 0 rfl rfl (vp_in_nI (n := i) (N := 36) (by omega) (by omega)) dX0_tellHits_109 ?_
                  refine qi_as (y := fD i) (by rw [nI_clamp (by omega)]) ?_
                  refine lv_lload_n hx hb dX0_tellHits_110 rfl (lv_at hl 2 rfl) ?_
                  refine lv_iload hx hb dX0_tellHits_111 (lv_at hl 4 rfl) ?_
                  refine lv_iload hx hb dX0_tellHits_113 (lv_at hl 3 rfl) ?_
                  refine lv_iconst (v := 1) hx hb dX0_tellHits_115 (by decide) ?_
                  refine lv_iadd hx hb dX0_tellHits_116 ?_
                  refine qi_as (y := 7) (by decide) ?_
                  refine lv_bipush (v := 7) hx hb dX0_tellHits_117 (by decide) ?_
                  refine lv_iand hx hb dX0_tellHits_119 ?_
                  refine qi_as (y := 7) (by decide) ?_
                  refine vp_callSi (va_runSN (As := [.int (nI i), .int 7]) (rest := [.long mk, .int (fD i), .int (((20 - (2 * (fD i))) * r_163) + ((fD i) * r_169)), .int (nI i), .ref (rh 6)]) ⟨hx, hb, hml, hown, hts⟩ (c_beside l dC dI gd i 7 (by omega) (by omega)) ⟨va_cnB 2 hts ggX0_tellHits_X11_besideOrSame rfl rfl rfl (hG.1 (.methodLinkNest RX0 56 yX11_besideOrSame "MistHeaps") (by decide +kernel)) (hts (.initialized RX11) kc_xTellHits_4) (by decide +kernel) ⟨Nat.le_of_ble_eq_true rfl, Nat.le_of_ble_eq_true rfl⟩, (hts (.static yX11_besideOrSame) kc_xTellHits_7), trivial⟩ ⟨fun a U g mk q => by obtain ⟨q0, qhG⟩ := q; exact ⟨q0, qhG.same rfl rfl⟩, fun U hU hW => ⟨rfl, hG.callF hS hU hW⟩⟩ rfl rfl hl.1 rfl (lv_room (Nat.le_of_ble_eq_true rfl)) dX0_tellHits_120 ⟨Nat.le_of_ble_eq_true rfl, Nat.le_of_ble_eq_true rfl⟩).run (fun r_171 hw_172 => ?_)
                  obtain ⟨k_173, hk_174, rfl⟩ := hw_172
                  refine vp_callSi (va_runS (As := [.long mk, .int (nI k_173)]) (rest := [.int (fD i), .int (((20 - (2 * (fD i))) * r_163) + ((fD i) * r_169)), .int (nI i), .ref (rh 6)]) ⟨hx, hb, hml, hown, hts⟩ (c_hit l dC dI gd mk (nI k_173)) (va_cwS 2 hts gX0_tellHits_X0_hit rfl rfl rfl hd_yX0_hit.2 ⟨Nat.le_of_ble_eq_true rfl, Nat.le_of_ble_eq_true rfl⟩) ⟨fun a U g mk q => by obtain ⟨q0, qhG⟩ := q; exact ⟨q0, qhG.same rfl rfl⟩, fun U hU hW => ⟨rfl, hG.callF hS hU hW⟩⟩ rfl rfl hl.1 rfl (lv_room (Nat.le_of_ble_eq_true rfl)) dX0_tellHits_123 ⟨Nat.le_of_ble_eq_true rfl, Nat.le_of_ble_eq_true rfl⟩).run (fun r_175 hw_176 => ?_)
                  refine lv_imul hx hb dX0_tellHits_126 ?_
                  refine lv_iadd hx hb dX0_tellHits_127 ?_
                  refine va_iast hx hb hK hP hD hS 9 8 rfl rfl (vp_in_nI (n := i) (N := 36) (by omega) (by omega)) dX0_tellHits_128 (fun H locs hP hD hS => ?_)
                  rw [nI_clamp (n := i) (by omega)] at hP hD
                  have hP : va_P (dC, dI) vwCl [(zo2lirrr ch ft fr dr tO hO), (zaI dr cD 36 fD), (zaR hO cHO 8 (fun i => if i < 8 then some (rh i) else none)), (zaI (rh 0) cH 36 g02), (zaI (rh 1) cH 36 g12), (zaI (rh 2) cH 36 g22), (zaI (rh 3) cH 36 g32), (zaI (rh 4) cH 36 g42), (zaI (rh 5) cH 36 g52), (zaI (rh 6) cH 36 (upd f9 i ((((20 - (2 * (fD i))) * r_163) + ((fD i) * r_169)) + ((fD i) * r_175)))), (zaI (rh 7) cH 36 g72), (zo10ririliiriririr sc aTp (nI ts) aHl (nI nh) ed mi sn aHs (nI n) aWk (nI wz) aBk (nI bz) aFc)] H := hP
                  have hD : va_D A [(zo2lirrr ch ft fr dr tO hO), (zaI dr cD 36 fD), (zaR hO cHO 8 (fun i => if i < 8 then some (rh i) else none)), (zaI (rh 0) cH 36 g02), (zaI (rh 1) cH 36 g12), (zaI (rh 2) cH 36 g22), (zaI (rh 3) cH 36 g32), (zaI (rh 4) cH 36 g42), (zaI (rh 5) cH 36 g52), (zaI (rh 6) cH 36 (upd f9 i ((((20 - (2 * (fD i))) * r_163) + ((fD i) * r_169)) + ((fD i) * r_175)))), (zaI (rh 7) cH 36 g72), (zo10ririliiriririr sc aTp (nI ts) aHl (nI nh) ed mi sn aHs (nI n) aWk (nI wz) aBk (nI bz) aFc)] := hD
                  refine lv_iinc (v := nI (i + 1)) (lv' := [(5, .int (nI (i + 1))), (0, .ref ch), (1, .ref sc), (2, .long mk), (4, .int 6)]) hx hb dX0_tellHits_129 hl (k := 4) rfl (nI_add i 1) (by decide) rfl (fun ls hl => ?_)
                  refine lv_goto (tgt := 13) hx hb dX0_tellHits_132 (by decide) ?_
                  exact ih13 (i + 1) _ (by omega) (by omega) _ _ (hK.sub [0, 1, 2, 3, 4, 5, 6, 7, 8, 9] rfl) (hP.sub [0, 1, 2, 3, 4, 5, 6, 7, 8, 9, 10, 11] rfl) (hD.sub [0, 1, 2, 3, 4, 5, 6, 7, 8, 9, 10, 11] (by decide) rfl) hS ls (lv_sub hl [1, 2, 3, 4, 0] rfl)
          exact L13 _ (0) _ (Nat.lt_succ_self _) (by omega) _ _ (hK.sub [0, 1, 2, 3, 4, 5, 6, 7, 8, 9] rfl) (hP.sub [0, 1, 2, 3, 4, 5, 6, 7, 8, 9, 10, 11] rfl) (hD.sub [0, 1, 2, 3, 4, 5, 6, 7, 8, 9, 10, 11] (by decide) rfl) hS ls (lv_sub hl [1, 2, 3, 4, 0] rfl)
        · skip
          refine lv_iconst (v := 0) hx hb dX0_tellHits_10 (by decide) ?_
          refine lv_istore (lv' := [(5, .int 0), (0, .ref ch), (1, .ref sc), (2, .long mk), (4, .int 7)]) hx hb dX0_tellHits_11 hl (by decide) rfl (fun ls hl => ?_)
          have L13 : ∀ (nF : Nat) (i : Nat) (f9 : Nat → Int32), 36 - i < nF → (i ≤ 36) → ∀ (H : Heap) (locs : List Loc), va_K (dC, dI) vwCl [(cD, .int), (cHO, .array .int), (cH, .int), (cH, .int), (cH, .int), (cH, .int), (cH, .int), (cH, .int), (cH, .int), (cH, .int)] s → va_P (dC, dI) vwCl [(zo2lirrr ch ft fr dr tO hO), (zaI dr cD 36 fD), (zaR hO cHO 8 (fun i => if i < 8 then some (rh i) else none)), (zaI (rh 0) cH 36 g02), (zaI (rh 1) cH 36 g12), (zaI (rh 2) cH 36 g22), (zaI (rh 3) cH 36 g32), (zaI (rh 4) cH 36 g42), (zaI (rh 5) cH 36 g52), (zaI (rh 6) cH 36 g62), (zaI (rh 7) cH 36 f9), (zo10ririliiriririr sc aTp (nI ts) aHl (nI nh) ed mi sn aHs (nI n) aWk (nI wz) aBk (nI bz) aFc)] H → va_D A [(zo2lirrr ch ft fr dr tO hO), (zaI dr cD 36 fD), (zaR hO cHO 8 (fun i => if i < 8 then some (rh i) else none)), (zaI (rh 0) cH 36 g02), (zaI (rh 1) cH 36 g12), (zaI (rh 2) cH 36 g22), (zaI (rh 3) cH 36 g32), (zaI (rh 4) cH 36 g42), (zaI (rh 5) cH 36 g52), (zaI (rh 6) cH 36 g62), (zaI (rh 7) cH 36 f9), (zo10ririliiriririr sc aTp (nI ts) aHl (nI nh) ed mi sn aHs (nI n) aWk (nI wz) aBk (nI bz) aFc)] → va_S A s.heap H locs → ∀ (ls : Array Slot), lv_has ls 6 [(0, .ref ch), (1, .ref sc), (2, .long mk), (4, .int 7), (5, .int (nI i))] → W p l e ({ frames := 2, cells := 0, slots := 0, locals := 44 } : Room) s m args below meth c H locs 0 0 Q (F0 m 13 ls []) := by
            intro nF
            induction nF with
            | zero => intro i f9 hm; exact absurd hm (Nat.not_lt_zero _)
            | succ nF ih13 =>
              intro i f9 hm hi H locs hK hP hD hS ls hl
              refine lv_iload hx hb dX0_tellHits_13 (lv_at hl 4 rfl) ?_
              refine lv_bipush (v := 36) hx hb dX0_tellHits_15 (by decide) ?_
              refine lv_icmp_ge (tgt := 135) hx hb dX0_tellHits_17 (by decide) (fun c_177 => ?_) (fun c_177 => ?_)
              · skip
                have c_177 : 36 ≤ i := (nI_leI (a := 36) (b := i) (by omega) (by omega)).mp c_177
                refine lv_iinc (v := 8) (lv' := [(4, .int 8), (0, .ref ch), (1, .ref sc), (2, .long mk), (5, .int (nI i))]) hx hb dX0_tellHits_135 hl (k := 3) rfl (by decide) (by decide) rfl (fun ls hl => ?_)
                refine lv_goto (tgt := 3) hx hb dX0_tellHits_138 (by decide) ?_
                exact ih3 (8) _ _ _ _ _ _ _ _ (by omega) (by omega) _ _ (hK.sub [0, 1, 2, 3, 4, 5, 6, 7, 8, 9] rfl) (hP.sub [0, 1, 2, 3, 4, 5, 6, 7, 8, 9, 10, 11] rfl) (hD.sub [0, 1, 2, 3, 4, 5, 6, 7, 8, 9, 10, 11] (by decide) rfl) hS ls (lv_sub hl [1, 2, 3, 0] rfl)
              · skip
                have c_177 : ¬ 36 ≤ i := fun q => c_177 ((nI_leI (a := 36) (b := i) (by omega) (by omega)).mpr q)
                refine lv_aload_n hx hb dX0_tellHits_20 rfl (lv_at hl 0 rfl) ?_
                refine va_get (D := (dC, dI)) (ci := 2) (v := .ref hO) (C := RX0) (T := TX0) (N := 5) hx hb hts kc_xTellHits_0 hown hK hP 0 rfl rfl 4 (by decide) (hts (.fieldLink RX0 22 "MistHeaps$Chances" "hits" "[[I") kc_xTellHits_1) (fun _ h9 => h9) rfl dX0_tellHits_21 ?_
                refine lv_iload hx hb dX0_tellHits_24 (lv_at hl 3 rfl) ?_
                refine va_alda hx hb hK hP 2 1 rfl rfl (vp_in_nI (n := 7) (N := 8) (by omega) (by omega)) dX0_tellHits_26 ?_
                refine qq_as (v := .ref (rh 7)) (rfl) ?_
                refine lv_iload hx hb dX0_tellHits_27 (lv_at hl 4 rfl) ?_
                refine lv_aload_n hx hb dX0_tellHits_29 rfl (lv_at hl 1 rfl) ?_
                refine va_get (D := (dC, dI)) (ci := 10) (v := .long ed) (C := RX8) (T := TX8) (N := 14) hx hb hts kc_xTellHits_2 hown hK hP 11 rfl rfl 4 (by decide) (hts (.fieldLink RX0 52 "MistHeaps$Scene" "edges" "J") kc_xTellHits_3) (fun _ h9 => h9) rfl dX0_tellHits_30 ?_
                refine lv_iload hx hb dX0_tellHits_33 (lv_at hl 4 rfl) ?_
                refine vp_callSi (va_runSN (As := [.long ed, .int (nI i)]) (rest := [.int (nI i), .ref (rh 7)]) ⟨hx, hb, hml, hown, hts⟩ (c_isIn l dC dI ed (nI i)) ⟨va_cnB 2 hts ggX0_tellHits_X11_isIn rfl rfl rfl (hG.1 (.methodLinkNest RX0 44 yX11_isIn "MistHeaps") (by decide +kernel)) (hts (.initialized RX11) kc_xTellHits_4) (by decide +kernel) ⟨Nat.le_of_ble_eq_true rfl, Nat.le_of_ble_eq_true rfl⟩, (hts (.static yX11_isIn) kc_xTellHits_5), trivial⟩ ⟨fun a U g mk q => ⟨q.1, trivial⟩, fun U hU hW => ⟨rfl, trivial⟩⟩ rfl rfl hl.1 rfl (lv_room (Nat.le_of_ble_eq_true rfl)) dX0_tellHits_35 ⟨Nat.le_of_ble_eq_true rfl, Nat.le_of_ble_eq_true rfl⟩).run (fun r_178 hw_179 => ?_)
                rcases hw_179 with rfl | rfl
                · skip
                  refine lv_if_eq (tgt := 53) hx hb dX0_tellHits_38 (by decide) (fun c_180 => absurd c_180 (by decide)) (fun _ => ?_)
                  refine lv_bipush (v := 20) hx hb dX0_tellHits_41 (by decide) ?_
                  refine lv_lload_n hx hb dX0_tellHits_43 rfl (lv_at hl 2 rfl) ?_
                  refine lv_iload hx hb dX0_tellHits_44 (lv_at hl 4 rfl) ?_
                  refine vp_callSi (va_runS (As := [.long mk, .int (nI i)]) (rest := [.int 20, .int (nI i), .ref (rh 7)]) ⟨hx, hb, hml, hown, hts⟩ (c_hit l dC dI gd mk (nI i)) (va_cwS 2 hts gX0_tellHits_X0_hit rfl rfl rfl hd_yX0_hit.2 ⟨Nat.le_of_ble_eq_true rfl, Nat.le_of_ble_eq_true rfl⟩) ⟨fun a U g mk q => by obtain ⟨q0, qhG⟩ := q; exact ⟨q0, qhG.same rfl rfl⟩, fun U hU hW => ⟨rfl, hG.callF hS hU hW⟩⟩ rfl rfl hl.1 rfl (lv_room (Nat.le_of_ble_eq_true rfl)) dX0_tellHits_46 ⟨Nat.le_of_ble_eq_true rfl, Nat.le_of_ble_eq_true rfl⟩).run (fun r_181 hw_182 => ?_)
                  refine lv_imul hx hb dX0_tellHits_49 ?_
                  refine lv_goto (tgt := 128) hx hb dX0_tellHits_50 (by decide) ?_
                  refine va_iast hx hb hK hP hD hS 10 9 rfl rfl (vp_in_nI (n := i) (N := 36) (by omega) (by omega)) dX0_tellHits_128 (fun H locs hP hD hS => ?_)
                  rw [nI_clamp (n := i) (by omega)] at hP hD
                  have hP : va_P (dC, dI) vwCl [(zo2lirrr ch ft fr dr tO hO), (zaI dr cD 36 fD), (zaR hO cHO 8 (fun i => if i < 8 then some (rh i) else none)), (zaI (rh 0) cH 36 g02), (zaI (rh 1) cH 36 g12), (zaI (rh 2) cH 36 g22), (zaI (rh 3) cH 36 g32), (zaI (rh 4) cH 36 g42), (zaI (rh 5) cH 36 g52), (zaI (rh 6) cH 36 g62), (zaI (rh 7) cH 36 (upd f9 i (20 * r_181))), (zo10ririliiriririr sc aTp (nI ts) aHl (nI nh) ed mi sn aHs (nI n) aWk (nI wz) aBk (nI bz) aFc)] H := hP
                  have hD : va_D A [(zo2lirrr ch ft fr dr tO hO), (zaI dr cD 36 fD), (zaR hO cHO 8 (fun i => if i < 8 then some (rh i) else none)), (zaI (rh 0) cH 36 g02), (zaI (rh 1) cH 36 g12), (zaI (rh 2) cH 36 g22), (zaI (rh 3) cH 36 g32), (zaI (rh 4) cH 36 g42), (zaI (rh 5) cH 36 g52), (zaI (rh 6) cH 36 g62), (zaI (rh 7) cH 36 (upd f9 i (20 * r_181))), (zo10ririliiriririr sc aTp (nI ts) aHl (nI nh) ed mi sn aHs (nI n) aWk (nI wz) aBk (nI bz) aFc)] := hD
                  refine lv_iinc (v := nI (i + 1)) (lv' := [(5, .int (nI (i + 1))), (0, .ref ch), (1, .ref sc), (2, .long mk), (4, .int 7)]) hx hb dX0_tellHits_129 hl (k := 4) rfl (nI_add i 1) (by decide) rfl (fun ls hl => ?_)
                  refine lv_goto (tgt := 13) hx hb dX0_tellHits_132 (by decide) ?_
                  exact ih13 (i + 1) _ (by omega) (by omega) _ _ (hK.sub [0, 1, 2, 3, 4, 5, 6, 7, 8, 9] rfl) (hP.sub [0, 1, 2, 3, 4, 5, 6, 7, 8, 9, 10, 11] rfl) (hD.sub [0, 1, 2, 3, 4, 5, 6, 7, 8, 9, 10, 11] (by decide) rfl) hS ls (lv_sub hl [1, 2, 3, 4, 0] rfl)
                · skip
                  refine lv_if_eq (tgt := 53) hx hb dX0_tellHits_38 (by decide) (fun _ => ?_) (fun c_183 => absurd c_183 (by decide))
                  refine lv_bipush (v := 20) hx hb dX0_tellHits_53 (by decide) ?_
                  refine lv_iconst (v := 2) hx hb dX0_tellHits_55 (by decide) ?_
                  refine lv_aload_n hx hb dX0_tellHits_56 rfl (lv_at hl 0 rfl) ?_
                  refine va_get (D := (dC, dI)) (ci := 2) (v := .ref dr) (C := RX0) (T := TX0) (N := 5) hx hb hts kc_xTellHits_0 hown hK hP 0 rfl rfl 2 (by decide) (hts (.fieldLink RX0 9 "MistHeaps$Chances" "drifts" "[I") kc_xTellHits_6) (fun _ h9 => h9) rfl dX0_tellHits_57 ?_
                  refine lv_iload hx hb dX0_tellHits_60 (lv_at hl 4 rfl) ?_
                  refine va_iald hx hb hK hP 1 0 rfl rfl (vp_in_nI (n := i) (N := 36) (by omega) (by omega)) dX0_tellHits_62 ?_
                  refine qi_as (y := fD i) (by rw [nI_clamp (by omega)]) ?_
                  refine lv_imul hx hb dX0_tellHits_63 ?_
                  refine lv_isub hx hb dX0_tellHits_64 ?_
                  refine lv_lload_n hx hb dX0_tellHits_65 rfl (lv_at hl 2 rfl) ?_
                  refine lv_iload hx hb dX0_tellHits_66 (lv_at hl 4 rfl) ?_
                  refine lv_iload hx hb dX0_tellHits_68 (lv_at hl 3 rfl) ?_
                  refine vp_callSi (va_runSN (As := [.int (nI i), .int 7]) (rest := [.long mk, .int (20 - (2 * (fD i))), .int (nI i), .ref (rh 7)]) ⟨hx, hb, hml, hown, hts⟩ (c_beside l dC dI gd i 7 (by omega) (by omega)) ⟨va_cnB 2 hts ggX0_tellHits_X11_besideOrSame rfl rfl rfl (hG.1 (.methodLinkNest RX0 56 yX11_besideOrSame "MistHeaps") (by decide +kernel)) (hts (.initialized RX11) kc_xTellHits_4) (by decide +kernel) ⟨Nat.le_of_ble_eq_true rfl, Nat.le_of_ble_eq_true rfl⟩, (hts (.static yX11_besideOrSame) kc_xTellHits_7), trivial⟩ ⟨fun a U g mk q => by obtain ⟨q0, qhG⟩ := q; exact ⟨q0, qhG.same rfl rfl⟩, fun U hU hW => ⟨rfl, hG.callF hS hU hW⟩⟩ rfl rfl hl.1 rfl (lv_room (Nat.le_of_ble_eq_true rfl)) dX0_tellHits_70 ⟨Nat.le_of_ble_eq_true rfl, Nat.le_of_ble_eq_true rfl⟩).run (fun r_184 hw_185 => ?_)
                  obtain ⟨k_186, hk_187, rfl⟩ := hw_185
                  refine vp_callSi (va_runS (As := [.long mk, .int (nI k_186)]) (rest := [.int (20 - (2 * (fD i))), .int (nI i), .ref (rh 7)]) ⟨hx, hb, hml, hown, hts⟩ (c_hit l dC dI gd mk (nI k_186)) (va_cwS 2 hts gX0_tellHits_X0_hit rfl rfl rfl hd_yX0_hit.2 ⟨Nat.le_of_ble_eq_true rfl, Nat.le_of_ble_eq_true rfl⟩) ⟨fun a U g mk q => by obtain ⟨q0, qhG⟩ := q; exact ⟨q0, qhG.same rfl rfl⟩, fun U hU hW => ⟨rfl, hG.callF hS hU hW⟩⟩ rfl rfl hl.1 rfl (lv_room (Nat.le_of_ble_eq_true rfl)) dX0_tellHits_73 ⟨Nat.le_of_ble_eq_true rfl, Nat.le_of_ble_eq_true rfl⟩).run (fun r_188 hw_189 => ?_)
                  refine lv_imul hx hb dX0_tellHits_76 ?_
                  refine lv_aload_n hx hb dX0_tellHits_77 rfl (lv_at hl 0 rfl) ?_
                  refine va_get (D := (dC, dI)) (ci := 2) (v := .ref dr) (C := RX0) (T := TX0) (N := 5) hx hb hts kc_xTellHits_0 hown hK hP 0 rfl rfl 2 (by decide) (hts (.fieldLink RX0 9 "MistHeaps$Chances" "drifts" "[I") kc_xTellHits_6) (fun _ h9 => h9) rfl dX0_tellHits_78 ?_
                  refine lv_iload hx hb dX0_tellHits_81 (lv_at hl 4 rfl) ?_
                  refine va_iald hx hb hK hP 1 0 rfl rfl (vp_in_nI (n := i) (N := 36) (by omega) (by omega)) dX0_tellHits_83 ?_
                  refine qi_as (y := fD i) (by rw [nI_clamp (by omega)]) ?_
                  refine lv_lload_n hx hb dX0_tellHits_84 rfl (lv_at hl 2 rfl) ?_
                  refine lv_iload hx hb dX0_tellHits_85 (lv_at hl 4 rfl) ?_
                  refine lv_iload hx hb dX0_tellHits_87 (lv_at hl 3 rfl) ?_
                  refine lv_bipush (v := 7) hx hb dX0_tellHits_89 (by decide) ?_
                  refine lv_iadd hx hb dX0_tellHits_91 ?_
                  refine qi_as (y := 14) (by decide) ?_
                  refine lv_bipush (v := 7) hx hb dX0_tellHits_92 (by decide) ?_
                  refine lv_iand hx hb dX0_tellHits_94 ?_
                  refine qi_as (y := 6) (by decide) ?_
                  refine vp_callSi (va_runSN (As := [.int (nI i), .int 6]) (rest := [.long mk, .int (fD i), .int ((20 - (2 * (fD i))) * r_188), .int (nI i), .ref (rh 7)]) ⟨hx, hb, hml, hown, hts⟩ (c_beside l dC dI gd i 6 (by omega) (by omega)) ⟨va_cnB 2 hts ggX0_tellHits_X11_besideOrSame rfl rfl rfl (hG.1 (.methodLinkNest RX0 56 yX11_besideOrSame "MistHeaps") (by decide +kernel)) (hts (.initialized RX11) kc_xTellHits_4) (by decide +kernel) ⟨Nat.le_of_ble_eq_true rfl, Nat.le_of_ble_eq_true rfl⟩, (hts (.static yX11_besideOrSame) kc_xTellHits_7), trivial⟩ ⟨fun a U g mk q => by obtain ⟨q0, qhG⟩ := q; exact ⟨q0, qhG.same rfl rfl⟩, fun U hU hW => ⟨rfl, hG.callF hS hU hW⟩⟩ rfl rfl hl.1 rfl (lv_room (Nat.le_of_ble_eq_true rfl)) dX0_tellHits_95 ⟨Nat.le_of_ble_eq_true rfl, Nat.le_of_ble_eq_true rfl⟩).run (fun r_190 hw_191 => ?_)
                  obtain ⟨k_192, hk_193, rfl⟩ := hw_191
                  refine vp_callSi (va_runS (As := [.long mk, .int (nI k_192)]) (rest := [.int (fD i), .int ((20 - (2 * (fD i))) * r_188), .int (nI i), .ref (rh 7)]) ⟨hx, hb, hml, hown, hts⟩ (c_hit l dC dI gd mk (nI k_192)) (va_cwS 2 hts gX0_tellHits_X0_hit rfl rfl rfl hd_yX0_hit.2 ⟨Nat.le_of_ble_eq_true rfl, Nat.le_of_ble_eq_true rfl⟩) ⟨fun a U g mk q => by obtain ⟨q0, qhG⟩ := q; exact ⟨q0, qhG.same rfl rfl⟩, fun U hU hW => ⟨rfl, hG.callF hS hU hW⟩⟩ rfl rfl hl.1 rfl (lv_room (Nat.le_of_ble_eq_true rfl)) dX0_tellHits_98 ⟨Nat.le_of_ble_eq_true rfl, Nat.le_of_ble_eq_true rfl⟩).run (fun r_194 hw_195 => ?_)
                  refine lv_imul hx hb dX0_tellHits_101 ?_
                  refine lv_iadd hx hb dX0_tellHits_102 ?_
                  refine lv_aload_n hx hb dX0_tellHits_103 rfl (lv_at hl 0 rfl) ?_
                  refine va_get (D := (dC, dI)) (ci := 2) (v := .ref dr) (C := RX0) (T := TX0) (N := 5) hx hb hts kc_xTellHits_0 hown hK hP 0 rfl rfl 2 (by decide) (hts (.fieldLink RX0 9 "MistHeaps$Chances" "drifts" "[I") kc_xTellHits_6) (fun _ h9 => h9) rfl dX0_tellHits_104 ?_
                  refine lv_iload hx hb dX0_tellHits_107 (lv_at hl 4 rfl) ?_
                  refine va_iald hx hb hK hP 1 0 rfl rfl (vp_in_nI (n := i) (N := 36) (by omega) (by omega)) dX0_tellHits_109 ?_
                  refine qi_as (y := fD i) (by rw [nI_clamp (by omega)]) ?_
                  refine lv_lload_n hx hb dX0_tellHits_110 rfl (lv_at hl 2 rfl) ?_
                  refine lv_iload hx hb dX0_tellHits_111 (lv_at hl 4 rfl) ?_
                  refine lv_iload hx hb dX0_tellHits_113 (lv_at hl 3 rfl) ?_
                  refine lv_iconst (v := 1) hx hb dX0_tellHits_115 (by decide) ?_
                  refine lv_iadd hx hb dX0_tellHits_116 ?_
                  refine qi_as (y := 8) (by decide) ?_
                  refine lv_bipush (v := 7) hx hb dX0_tellHits_117 (by decide) ?_
                  refine lv_iand hx hb dX0_tellHits_119 ?_
                  refine qi_as (y := 0) (by decide) ?_
                  refine vp_callSi (va_runSN (As := [.int (nI i), .int 0]) (rest := [.long mk, .int (fD i), .int (((20 - (2 * (fD i))) * r_188) + ((fD i) * r_194)), .int (nI i), .ref (rh 7)]) ⟨hx, hb, hml, hown, hts⟩ (c_beside l dC dI gd i 0 (by omega) (by omega)) ⟨va_cnB 2 hts ggX0_tellHits_X11_besideOrSame rfl rfl rfl (hG.1 (.methodLinkNest RX0 56 yX11_besideOrSame "MistHeaps") (by decide +kernel)) (hts (.initialized RX11) kc_xTellHits_4) (by decide +kernel) ⟨Nat.le_of_ble_eq_true rfl, Nat.le_of_ble_eq_true rfl⟩, (hts (.static yX11_besideOrSame) kc_xTellHits_7), trivial⟩ ⟨fun a U g mk q => by obtain ⟨q0, qhG⟩ := q; exact ⟨q0, qhG.same rfl rfl⟩, fun U hU hW => ⟨rfl, hG.callF hS hU hW⟩⟩ rfl rfl hl.1 rfl (lv_room (Nat.le_of_ble_eq_true rfl)) dX0_tellHits_120 ⟨Nat.le_of_ble_eq_true rfl, Nat.le_of_ble_eq_true rfl⟩).run (fun r_196 hw_197 => ?_)
                  obtain ⟨k_198, hk_199, rfl⟩ := hw_197
                  refine vp_callSi (va_runS (As := [.long mk, .int (nI k_198)]) (rest := [.int (fD i), .int (((20 - (2 * (fD i))) * r_188) + ((fD i) * r_194)), .int (nI i), .ref (rh 7)]) ⟨hx, hb, hml, hown, hts⟩ (c_hit l dC dI gd mk (nI k_198)) (va_cwS 2 hts gX0_tellHits_X0_hit rfl rfl rfl hd_yX0_hit.2 ⟨Nat.le_of_ble_eq_true rfl, Nat.le_of_ble_eq_true rfl⟩) ⟨fun a U g mk q => by obtain ⟨q0, qhG⟩ := q; exact ⟨q0, qhG.same rfl rfl⟩, fun U hU hW => ⟨rfl, hG.callF hS hU hW⟩⟩ rfl rfl hl.1 rfl (lv_room (Nat.le_of_ble_eq_true rfl)) dX0_tellHits_123 ⟨Nat.le_of_ble_eq_true rfl, Nat.le_of_ble_eq_true rfl⟩).run (fun r_200 hw_201 => ?_)
                  refine lv_imul hx hb dX0_tellHits_126 ?_
                  refine lv_iadd hx hb dX0_tellHits_127 ?_
                  refine va_iast hx hb hK hP hD hS 10 9 rfl rfl (vp_in_nI (n := i) (N := 36) (by omega) (by omega)) dX0_tellHits_128 (fun H locs hP hD hS => ?_)
                  rw [nI_clamp (n := i) (by omega)] at hP hD
                  have hP : va_P (dC, dI) vwCl [(zo2lirrr ch ft fr dr tO hO), (zaI dr cD 36 fD), (zaR hO cHO 8 (fun i => if i < 8 then some (rh i) else none)), (zaI (rh 0) cH 36 g02), (zaI (rh 1) cH 36 g12), (zaI (rh 2) cH 36 g22), (zaI (rh 3) cH 36 g32), (zaI (rh 4) cH 36 g42), (zaI (rh 5) cH 36 g52), (zaI (rh 6) cH 36 g62), (zaI (rh 7) cH 36 (upd f9 i ((((20 - (2 * (fD i))) * r_188) + ((fD i) * r_194)) + ((fD i) * r_200)))), (zo10ririliiriririr sc aTp (nI ts) aHl (nI nh) ed mi sn aHs (nI n) aWk (nI wz) aBk (nI bz) aFc)] H := hP
                  have hD : va_D A [(zo2lirrr ch ft fr dr tO hO), (zaI dr cD 36 fD), (zaR hO cHO 8 (fun i => if i < 8 then some (rh i) else none)), (zaI (rh 0) cH 36 g02), (zaI (rh 1) cH 36 g12), (zaI (rh 2) cH 36 g22), (zaI (rh 3) cH 36 g32), (zaI (rh 4) cH 36 g42), (zaI (rh 5) cH 36 g52), (zaI (rh 6) cH 36 g62), (zaI (rh 7) cH 36 (upd f9 i ((((20 - (2 * (fD i))) * r_188) + ((fD i) * r_194)) + ((fD i) * r_200)))), (zo10ririliiriririr sc aTp (nI ts) aHl (nI nh) ed mi sn aHs (nI n) aWk (nI wz) aBk (nI bz) aFc)] := hD
                  refine lv_iinc (v := nI (i + 1)) (lv' := [(5, .int (nI (i + 1))), (0, .ref ch), (1, .ref sc), (2, .long mk), (4, .int 7)]) hx hb dX0_tellHits_129 hl (k := 4) rfl (nI_add i 1) (by decide) rfl (fun ls hl => ?_)
                  refine lv_goto (tgt := 13) hx hb dX0_tellHits_132 (by decide) ?_
                  exact ih13 (i + 1) _ (by omega) (by omega) _ _ (hK.sub [0, 1, 2, 3, 4, 5, 6, 7, 8, 9] rfl) (hP.sub [0, 1, 2, 3, 4, 5, 6, 7, 8, 9, 10, 11] rfl) (hD.sub [0, 1, 2, 3, 4, 5, 6, 7, 8, 9, 10, 11] (by decide) rfl) hS ls (lv_sub hl [1, 2, 3, 4, 0] rfl)
          exact L13 _ (0) _ (Nat.lt_succ_self _) (by omega) _ _ (hK.sub [0, 1, 2, 3, 4, 5, 6, 7, 8, 9] rfl) (hP.sub [0, 1, 2, 3, 4, 5, 6, 7, 8, 9, 10, 11] rfl) (hD.sub [0, 1, 2, 3, 4, 5, 6, 7, 8, 9, 10, 11] (by decide) rfl) hS ls (lv_sub hl [1, 2, 3, 4, 0] rfl)
  exact L3 _ (0) _ _ _ _ _ _ _ _ (Nat.lt_succ_self _) (by omega) _ _ (hK.sub [0, 1, 2, 3, 4, 5, 6, 7, 8, 9] rfl) (hP.sub [0, 1, 2, 3, 4, 5, 6, 7, 8, 9, 10, 11] rfl) (hD.sub [0, 1, 2, 3, 4, 5, 6, 7, 8, 9, 10, 11] (by decide) rfl) hS ls (lv_sub hl [1, 2, 3, 0] rfl)

theorem kc_xTryLast_0 : ∀ w ∈ wsX00, w ∈ wsX0_tryLast := fun w h => List.mem_cons_of_mem _ (gin_wsX00 w h)
theorem kc_xTryLast_1 : (.fieldLink RX0 66 "MistHeaps$Chances" "foundTimes" "J" : Cond) ∈ wsX0_tryLast := kc_of 284 rfl rfl rfl
theorem kc_xTryLast_2 : (.fieldLink RX0 77 "MistHeaps$Chances" "foundRow" "I" : Cond) ∈ wsX0_tryLast := kc_of 286 rfl rfl rfl
theorem kc_xTryLast_3 : (.fieldLink RX0 22 "MistHeaps$Chances" "hits" "[[I" : Cond) ∈ wsX0_tryLast := kc_of 289 rfl rfl rfl
set_option maxHeartbeats 4000000 in
set_option maxRecDepth 100000 in
theorem c_xTryLast (l : Launch) (dC : Nat → ClassId) (dI : Nat → Nat → Nat) (ch : Nat) (dr : Nat) (tO : Nat) (hO : Nat) (i : Nat) (fr : Int32) (x : Int32) (ft : Int64) (cHO : ClassId) (cH : ClassId) (g0 : Nat → Int32) (g1 : Nat → Int32) (g2 : Nat → Int32) (g3 : Nat → Int32) (g4 : Nat → Int32) (g5 : Nat → Int32) (g6 : Nat → Int32) (g7 : Nat → Int32) (rh : Nat → Nat) (fa : Nat) (cA1 : ClassId) (ff : Nat → Int64) (sz : Nat) : Met l yX0_tryLast wsX0_tryLast ({ frames := 0, cells := 0, slots := 0, locals := 0 } : Room) (va_Pc [.ref ch, .ref fa, .int x] (fun U => U.heap.size = sz ∧ va_P (dC, dI) vwCl [(zo2lirrr ch ft fr dr tO hO), (zaL fa cA1 36 ff), (zaR hO cHO 8 (fun i => if i < 8 then some (rh i) else none)), (zaI (rh 0) cH 36 g0), (zaI (rh 1) cH 36 g1), (zaI (rh 2) cH 36 g2), (zaI (rh 3) cH 36 g3), (zaI (rh 4) cH 36 g4), (zaI (rh 5) cH 36 g5), (zaI (rh 6) cH 36 g6), (zaI (rh 7) cH 36 g7)] U.heap ∧ va_K (dC, dI) vwCl [(cA1, .long), (cHO, .array .int), (cH, .int), (cH, .int), (cH, .int), (cH, .int), (cH, .int), (cH, .int), (cH, .int), (cH, .int)] U ∧ va_D (fun _ => True) [(zo2lirrr ch ft fr dr tO hO), (zaL fa cA1 36 ff), (zaR hO cHO 8 (fun i => if i < 8 then some (rh i) else none)), (zaI (rh 0) cH 36 g0), (zaI (rh 1) cH 36 g1), (zaI (rh 2) cH 36 g2), (zaI (rh 3) cH 36 g3), (zaI (rh 4) cH 36 g4), (zaI (rh 5) cH 36 g5), (zaI (rh 6) cH 36 g6), (zaI (rh 7) cH 36 g7)])) (va_Qv (fun (u : (Int64) × (Int32)) => match u with | (ft9, fr9) => True) (fun (u : (Int64) × (Int32)) (t : State) => match u with | (ft9, fr9) => va_P (dC, dI) vwCl [(zo2lirrr ch ft9 fr9 dr tO hO), (zaL fa cA1 36 ff), (zaR hO cHO 8 (fun i => if i < 8 then some (rh i) else none)), (zaI (rh 0) cH 36 g0), (zaI (rh 1) cH 36 g1), (zaI (rh 2) cH 36 g2), (zaI (rh 3) cH 36 g3), (zaI (rh 4) cH 36 g4), (zaI (rh 5) cH 36 g5), (zaI (rh 6) cH 36 g6), (zaI (rh 7) cH 36 g7)] t.heap ∧ va_K (dC, dI) vwCl [(cA1, .long), (cHO, .array .int), (cH, .int), (cH, .int), (cH, .int), (cH, .int), (cH, .int), (cH, .int), (cH, .int), (cH, .int)] t ∧ va_D (va_A [(zo2lirrr ch ft fr dr tO hO), (zaL fa cA1 36 ff), (zaR hO cHO 8 (fun i => if i < 8 then some (rh i) else none)), (zaI (rh 0) cH 36 g0), (zaI (rh 1) cH 36 g1), (zaI (rh 2) cH 36 g2), (zaI (rh 3) cH 36 g3), (zaI (rh 4) cH 36 g4), (zaI (rh 5) cH 36 g5), (zaI (rh 6) cH 36 g6), (zaI (rh 7) cH 36 g7)] sz) [(zo2lirrr ch ft9 fr9 dr tO hO), (zaL fa cA1 36 ff), (zaR hO cHO 8 (fun i => if i < 8 then some (rh i) else none)), (zaI (rh 0) cH 36 g0), (zaI (rh 1) cH 36 g1), (zaI (rh 2) cH 36 g2), (zaI (rh 3) cH 36 g3), (zaI (rh 4) cH 36 g4), (zaI (rh 5) cH 36 g5), (zaI (rh 6) cH 36 g6), (zaI (rh 7) cH 36 g7)]) (va_A [(zo2lirrr ch ft fr dr tO hO), (zaL fa cA1 36 ff), (zaR hO cHO 8 (fun i => if i < 8 then some (rh i) else none)), (zaI (rh 0) cH 36 g0), (zaI (rh 1) cH 36 g1), (zaI (rh 2) cH 36 g2), (zaI (rh 3) cH 36 g3), (zaI (rh 4) cH 36 g4), (zaI (rh 5) cH 36 g5), (zaI (rh 6) cH 36 g6), (zaI (rh 7) cH 36 g7)] sz)) 0 0 (va_A [(zo2lirrr ch ft fr dr tO hO), (zaL fa cA1 36 ff), (zaR hO cHO 8 (fun i => if i < 8 then some (rh i) else none)), (zaI (rh 0) cH 36 g0), (zaI (rh 1) cH 36 g1), (zaI (rh 2) cH 36 g2), (zaI (rh 3) cH 36 g3), (zaI (rh 4) cH 36 g4), (zaI (rh 5) cH 36 g5), (zaI (rh 6) cH 36 g6), (zaI (rh 7) cH 36 g7)] sz) := by
  refine met_ofQ (cc := cX0_tryLast) (maxL := 7) (ret := none) (by decide) rfl ?_
  intro p e s m args below meth c s₁ Q B hml hv hQ
  obtain ⟨rfl, hsz, hP, hK, hD0⟩ := hv
  have hx := B.exec
  have hb := B.bytes
  have hr := B.returns
  have hts := atoms_spec (ws := wsX0_tryLast) B.pre
  have hown : s.vm.findClass RX0 = some m.cls := findClass_of_methodNamed B.named
  have hlocks := B.notSynchronized
  subst hsz
  have hD := hD0.self (sz := s.heap.size)
  generalize hAe : va_A [(zo2lirrr ch ft fr dr tO hO), (zaL fa cA1 36 ff), (zaR hO cHO 8 (fun i => if i < 8 then some (rh i) else none)), (zaI (rh 0) cH 36 g0), (zaI (rh 1) cH 36 g1), (zaI (rh 2) cH 36 g2), (zaI (rh 3) cH 36 g3), (zaI (rh 4) cH 36 g4), (zaI (rh 5) cH 36 g5), (zaI (rh 6) cH 36 g6), (zaI (rh 7) cH 36 g7)] s.heap.size = A at hD hQ ⊢
  have hA : ∀ q : Nat, s.heap.size ≤ q → A q := fun q h => by rw [← hAe]; exact Or.inr h
  have hS : va_S A s.heap s.heap [] := va_S.rf
  have hl := lv_entry [.ref ch, .ref fa, .int x] (n := 7) (Nat.le_of_ble_eq_true rfl)
  rw [lg_entry_eq]
  generalize (lg_sl [.ref ch, .ref fa, .int x] ++ List.replicate (7 - (lg_sl [.ref ch, .ref fa, .int x]).length) Slot.unset).toArray = ls at hl ⊢
  generalize hag : ([.ref ch, .ref fa, .int x] : List Value).toArray = args at hts hQ ⊢
  have hl : lv_has ls 7 [(0, .ref ch), (1, .ref fa), (2, .int x)] := hl
  obtain ⟨H, hH⟩ : ∃ H : Heap, H = s.heap := ⟨_, rfl⟩
  rw [← hH] at hP
  rw [← hH]
  have hS : va_S A s.heap H [] := by rw [hH]; exact hS
  obtain ⟨locs, hlo⟩ : ∃ L : List Loc, L = [] := ⟨_, rfl⟩
  rw [← hlo] at hS
  rw [← hlo]
  clear hH hlo
  refine lv_iconst (v := 0) hx hb dX0_tryLast_0 (by decide) ?_
  refine lv_istore_n (lv' := [(3, .int 0), (0, .ref ch), (1, .ref fa), (2, .int x)]) hx hb dX0_tryLast_1 rfl hl (by decide) rfl (fun ls hl => ?_)
  have L2 : ∀ (nF : Nat) (k : Nat) (ft2 : Int64) (fr2 : Int32), 8 - k < nF → (k ≤ 8) → ∀ (H : Heap) (locs : List Loc), va_K (dC, dI) vwCl [(cA1, .long), (cHO, .array .int), (cH, .int), (cH, .int), (cH, .int), (cH, .int), (cH, .int), (cH, .int), (cH, .int), (cH, .int)] s → va_P (dC, dI) vwCl [(zo2lirrr ch ft2 fr2 dr tO hO), (zaL fa cA1 36 ff), (zaR hO cHO 8 (fun i => if i < 8 then some (rh i) else none)), (zaI (rh 0) cH 36 g0), (zaI (rh 1) cH 36 g1), (zaI (rh 2) cH 36 g2), (zaI (rh 3) cH 36 g3), (zaI (rh 4) cH 36 g4), (zaI (rh 5) cH 36 g5), (zaI (rh 6) cH 36 g6), (zaI (rh 7) cH 36 g7)] H → va_D A [(zo2lirrr ch ft2 fr2 dr tO hO), (zaL fa cA1 36 ff), (zaR hO cHO 8 (fun i => if i < 8 then some (rh i) else none)), (zaI (rh 0) cH 36 g0), (zaI (rh 1) cH 36 g1), (zaI (rh 2) cH 36 g2), (zaI (rh 3) cH 36 g3), (zaI (rh 4) cH 36 g4), (zaI (rh 5) cH 36 g5), (zaI (rh 6) cH 36 g6), (zaI (rh 7) cH 36 g7)] → va_S A s.heap H locs → ∀ (ls : Array Slot), lv_has ls 7 [(0, .ref ch), (1, .ref fa), (2, .int x), (3, .int (nI k))] → W p l e ({ frames := 0, cells := 0, slots := 0, locals := 0 } : Room) s m args below meth c H locs 0 0 Q (F0 m 2 ls []) := by
    intro nF
    induction nF with
    | zero => intro k ft2 fr2 hm; exact absurd hm (Nat.not_lt_zero _)
    | succ nF ih2 =>
      intro k ft2 fr2 hm hik H locs hK hP hD hS ls hl
      refine lv_iload_n hx hb dX0_tryLast_2 rfl (lv_at hl 3 rfl) ?_
      refine lv_bipush (v := 8) hx hb dX0_tryLast_3 (by decide) ?_
      refine lv_icmp_ge (tgt := 79) hx hb dX0_tryLast_5 (by decide) (fun c_1 => ?_) (fun c_1 => ?_)
      · skip
        have c_1 : 8 ≤ k := (nI_leI (a := 8) (b := k) (by omega) (by omega)).mp c_1
        rw [hQ]
        have hP9 := hP.sub (ws' := [(zo2lirrr ch ft2 fr2 dr tO hO), (zaL fa cA1 36 ff), (zaR hO cHO 8 (fun i => if i < 8 then some (rh i) else none)), (zaI (rh 0) cH 36 g0), (zaI (rh 1) cH 36 g1), (zaI (rh 2) cH 36 g2), (zaI (rh 3) cH 36 g3), (zaI (rh 4) cH 36 g4), (zaI (rh 5) cH 36 g5), (zaI (rh 6) cH 36 g6), (zaI (rh 7) cH 36 g7)]) [0, 1, 2, 3, 4, 5, 6, 7, 8, 9, 10] rfl
        have hD9 := hD.sub (ws' := [(zo2lirrr ch ft2 fr2 dr tO hO), (zaL fa cA1 36 ff), (zaR hO cHO 8 (fun i => if i < 8 then some (rh i) else none)), (zaI (rh 0) cH 36 g0), (zaI (rh 1) cH 36 g1), (zaI (rh 2) cH 36 g2), (zaI (rh 3) cH 36 g3), (zaI (rh 4) cH 36 g4), (zaI (rh 5) cH 36 g5), (zaI (rh 6) cH 36 g6), (zaI (rh 7) cH 36 g7)]) [0, 1, 2, 3, 4, 5, 6, 7, 8, 9, 10] (by decide) rfl
        have hK9 := hK.sub (tys' := [(cA1, .long), (cHO, .array .int), (cH, .int), (cH, .int), (cH, .int), (cH, .int), (cH, .int), (cH, .int), (cH, .int), (cH, .int)]) [0, 1, 2, 3, 4, 5, 6, 7, 8, 9] rfl
        exact W.vret hx hb hr (fun tQ htQ hWQ => ⟨⟨(ft2, fr2), rfl, trivial, by rw [htQ]; exact hP9, va_K.moved hWQ.alike hK9, hD9⟩, hS.F htQ⟩) hS.2.2 dX0_tryLast_79
      · skip
        have c_1 : ¬ 8 ≤ k := fun q => c_1 ((nI_leI (a := 8) (b := k) (by omega) (by omega)).mpr q)
        rcases eight (k := k) (by omega) with rfl | rfl | rfl | rfl | rfl | rfl | rfl | rfl
        · skip
          refine lv_lconst (v := 0) hx hb dX0_tryLast_8 (by decide) ?_
          refine lv_lstore (lv' := [(4, .long 0), (0, .ref ch), (1, .ref fa), (2, .int x), (3, .int 0)]) hx hb dX0_tryLast_9 hl (by decide) rfl (fun ls hl => ?_)
          refine lv_iconst (v := 0) hx hb dX0_tryLast_11 (by decide) ?_
          refine lv_istore (lv' := [(6, .int 0), (4, .long 0), (0, .ref ch), (1, .ref fa), (2, .int x), (3, .int 0)]) hx hb dX0_tryLast_12 hl (by decide) rfl (fun ls hl => ?_)
          have L14 : ∀ (nF : Nat) (i : Nat) (q : Int64), 36 - i < nF → (i ≤ 36) → ∀ (H : Heap) (locs : List Loc), va_K (dC, dI) vwCl [(cA1, .long), (cHO, .array .int), (cH, .int), (cH, .int), (cH, .int), (cH, .int), (cH, .int), (cH, .int), (cH, .int), (cH, .int)] s → va_P (dC, dI) vwCl [(zo2lirrr ch ft2 fr2 dr tO hO), (zaL fa cA1 36 ff), (zaR hO cHO 8 (fun i => if i < 8 then some (rh i) else none)), (zaI (rh 0) cH 36 g0), (zaI (rh 1) cH 36 g1), (zaI (rh 2) cH 36 g2), (zaI (rh 3) cH 36 g3), (zaI (rh 4) cH 36 g4), (zaI (rh 5) cH 36 g5), (zaI (rh 6) cH 36 g6), (zaI (rh 7) cH 36 g7)] H → va_D A [(zo2lirrr ch ft2 fr2 dr tO hO), (zaL fa cA1 36 ff), (zaR hO cHO 8 (fun i => if i < 8 then some (rh i) else none)), (zaI (rh 0) cH 36 g0), (zaI (rh 1) cH 36 g1), (zaI (rh 2) cH 36 g2), (zaI (rh 3) cH 36 g3), (zaI (rh 4) cH 36 g4), (zaI (rh 5) cH 36 g5), (zaI (rh 6) cH 36 g6), (zaI (rh 7) cH 36 g7)] → va_S A s.heap H locs → ∀ (ls : Array Slot), lv_has ls 7 [(0, .ref ch), (1, .ref fa), (2, .int x), (3, .int 0), (4, .long q), (6, .int (nI i))] → W p l e ({ frames := 0, cells := 0, slots := 0, locals := 0 } : Room) s m args below meth c H locs 0 0 Q (F0 m 14 ls []) := by
            intro nF
            induction nF with
            | zero => intro i q hm; exact absurd hm (Nat.not_lt_zero _)
            | succ nF ih14 =>
              intro i q hm hi H locs hK hP hD hS ls hl
              refine lv_iload hx hb dX0_tryLast_14 (lv_at hl 5 rfl) ?_
              refine lv_bipush (v := 36) hx hb dX0_tryLast_16 (by decide) ?_
              refine lv_icmp_ge (tgt := 47) hx hb dX0_tryLast_18 (by decide) (fun c_2 => ?_) (fun c_2 => ?_)
              · skip
                have c_2 : 36 ≤ i := (nI_leI (a := 36) (b := i) (by omega) (by omega)).mp c_2
                refine lv_lload hx hb dX0_tryLast_47 (lv_at hl 4 rfl) ?_
                refine lv_aload_n hx hb dX0_tryLast_49 rfl (lv_at hl 0 rfl) ?_
                refine va_get (D := (dC, dI)) (ci := 2) (v := .long ft2) (C := RX0) (T := TX0) (N := 5) hx hb hts kc_xTryLast_0 hown hK hP 0 rfl rfl 0 (by decide) (hts (.fieldLink RX0 66 "MistHeaps$Chances" "foundTimes" "J") kc_xTryLast_1) (fun _ h9 => h9) rfl dX0_tryLast_50 ?_
                refine W.lcmp hx hb dX0_tryLast_53 ?_
                refine lv_if_le (tgt := 73) hx hb dX0_tryLast_54 (by decide) (fun c_3 => ?_) (fun c_3 => ?_)
                · skip
                  refine lv_iinc (v := 1) (lv' := [(3, .int 1), (0, .ref ch), (1, .ref fa), (2, .int x), (4, .long q), (6, .int (nI i))]) hx hb dX0_tryLast_73 hl (k := 3) rfl (by decide) (by decide) rfl (fun ls hl => ?_)
                  refine lv_goto (tgt := 2) hx hb dX0_tryLast_76 (by decide) ?_
                  exact ih2 (1) _ _ (by omega) (by omega) _ _ (hK.sub [0, 1, 2, 3, 4, 5, 6, 7, 8, 9] rfl) (hP.sub [0, 1, 2, 3, 4, 5, 6, 7, 8, 9, 10] rfl) (hD.sub [0, 1, 2, 3, 4, 5, 6, 7, 8, 9, 10] (by decide) rfl) hS ls (lv_sub hl [1, 2, 3, 0] rfl)
                · skip
                  refine lv_aload_n hx hb dX0_tryLast_57 rfl (lv_at hl 0 rfl) ?_
                  refine lv_lload hx hb dX0_tryLast_58 (lv_at hl 4 rfl) ?_
                  refine va_put (D := (dC, dI)) (ci := 2) (v := .long q) (ty := .long) (C := RX0) (T := TX0) (N := 5) hx hb hts kc_xTryLast_0 tyX0 tyX0_ok nmX0 hown hK hP hD hS 0 rfl rfl 0 (by decide) (hts (.fieldLink RX0 66 "MistHeaps$Chances" "foundTimes" "J") kc_xTryLast_1) (fun _ h9 => h9) rfl (by decide +kernel) rfl rfl (Nat.le_of_ble_eq_true rfl) dX0_tryLast_60 (fun H locs hP hD hS => ?_)
                  have hP : va_P (dC, dI) vwCl [(zo2lirrr ch q fr2 dr tO hO), (zaL fa cA1 36 ff), (zaR hO cHO 8 (fun i => if i < 8 then some (rh i) else none)), (zaI (rh 0) cH 36 g0), (zaI (rh 1) cH 36 g1), (zaI (rh 2) cH 36 g2), (zaI (rh 3) cH 36 g3), (zaI (rh 4) cH 36 g4), (zaI (rh 5) cH 36 g5), (zaI (rh 6) cH 36 g6), (zaI (rh 7) cH 36 g7)] H := hP
                  have hD : va_D A [(zo2lirrr ch q fr2 dr tO hO), (zaL fa cA1 36 ff), (zaR hO cHO 8 (fun i => if i < 8 then some (rh i) else none)), (zaI (rh 0) cH 36 g0), (zaI (rh 1) cH 36 g1), (zaI (rh 2) cH 36 g2), (zaI (rh 3) cH 36 g3), (zaI (rh 4) cH 36 g4), (zaI (rh 5) cH 36 g5), (zaI (rh 6) cH 36 g6), (zaI (rh 7) cH 36 g7)] := hD
                  refine lv_aload_n hx hb dX0_tryLast_63 rfl (lv_at hl 0 rfl) ?_
                  refine lv_iload_n hx hb dX0_tryLast_64 rfl (lv_at hl 2 rfl) ?_
                  refine lv_bipush (v := 8) hx hb dX0_tryLast_65 (by decide) ?_
                  refine lv_imul hx hb dX0_tryLast_67 ?_
                  refine lv_iload_n hx hb dX0_tryLast_68 rfl (lv_at hl 3 rfl) ?_
                  refine lv_iadd hx hb dX0_tryLast_69 ?_
                  refine va_put (D := (dC, dI)) (ci := 2) (v := .int ((x * 8) + 0)) (ty := .int) (C := RX0) (T := TX0) (N := 5) hx hb hts kc_xTryLast_0 tyX0 tyX0_ok nmX0 hown hK hP hD hS 0 rfl rfl 1 (by decide) (hts (.fieldLink RX0 77 "MistHeaps$Chances" "foundRow" "I") kc_xTryLast_2) (fun _ h9 => h9) rfl (by decide +kernel) rfl rfl (Nat.le_of_ble_eq_true rfl) dX0_tryLast_70 (fun H locs hP hD hS => ?_)
                  have hP : va_P (dC, dI) vwCl [(zo2lirrr ch q ((x * 8) + 0) dr tO hO), (zaL fa cA1 36 ff), (zaR hO cHO 8 (fun i => if i < 8 then some (rh i) else none)), (zaI (rh 0) cH 36 g0), (zaI (rh 1) cH 36 g1), (zaI (rh 2) cH 36 g2), (zaI (rh 3) cH 36 g3), (zaI (rh 4) cH 36 g4), (zaI (rh 5) cH 36 g5), (zaI (rh 6) cH 36 g6), (zaI (rh 7) cH 36 g7)] H := hP
                  have hD : va_D A [(zo2lirrr ch q ((x * 8) + 0) dr tO hO), (zaL fa cA1 36 ff), (zaR hO cHO 8 (fun i => if i < 8 then some (rh i) else none)), (zaI (rh 0) cH 36 g0), (zaI (rh 1) cH 36 g1), (zaI (rh 2) cH 36 g2), (zaI (rh 3) cH 36 g3), (zaI (rh 4) cH 36 g4), (zaI (rh 5) cH 36 g5), (zaI (rh 6) cH 36 g6), (zaI (rh 7) cH 36 g7)] := hD
                  refine lv_iinc (v := 1) (lv' := [(3, .int 1), (0, .ref ch), (1, .ref fa), (2, .int x), (4, .long q), (6, .int (nI i))]) hx hb dX0_tryLast_73 hl (k := 3) rfl (by decide) (by decide) rfl (fun ls hl => ?_)
                  refine lv_goto (tgt := 2) hx hb dX0_tryLast_76 (by decide) ?_
                  exact ih2 (1) _ _ (by omega) (by omega) _ _ (hK.sub [0, 1, 2, 3, 4, 5, 6, 7, 8, 9] rfl) (hP.sub [0, 1, 2, 3, 4, 5, 6, 7, 8, 9, 10] rfl) (hD.sub [0, 1, 2, 3, 4, 5, 6, 7, 8, 9, 10] (by decide) rfl) hS ls (lv_sub hl [1, 2, 3, 0] rfl)
              · skip
                have c_2 : ¬ 36 ≤ i := fun q => c_2 ((nI_leI (a := 36) (b := i) (by omega) (by omega)).mpr q)
                refine lv_lload hx hb dX0_tryLast_21 (lv_at hl 4 rfl) ?_
                refine lv_aload_n hx hb dX0_tryLast_23 rfl (lv_at hl 1 rfl) ?_
                refine lv_iload hx hb dX0_tryLast_24 (lv_at hl 5 rfl) ?_
                refine va_lald hx hb hK hP 1 0 rfl rfl (vp_in_nI (n := i) (N := 36) (by omega) (by omega)) dX0_tryLast_26 ?_
                refine ql_as (y := ff i) (by rw [nI_clamp (by omega)]) ?_
                refine lv_aload_n hx hb dX0_tryLast_27 rfl (lv_at hl 0 rfl) ?_
                refine va_get (D := (dC, dI)) (ci := 2) (v := .ref hO) (C := RX0) (T := TX0) (N := 5) hx hb hts kc_xTryLast_0 hown hK hP 0 rfl rfl 4 (by decide) (hts (.fieldLink RX0 22 "MistHeaps$Chances" "hits" "[[I") kc_xTryLast_3) (fun _ h9 => h9) rfl dX0_tryLast_28 ?_
                refine lv_iload_n hx hb dX0_tryLast_31 rfl (lv_at hl 3 rfl) ?_
                refine va_alda hx hb hK hP 2 1 rfl rfl (vp_in_nI (n := 0) (N := 8) (by omega) (by omega)) dX0_tryLast_32 ?_
                refine qq_as (v := .ref (rh 0)) (rfl) ?_
                refine lv_iload hx hb dX0_tryLast_33 (lv_at hl 5 rfl) ?_
                refine va_iald hx hb hK hP 3 2 rfl rfl (vp_in_nI (n := i) (N := 36) (by omega) (by omega)) dX0_tryLast_35 ?_
                refine qi_as (y := g0 i) (by rw [nI_clamp (by omega)]) ?_
                refine lv_i2l (v := (g0 i).toInt64) hx hb dX0_tryLast_36 (rfl) ?_
                refine lv_lmul hx hb dX0_tryLast_37 ?_
                refine lv_ladd hx hb dX0_tryLast_38 ?_
                refine lv_lstore (lv' := [(4, .long (q + ((ff i) * ((g0 i).toInt64)))), (0, .ref ch), (1, .ref fa), (2, .int x), (3, .int 0), (6, .int (nI i))]) hx hb dX0_tryLast_39 hl (by decide) rfl (fun ls hl => ?_)
                refine lv_iinc (v := nI (i + 1)) (lv' := [(6, .int (nI (i + 1))), (4, .long (q + ((ff i) * ((g0 i).toInt64)))), (0, .ref ch), (1, .ref fa), (2, .int x), (3, .int 0)]) hx hb dX0_tryLast_41 hl (k := 5) rfl (nI_add i 1) (by decide) rfl (fun ls hl => ?_)
                refine lv_goto (tgt := 14) hx hb dX0_tryLast_44 (by decide) ?_
                exact ih14 (i + 1) _ (by omega) (by omega) _ _ (hK.sub [0, 1, 2, 3, 4, 5, 6, 7, 8, 9] rfl) (hP.sub [0, 1, 2, 3, 4, 5, 6, 7, 8, 9, 10] rfl) (hD.sub [0, 1, 2, 3, 4, 5, 6, 7, 8, 9, 10] (by decide) rfl) hS ls (lv_sub hl [2, 3, 4, 5, 1, 0] rfl)
          exact L14 _ (0) _ (Nat.lt_succ_self _) (by omega) _ _ (hK.sub [0, 1, 2, 3, 4, 5, 6, 7, 8, 9] rfl) (hP.sub [0, 1, 2, 3, 4, 5, 6, 7, 8, 9, 10] rfl) (hD.sub [0, 1, 2, 3, 4, 5, 6, 7, 8, 9, 10] (by decide) rfl) hS ls (lv_sub hl [2, 3, 4, 5, 1, 0] rfl)
        · skip
          refine lv_lconst (v := 0) hx hb dX0_tryLast_8 (by decide) ?_
          refine lv_lstore (lv' := [(4, .long 0), (0, .ref ch), (1, .ref fa), (2, .int x), (3, .int 1)]) hx hb dX0_tryLast_9 hl (by decide) rfl (fun ls hl => ?_)
          refine lv_iconst (v := 0) hx hb dX0_tryLast_11 (by decide) ?_
          refine lv_istore (lv' := [(6, .int 0), (4, .long 0), (0, .ref ch), (1, .ref fa), (2, .int x), (3, .int 1)]) hx hb dX0_tryLast_12 hl (by decide) rfl (fun ls hl => ?_)
          have L14 : ∀ (nF : Nat) (i : Nat) (q : Int64), 36 - i < nF → (i ≤ 36) → ∀ (H : Heap) (locs : List Loc), va_K (dC, dI) vwCl [(cA1, .long), (cHO, .array .int), (cH, .int), (cH, .int), (cH, .int), (cH, .int), (cH, .int), (cH, .int), (cH, .int), (cH, .int)] s → va_P (dC, dI) vwCl [(zo2lirrr ch ft2 fr2 dr tO hO), (zaL fa cA1 36 ff), (zaR hO cHO 8 (fun i => if i < 8 then some (rh i) else none)), (zaI (rh 0) cH 36 g0), (zaI (rh 1) cH 36 g1), (zaI (rh 2) cH 36 g2), (zaI (rh 3) cH 36 g3), (zaI (rh 4) cH 36 g4), (zaI (rh 5) cH 36 g5), (zaI (rh 6) cH 36 g6), (zaI (rh 7) cH 36 g7)] H → va_D A [(zo2lirrr ch ft2 fr2 dr tO hO), (zaL fa cA1 36 ff), (zaR hO cHO 8 (fun i => if i < 8 then some (rh i) else none)), (zaI (rh 0) cH 36 g0), (zaI (rh 1) cH 36 g1), (zaI (rh 2) cH 36 g2), (zaI (rh 3) cH 36 g3), (zaI (rh 4) cH 36 g4), (zaI (rh 5) cH 36 g5), (zaI (rh 6) cH 36 g6), (zaI (rh 7) cH 36 g7)] → va_S A s.heap H locs → ∀ (ls : Array Slot), lv_has ls 7 [(0, .ref ch), (1, .ref fa), (2, .int x), (3, .int 1), (4, .long q), (6, .int (nI i))] → W p l e ({ frames := 0, cells := 0, slots := 0, locals := 0 } : Room) s m args below meth c H locs 0 0 Q (F0 m 14 ls []) := by
            intro nF
            induction nF with
            | zero => intro i q hm; exact absurd hm (Nat.not_lt_zero _)
            | succ nF ih14 =>
              intro i q hm hi H locs hK hP hD hS ls hl
              refine lv_iload hx hb dX0_tryLast_14 (lv_at hl 5 rfl) ?_
              refine lv_bipush (v := 36) hx hb dX0_tryLast_16 (by decide) ?_
              refine lv_icmp_ge (tgt := 47) hx hb dX0_tryLast_18 (by decide) (fun c_4 => ?_) (fun c_4 => ?_)
              · skip
                have c_4 : 36 ≤ i := (nI_leI (a := 36) (b := i) (by omega) (by omega)).mp c_4
                refine lv_lload hx hb dX0_tryLast_47 (lv_at hl 4 rfl) ?_
                refine lv_aload_n hx hb dX0_tryLast_49 rfl (lv_at hl 0 rfl) ?_
                refine va_get (D := (dC, dI)) (ci := 2) (v := .long ft2) (C := RX0) (T := TX0) (N := 5) hx hb hts kc_xTryLast_0 hown hK hP 0 rfl rfl 0 (by decide) (hts (.fieldLink RX0 66 "MistHeaps$Chances" "foundTimes" "J") kc_xTryLast_1) (fun _ h9 => h9) rfl dX0_tryLast_50 ?_
                refine W.lcmp hx hb dX0_tryLast_53 ?_
                refine lv_if_le (tgt := 73) hx hb dX0_tryLast_54 (by decide) (fun c_5 => ?_) (fun c_5 => ?_)
                · skip
                  refine lv_iinc (v := 2) (lv' := [(3, .int 2), (0, .ref ch), (1, .ref fa), (2, .int x), (4, .long q), (6, .int (nI i))]) hx hb dX0_tryLast_73 hl (k := 3) rfl (by decide) (by decide) rfl (fun ls hl => ?_)
                  refine lv_goto (tgt := 2) hx hb dX0_tryLast_76 (by decide) ?_
                  exact ih2 (2) _ _ (by omega) (by omega) _ _ (hK.sub [0, 1, 2, 3, 4, 5, 6, 7, 8, 9] rfl) (hP.sub [0, 1, 2, 3, 4, 5, 6, 7, 8, 9, 10] rfl) (hD.sub [0, 1, 2, 3, 4, 5, 6, 7, 8, 9, 10] (by decide) rfl) hS ls (lv_sub hl [1, 2, 3, 0] rfl)
                · skip
                  refine lv_aload_n hx hb dX0_tryLast_57 rfl (lv_at hl 0 rfl) ?_
                  refine lv_lload hx hb dX0_tryLast_58 (lv_at hl 4 rfl) ?_
                  refine va_put (D := (dC, dI)) (ci := 2) (v := .long q) (ty := .long) (C := RX0) (T := TX0) (N := 5) hx hb hts kc_xTryLast_0 tyX0 tyX0_ok nmX0 hown hK hP hD hS 0 rfl rfl 0 (by decide) (hts (.fieldLink RX0 66 "MistHeaps$Chances" "foundTimes" "J") kc_xTryLast_1) (fun _ h9 => h9) rfl (by decide +kernel) rfl rfl (Nat.le_of_ble_eq_true rfl) dX0_tryLast_60 (fun H locs hP hD hS => ?_)
                  have hP : va_P (dC, dI) vwCl [(zo2lirrr ch q fr2 dr tO hO), (zaL fa cA1 36 ff), (zaR hO cHO 8 (fun i => if i < 8 then some (rh i) else none)), (zaI (rh 0) cH 36 g0), (zaI (rh 1) cH 36 g1), (zaI (rh 2) cH 36 g2), (zaI (rh 3) cH 36 g3), (zaI (rh 4) cH 36 g4), (zaI (rh 5) cH 36 g5), (zaI (rh 6) cH 36 g6), (zaI (rh 7) cH 36 g7)] H := hP
                  have hD : va_D A [(zo2lirrr ch q fr2 dr tO hO), (zaL fa cA1 36 ff), (zaR hO cHO 8 (fun i => if i < 8 then some (rh i) else none)), (zaI (rh 0) cH 36 g0), (zaI (rh 1) cH 36 g1), (zaI (rh 2) cH 36 g2), (zaI (rh 3) cH 36 g3), (zaI (rh 4) cH 36 g4), (zaI (rh 5) cH 36 g5), (zaI (rh 6) cH 36 g6), (zaI (rh 7) cH 36 g7)] := hD
                  refine lv_aload_n hx hb dX0_tryLast_63 rfl (lv_at hl 0 rfl) ?_
                  refine lv_iload_n hx hb dX0_tryLast_64 rfl (lv_at hl 2 rfl) ?_
                  refine lv_bipush (v := 8) hx hb dX0_tryLast_65 (by decide) ?_
                  refine lv_imul hx hb dX0_tryLast_67 ?_
                  refine lv_iload_n hx hb dX0_tryLast_68 rfl (lv_at hl 3 rfl) ?_
                  refine lv_iadd hx hb dX0_tryLast_69 ?_
                  refine va_put (D := (dC, dI)) (ci := 2) (v := .int ((x * 8) + 1)) (ty := .int) (C := RX0) (T := TX0) (N := 5) hx hb hts kc_xTryLast_0 tyX0 tyX0_ok nmX0 hown hK hP hD hS 0 rfl rfl 1 (by decide) (hts (.fieldLink RX0 77 "MistHeaps$Chances" "foundRow" "I") kc_xTryLast_2) (fun _ h9 => h9) rfl (by decide +kernel) rfl rfl (Nat.le_of_ble_eq_true rfl) dX0_tryLast_70 (fun H locs hP hD hS => ?_)
                  have hP : va_P (dC, dI) vwCl [(zo2lirrr ch q ((x * 8) + 1) dr tO hO), (zaL fa cA1 36 ff), (zaR hO cHO 8 (fun i => if i < 8 then some (rh i) else none)), (zaI (rh 0) cH 36 g0), (zaI (rh 1) cH 36 g1), (zaI (rh 2) cH 36 g2), (zaI (rh 3) cH 36 g3), (zaI (rh 4) cH 36 g4), (zaI (rh 5) cH 36 g5), (zaI (rh 6) cH 36 g6), (zaI (rh 7) cH 36 g7)] H := hP
                  have hD : va_D A [(zo2lirrr ch q ((x * 8) + 1) dr tO hO), (zaL fa cA1 36 ff), (zaR hO cHO 8 (fun i => if i < 8 then some (rh i) else none)), (zaI (rh 0) cH 36 g0), (zaI (rh 1) cH 36 g1), (zaI (rh 2) cH 36 g2), (zaI (rh 3) cH 36 g3), (zaI (rh 4) cH 36 g4), (zaI (rh 5) cH 36 g5), (zaI (rh 6) cH 36 g6), (zaI (rh 7) cH 36 g7)] := hD
                  refine lv_iinc (v := 2) (lv' := [(3, .int 2), (0, .ref ch), (1, .ref fa), (2, .int x), (4, .long q), (6, .int (nI i))]) hx hb dX0_tryLast_73 hl (k := 3) rfl (by decide) (by decide) rfl (fun ls hl => ?_)
                  refine lv_goto (tgt := 2) hx hb dX0_tryLast_76 (by decide) ?_
                  exact ih2 (2) _ _ (by omega) (by omega) _ _ (hK.sub [0, 1, 2, 3, 4, 5, 6, 7, 8, 9] rfl) (hP.sub [0, 1, 2, 3, 4, 5, 6, 7, 8, 9, 10] rfl) (hD.sub [0, 1, 2, 3, 4, 5, 6, 7, 8, 9, 10] (by decide) rfl) hS ls (lv_sub hl [1, 2, 3, 0] rfl)
              · skip
                have c_4 : ¬ 36 ≤ i := fun q => c_4 ((nI_leI (a := 36) (b := i) (by omega) (by omega)).mpr q)
                refine lv_lload hx hb dX0_tryLast_21 (lv_at hl 4 rfl) ?_
                refine lv_aload_n hx hb dX0_tryLast_23 rfl (lv_at hl 1 rfl) ?_
                refine lv_iload hx hb dX0_tryLast_24 (lv_at hl 5 rfl) ?_
                refine va_lald hx hb hK hP 1 0 rfl rfl (vp_in_nI (n := i) (N := 36) (by omega) (by omega)) dX0_tryLast_26 ?_
                refine ql_as (y := ff i) (by rw [nI_clamp (by omega)]) ?_
                refine lv_aload_n hx hb dX0_tryLast_27 rfl (lv_at hl 0 rfl) ?_
                refine va_get (D := (dC, dI)) (ci := 2) (v := .ref hO) (C := RX0) (T := TX0) (N := 5) hx hb hts kc_xTryLast_0 hown hK hP 0 rfl rfl 4 (by decide) (hts (.fieldLink RX0 22 "MistHeaps$Chances" "hits" "[[I") kc_xTryLast_3) (fun _ h9 => h9) rfl dX0_tryLast_28 ?_
                refine lv_iload_n hx hb dX0_tryLast_31 rfl (lv_at hl 3 rfl) ?_
                refine va_alda hx hb hK hP 2 1 rfl rfl (vp_in_nI (n := 1) (N := 8) (by omega) (by omega)) dX0_tryLast_32 ?_
                refine qq_as (v := .ref (rh 1)) (rfl) ?_
                refine lv_iload hx hb dX0_tryLast_33 (lv_at hl 5 rfl) ?_
                refine va_iald hx hb hK hP 4 3 rfl rfl (vp_in_nI (n := i) (N := 36) (by omega) (by omega)) dX0_tryLast_35 ?_
                refine qi_as (y := g1 i) (by rw [nI_clamp (by omega)]) ?_
                refine lv_i2l (v := (g1 i).toInt64) hx hb dX0_tryLast_36 (rfl) ?_
                refine lv_lmul hx hb dX0_tryLast_37 ?_
                refine lv_ladd hx hb dX0_tryLast_38 ?_
                refine lv_lstore (lv' := [(4, .long (q + ((ff i) * ((g1 i).toInt64)))), (0, .ref ch), (1, .ref fa), (2, .int x), (3, .int 1), (6, .int (nI i))]) hx hb dX0_tryLast_39 hl (by decide) rfl (fun ls hl => ?_)
                refine lv_iinc (v := nI (i + 1)) (lv' := [(6, .int (nI (i + 1))), (4, .long (q + ((ff i) * ((g1 i).toInt64)))), (0, .ref ch), (1, .ref fa), (2, .int x), (3, .int 1)]) hx hb dX0_tryLast_41 hl (k := 5) rfl (nI_add i 1) (by decide) rfl (fun ls hl => ?_)
                refine lv_goto (tgt := 14) hx hb dX0_tryLast_44 (by decide) ?_
                exact ih14 (i + 1) _ (by omega) (by omega) _ _ (hK.sub [0, 1, 2, 3, 4, 5, 6, 7, 8, 9] rfl) (hP.sub [0, 1, 2, 3, 4, 5, 6, 7, 8, 9, 10] rfl) (hD.sub [0, 1, 2, 3, 4, 5, 6, 7, 8, 9, 10] (by decide) rfl) hS ls (lv_sub hl [2, 3, 4, 5, 1, 0] rfl)
          exact L14 _ (0) _ (Nat.lt_succ_self _) (by omega) _ _ (hK.sub [0, 1, 2, 3, 4, 5, 6, 7, 8, 9] rfl) (hP.sub [0, 1, 2, 3, 4, 5, 6, 7, 8, 9, 10] rfl) (hD.sub [0, 1, 2, 3, 4, 5, 6, 7, 8, 9, 10] (by decide) rfl) hS ls (lv_sub hl [2, 3, 4, 5, 1, 0] rfl)
        · skip
          refine lv_lconst (v := 0) hx hb dX0_tryLast_8 (by decide) ?_
          refine lv_lstore (lv' := [(4, .long 0), (0, .ref ch), (1, .ref fa), (2, .int x), (3, .int 2)]) hx hb dX0_tryLast_9 hl (by decide) rfl (fun ls hl => ?_)
          refine lv_iconst (v := 0) hx hb dX0_tryLast_11 (by decide) ?_
          refine lv_istore (lv' := [(6, .int 0), (4, .long 0), (0, .ref ch), (1, .ref fa), (2, .int x), (3, .int 2)]) hx hb dX0_tryLast_12 hl (by decide) rfl (fun ls hl => ?_)
          have L14 : ∀ (nF : Nat) (i : Nat) (q : Int64), 36 - i < nF → (i ≤ 36) → ∀ (H : Heap) (locs : List Loc), va_K (dC, dI) vwCl [(cA1, .long), (cHO, .array .int), (cH, .int), (cH, .int), (cH, .int), (cH, .int), (cH, .int), (cH, .int), (cH, .int), (cH, .int)] s → va_P (dC, dI) vwCl [(zo2lirrr ch ft2 fr2 dr tO hO), (zaL fa cA1 36 ff), (zaR hO cHO 8 (fun i => if i < 8 then some (rh i) else none)), (zaI (rh 0) cH 36 g0), (zaI (rh 1) cH 36 g1), (zaI (rh 2) cH 36 g2), (zaI (rh 3) cH 36 g3), (zaI (rh 4) cH 36 g4), (zaI (rh 5) cH 36 g5), (zaI (rh 6) cH 36 g6), (zaI (rh 7) cH 36 g7)] H → va_D A [(zo2lirrr ch ft2 fr2 dr tO hO), (zaL fa cA1 36 ff), (zaR hO cHO 8 (fun i => if i < 8 then some (rh i) else none)), (zaI (rh 0) cH 36 g0), (zaI (rh 1) cH 36 g1), (zaI (rh 2) cH 36 g2), (zaI (rh 3) cH 36 g3), (zaI (rh 4) cH 36 g4), (zaI (rh 5) cH 36 g5), (zaI (rh 6) cH 36 g6), (zaI (rh 7) cH 36 g7)] → va_S A s.heap H locs → ∀ (ls : Array Slot), lv_has ls 7 [(0, .ref ch), (1, .ref fa), (2, .int x), (3, .int 2), (4, .long q), (6, .int (nI i))] → W p l e ({ frames := 0, cells := 0, slots := 0, locals := 0 } : Room) s m args below meth c H locs 0 0 Q (F0 m 14 ls []) := by
            intro nF
            induction nF with
            | zero => intro i q hm; exact absurd hm (Nat.not_lt_zero _)
            | succ nF ih14 =>
              intro i q hm hi H locs hK hP hD hS ls hl
              refine lv_iload hx hb dX0_tryLast_14 (lv_at hl 5 rfl) ?_
              refine lv_bipush (v := 36) hx hb dX0_tryLast_16 (by decide) ?_
              refine lv_icmp_ge (tgt := 47) hx hb dX0_tryLast_18 (by decide) (fun c_6 => ?_) (fun c_6 => ?_)
              · skip
                have c_6 : 36 ≤ i := (nI_leI (a := 36) (b := i) (by omega) (by omega)).mp c_6
                refine lv_lload hx hb dX0_tryLast_47 (lv_at hl 4 rfl) ?_
                refine lv_aload_n hx hb dX0_tryLast_49 rfl (lv_at hl 0 rfl) ?_
                refine va_get (D := (dC, dI)) (ci := 2) (v := .long ft2) (C := RX0) (T := TX0) (N := 5) hx hb hts kc_xTryLast_0 hown hK hP 0 rfl rfl 0 (by decide) (hts (.fieldLink RX0 66 "MistHeaps$Chances" "foundTimes" "J") kc_xTryLast_1) (fun _ h9 => h9) rfl dX0_tryLast_50 ?_
                refine W.lcmp hx hb dX0_tryLast_53 ?_
                refine lv_if_le (tgt := 73) hx hb dX0_tryLast_54 (by decide) (fun c_7 => ?_) (fun c_7 => ?_)
                · skip
                  refine lv_iinc (v := 3) (lv' := [(3, .int 3), (0, .ref ch), (1, .ref fa), (2, .int x), (4, .long q), (6, .int (nI i))]) hx hb dX0_tryLast_73 hl (k := 3) rfl (by decide) (by decide) rfl (fun ls hl => ?_)
                  refine lv_goto (tgt := 2) hx hb dX0_tryLast_76 (by decide) ?_
                  exact ih2 (3) _ _ (by omega) (by omega) _ _ (hK.sub [0, 1, 2, 3, 4, 5, 6, 7, 8, 9] rfl) (hP.sub [0, 1, 2, 3, 4, 5, 6, 7, 8, 9, 10] rfl) (hD.sub [0, 1, 2, 3, 4, 5, 6, 7, 8, 9, 10] (by decide) rfl) hS ls (lv_sub hl [1, 2, 3, 0] rfl)
                · skip
                  refine lv_aload_n hx hb dX0_tryLast_57 rfl (lv_at hl 0 rfl) ?_
                  refine lv_lload hx hb dX0_tryLast_58 (lv_at hl 4 rfl) ?_
                  refine va_put (D := (dC, dI)) (ci := 2) (v := .long q) (ty := .long) (C := RX0) (T := TX0) (N := 5) hx hb hts kc_xTryLast_0 tyX0 tyX0_ok nmX0 hown hK hP hD hS 0 rfl rfl 0 (by decide) (hts (.fieldLink RX0 66 "MistHeaps$Chances" "foundTimes" "J") kc_xTryLast_1) (fun _ h9 => h9) rfl (by decide +kernel) rfl rfl (Nat.le_of_ble_eq_true rfl) dX0_tryLast_60 (fun H locs hP hD hS => ?_)
                  have hP : va_P (dC, dI) vwCl [(zo2lirrr ch q fr2 dr tO hO), (zaL fa cA1 36 ff), (zaR hO cHO 8 (fun i => if i < 8 then some (rh i) else none)), (zaI (rh 0) cH 36 g0), (zaI (rh 1) cH 36 g1), (zaI (rh 2) cH 36 g2), (zaI (rh 3) cH 36 g3), (zaI (rh 4) cH 36 g4), (zaI (rh 5) cH 36 g5), (zaI (rh 6) cH 36 g6), (zaI (rh 7) cH 36 g7)] H := hP
                  have hD : va_D A [(zo2lirrr ch q fr2 dr tO hO), (zaL fa cA1 36 ff), (zaR hO cHO 8 (fun i => if i < 8 then some (rh i) else none)), (zaI (rh 0) cH 36 g0), (zaI (rh 1) cH 36 g1), (zaI (rh 2) cH 36 g2), (zaI (rh 3) cH 36 g3), (zaI (rh 4) cH 36 g4), (zaI (rh 5) cH 36 g5), (zaI (rh 6) cH 36 g6), (zaI (rh 7) cH 36 g7)] := hD
                  refine lv_aload_n hx hb dX0_tryLast_63 rfl (lv_at hl 0 rfl) ?_
                  refine lv_iload_n hx hb dX0_tryLast_64 rfl (lv_at hl 2 rfl) ?_
                  refine lv_bipush (v := 8) hx hb dX0_tryLast_65 (by decide) ?_
                  refine lv_imul hx hb dX0_tryLast_67 ?_
                  refine lv_iload_n hx hb dX0_tryLast_68 rfl (lv_at hl 3 rfl) ?_
                  refine lv_iadd hx hb dX0_tryLast_69 ?_
                  refine va_put (D := (dC, dI)) (ci := 2) (v := .int ((x * 8) + 2)) (ty := .int) (C := RX0) (T := TX0) (N := 5) hx hb hts kc_xTryLast_0 tyX0 tyX0_ok nmX0 hown hK hP hD hS 0 rfl rfl 1 (by decide) (hts (.fieldLink RX0 77 "MistHeaps$Chances" "foundRow" "I") kc_xTryLast_2) (fun _ h9 => h9) rfl (by decide +kernel) rfl rfl (Nat.le_of_ble_eq_true rfl) dX0_tryLast_70 (fun H locs hP hD hS => ?_)
                  have hP : va_P (dC, dI) vwCl [(zo2lirrr ch q ((x * 8) + 2) dr tO hO), (zaL fa cA1 36 ff), (zaR hO cHO 8 (fun i => if i < 8 then some (rh i) else none)), (zaI (rh 0) cH 36 g0), (zaI (rh 1) cH 36 g1), (zaI (rh 2) cH 36 g2), (zaI (rh 3) cH 36 g3), (zaI (rh 4) cH 36 g4), (zaI (rh 5) cH 36 g5), (zaI (rh 6) cH 36 g6), (zaI (rh 7) cH 36 g7)] H := hP
                  have hD : va_D A [(zo2lirrr ch q ((x * 8) + 2) dr tO hO), (zaL fa cA1 36 ff), (zaR hO cHO 8 (fun i => if i < 8 then some (rh i) else none)), (zaI (rh 0) cH 36 g0), (zaI (rh 1) cH 36 g1), (zaI (rh 2) cH 36 g2), (zaI (rh 3) cH 36 g3), (zaI (rh 4) cH 36 g4), (zaI (rh 5) cH 36 g5), (zaI (rh 6) cH 36 g6), (zaI (rh 7) cH 36 g7)] := hD
                  refine lv_iinc (v := 3) (lv' := [(3, .int 3), (0, .ref ch), (1, .ref fa), (2, .int x), (4, .long q), (6, .int (nI i))]) hx hb dX0_tryLast_73 hl (k := 3) rfl (by decide) (by decide) rfl (fun ls hl => ?_)
                  refine lv_goto (tgt := 2) hx hb dX0_tryLast_76 (by decide) ?_
                  exact ih2 (3) _ _ (by omega) (by omega) _ _ (hK.sub [0, 1, 2, 3, 4, 5, 6, 7, 8, 9] rfl) (hP.sub [0, 1, 2, 3, 4, 5, 6, 7, 8, 9, 10] rfl) (hD.sub [0, 1, 2, 3, 4, 5, 6, 7, 8, 9, 10] (by decide) rfl) hS ls (lv_sub hl [1, 2, 3, 0] rfl)
              · skip
                have c_6 : ¬ 36 ≤ i := fun q => c_6 ((nI_leI (a := 36) (b := i) (by omega) (by omega)).mpr q)
                refine lv_lload hx hb dX0_tryLast_21 (lv_at hl 4 rfl) ?_
                refine lv_aload_n hx hb dX0_tryLast_23 rfl (lv_at hl 1 rfl) ?_
                refine lv_iload hx hb dX0_tryLast_24 (lv_at hl 5 rfl) ?_
                refine va_lald hx hb hK hP 1 0 rfl rfl (vp_in_nI (n := i) (N := 36) (by omega) (by omega)) dX0_tryLast_26 ?_
                refine ql_as (y := ff i) (by rw [nI_clamp (by omega)]) ?_
                refine lv_aload_n hx hb dX0_tryLast_27 rfl (lv_at hl 0 rfl) ?_
                refine va_get (D := (dC, dI)) (ci := 2) (v := .ref hO) (C := RX0) (T := TX0) (N := 5) hx hb hts kc_xTryLast_0 hown hK hP 0 rfl rfl 4 (by decide) (hts (.fieldLink RX0 22 "MistHeaps$Chances" "hits" "[[I") kc_xTryLast_3) (fun _ h9 => h9) rfl dX0_tryLast_28 ?_
                refine lv_iload_n hx hb dX0_tryLast_31 rfl (lv_at hl 3 rfl) ?_
                refine va_alda hx hb hK hP 2 1 rfl rfl (vp_in_nI (n := 2) (N := 8) (by omega) (by omega)) dX0_tryLast_32 ?_
                refine qq_as (v := .ref (rh 2)) (rfl) ?_
                refine lv_iload hx hb dX0_tryLast_33 (lv_at hl 5 rfl) ?_
                refine va_iald hx hb hK hP 5 4 rfl rfl (vp_in_nI (n := i) (N := 36) (by omega) (by omega)) dX0_tryLast_35 ?_
                refine qi_as (y := g2 i) (by rw [nI_clamp (by omega)]) ?_
                refine lv_i2l (v := (g2 i).toInt64) hx hb dX0_tryLast_36 (rfl) ?_
                refine lv_lmul hx hb dX0_tryLast_37 ?_
                refine lv_ladd hx hb dX0_tryLast_38 ?_
                refine lv_lstore (lv' := [(4, .long (q + ((ff i) * ((g2 i).toInt64)))), (0, .ref ch), (1, .ref fa), (2, .int x), (3, .int 2), (6, .int (nI i))]) hx hb dX0_tryLast_39 hl (by decide) rfl (fun ls hl => ?_)
                refine lv_iinc (v := nI (i + 1)) (lv' := [(6, .int (nI (i + 1))), (4, .long (q + ((ff i) * ((g2 i).toInt64)))), (0, .ref ch), (1, .ref fa), (2, .int x), (3, .int 2)]) hx hb dX0_tryLast_41 hl (k := 5) rfl (nI_add i 1) (by decide) rfl (fun ls hl => ?_)
                refine lv_goto (tgt := 14) hx hb dX0_tryLast_44 (by decide) ?_
                exact ih14 (i + 1) _ (by omega) (by omega) _ _ (hK.sub [0, 1, 2, 3, 4, 5, 6, 7, 8, 9] rfl) (hP.sub [0, 1, 2, 3, 4, 5, 6, 7, 8, 9, 10] rfl) (hD.sub [0, 1, 2, 3, 4, 5, 6, 7, 8, 9, 10] (by decide) rfl) hS ls (lv_sub hl [2, 3, 4, 5, 1, 0] rfl)
          exact L14 _ (0) _ (Nat.lt_succ_self _) (by omega) _ _ (hK.sub [0, 1, 2, 3, 4, 5, 6, 7, 8, 9] rfl) (hP.sub [0, 1, 2, 3, 4, 5, 6, 7, 8, 9, 10] rfl) (hD.sub [0, 1, 2, 3, 4, 5, 6, 7, 8, 9, 10] (by decide) rfl) hS ls (lv_sub hl [2, 3, 4, 5, 1, 0] rfl)
        · skip
          refine lv_lconst (v := 0) hx hb dX0_tryLast_8 (by decide) ?_
          refine lv_lstore (lv' := [(4, .long 0), (0, .ref ch), (1, .ref fa), (2, .int x), (3, .int 3)]) hx hb dX0_tryLast_9 hl (by decide) rfl (fun ls hl => ?_)
          refine lv_iconst (v := 0) hx hb dX0_tryLast_11 (by decide) ?_
          refine lv_istore (lv' := [(6, .int 0), (4, .long 0), (0, .ref ch), (1, .ref fa), (2, .int x), (3, .int 3)]) hx hb dX0_tryLast_12 hl (by decide) rfl (fun ls hl => ?_)
          have L14 : ∀ (nF : Nat) (i : Nat) (q : Int64), 36 - i < nF → (i ≤ 36) → ∀ (H : Heap) (locs : List Loc), va_K (dC, dI) vwCl [(cA1, .long), (cHO, .array .int), (cH, .int), (cH, .int), (cH, .int), (cH, .int), (cH, .int), (cH, .int), (cH, .int), (cH, .int)] s → va_P (dC, dI) vwCl [(zo2lirrr ch ft2 fr2 dr tO hO), (zaL fa cA1 36 ff), (zaR hO cHO 8 (fun i => if i < 8 then some (rh i) else none)), (zaI (rh 0) cH 36 g0), (zaI (rh 1) cH 36 g1), (zaI (rh 2) cH 36 g2), (zaI (rh 3) cH 36 g3), (zaI (rh 4) cH 36 g4), (zaI (rh 5) cH 36 g5), (zaI (rh 6) cH 36 g6), (zaI (rh 7) cH 36 g7)] H → va_D A [(zo2lirrr ch ft2 fr2 dr tO hO), (zaL fa cA1 36 ff), (zaR hO cHO 8 (fun i => if i < 8 then some (rh i) else none)), (zaI (rh 0) cH 36 g0), (zaI (rh 1) cH 36 g1), (zaI (rh 2) cH 36 g2), (zaI (rh 3) cH 36 g3), (zaI (rh 4) cH 36 g4), (zaI (rh 5) cH 36 g5), (zaI (rh 6) cH 36 g6), (zaI (rh 7) cH 36 g7)] → va_S A s.heap H locs → ∀ (ls : Array Slot), lv_has ls 7 [(0, .ref ch), (1, .ref fa), (2, .int x), (3, .int 3), (4, .long q), (6, .int (nI i))] → W p l e ({ frames := 0, cells := 0, slots := 0, locals := 0 } : Room) s m args below meth c H locs 0 0 Q (F0 m 14 ls []) := by
            intro nF
            induction nF with
            | zero => intro i q hm; exact absurd hm (Nat.not_lt_zero _)
            | succ nF ih14 =>
              intro i q hm hi H locs hK hP hD hS ls hl
              refine lv_iload hx hb dX0_tryLast_14 (lv_at hl 5 rfl) ?_
              refine lv_bipush (v := 36) hx hb dX0_tryLast_16 (by decide) ?_
              refine lv_icmp_ge (tgt := 47) hx hb dX0_tryLast_18 (by decide) (fun c_8 => ?_) (fun c_8 => ?_)
              · skip
                have c_8 : 36 ≤ i := (nI_leI (a := 36) (b := i) (by omega) (by omega)).mp c_8
                refine lv_lload hx hb dX0_tryLast_47 (lv_at hl 4 rfl) ?_
                refine lv_aload_n hx hb dX0_tryLast_49 rfl (lv_at hl 0 rfl) ?_
                refine va_get (D := (dC, dI)) (ci := 2) (v := .long ft2) (C := RX0) (T := TX0) (N := 5) hx hb hts kc_xTryLast_0 hown hK hP 0 rfl rfl 0 (by decide) (hts (.fieldLink RX0 66 "MistHeaps$Chances" "foundTimes" "J") kc_xTryLast_1) (fun _ h9 => h9) rfl dX0_tryLast_50 ?_
                refine W.lcmp hx hb dX0_tryLast_53 ?_
                refine lv_if_le (tgt := 73) hx hb dX0_tryLast_54 (by decide) (fun c_9 => ?_) (fun c_9 => ?_)
                · skip
                  refine lv_iinc (v := 4) (lv' := [(3, .int 4), (0, .ref ch), (1, .ref fa), (2, .int x), (4, .long q), (6, .int (nI i))]) hx hb dX0_tryLast_73 hl (k := 3) rfl (by decide) (by decide) rfl (fun ls hl => ?_)
                  refine lv_goto (tgt := 2) hx hb dX0_tryLast_76 (by decide) ?_
                  exact ih2 (4) _ _ (by omega) (by omega) _ _ (hK.sub [0, 1, 2, 3, 4, 5, 6, 7, 8, 9] rfl) (hP.sub [0, 1, 2, 3, 4, 5, 6, 7, 8, 9, 10] rfl) (hD.sub [0, 1, 2, 3, 4, 5, 6, 7, 8, 9, 10] (by decide) rfl) hS ls (lv_sub hl [1, 2, 3, 0] rfl)
                · skip
                  refine lv_aload_n hx hb dX0_tryLast_57 rfl (lv_at hl 0 rfl) ?_
                  refine lv_lload hx hb dX0_tryLast_58 (lv_at hl 4 rfl) ?_
                  refine va_put (D := (dC, dI)) (ci := 2) (v := .long q) (ty := .long) (C := RX0) (T := TX0) (N := 5) hx hb hts kc_xTryLast_0 tyX0 tyX0_ok nmX0 hown hK hP hD hS 0 rfl rfl 0 (by decide) (hts (.fieldLink RX0 66 "MistHeaps$Chances" "foundTimes" "J") kc_xTryLast_1) (fun _ h9 => h9) rfl (by decide +kernel) rfl rfl (Nat.le_of_ble_eq_true rfl) dX0_tryLast_60 (fun H locs hP hD hS => ?_)
                  have hP : va_P (dC, dI) vwCl [(zo2lirrr ch q fr2 dr tO hO), (zaL fa cA1 36 ff), (zaR hO cHO 8 (fun i => if i < 8 then some (rh i) else none)), (zaI (rh 0) cH 36 g0), (zaI (rh 1) cH 36 g1), (zaI (rh 2) cH 36 g2), (zaI (rh 3) cH 36 g3), (zaI (rh 4) cH 36 g4), (zaI (rh 5) cH 36 g5), (zaI (rh 6) cH 36 g6), (zaI (rh 7) cH 36 g7)] H := hP
                  have hD : va_D A [(zo2lirrr ch q fr2 dr tO hO), (zaL fa cA1 36 ff), (zaR hO cHO 8 (fun i => if i < 8 then some (rh i) else none)), (zaI (rh 0) cH 36 g0), (zaI (rh 1) cH 36 g1), (zaI (rh 2) cH 36 g2), (zaI (rh 3) cH 36 g3), (zaI (rh 4) cH 36 g4), (zaI (rh 5) cH 36 g5), (zaI (rh 6) cH 36 g6), (zaI (rh 7) cH 36 g7)] := hD
                  refine lv_aload_n hx hb dX0_tryLast_63 rfl (lv_at hl 0 rfl) ?_
                  refine lv_iload_n hx hb dX0_tryLast_64 rfl (lv_at hl 2 rfl) ?_
                  refine lv_bipush (v := 8) hx hb dX0_tryLast_65 (by decide) ?_
                  refine lv_imul hx hb dX0_tryLast_67 ?_
                  refine lv_iload_n hx hb dX0_tryLast_68 rfl (lv_at hl 3 rfl) ?_
                  refine lv_iadd hx hb dX0_tryLast_69 ?_
                  refine va_put (D := (dC, dI)) (ci := 2) (v := .int ((x * 8) + 3)) (ty := .int) (C := RX0) (T := TX0) (N := 5) hx hb hts kc_xTryLast_0 tyX0 tyX0_ok nmX0 hown hK hP hD hS 0 rfl rfl 1 (by decide) (hts (.fieldLink RX0 77 "MistHeaps$Chances" "foundRow" "I") kc_xTryLast_2) (fun _ h9 => h9) rfl (by decide +kernel) rfl rfl (Nat.le_of_ble_eq_true rfl) dX0_tryLast_70 (fun H locs hP hD hS => ?_)
                  have hP : va_P (dC, dI) vwCl [(zo2lirrr ch q ((x * 8) + 3) dr tO hO), (zaL fa cA1 36 ff), (zaR hO cHO 8 (fun i => if i < 8 then some (rh i) else none)), (zaI (rh 0) cH 36 g0), (zaI (rh 1) cH 36 g1), (zaI (rh 2) cH 36 g2), (zaI (rh 3) cH 36 g3), (zaI (rh 4) cH 36 g4), (zaI (rh 5) cH 36 g5), (zaI (rh 6) cH 36 g6), (zaI (rh 7) cH 36 g7)] H := hP
                  have hD : va_D A [(zo2lirrr ch q ((x * 8) + 3) dr tO hO), (zaL fa cA1 36 ff), (zaR hO cHO 8 (fun i => if i < 8 then some (rh i) else none)), (zaI (rh 0) cH 36 g0), (zaI (rh 1) cH 36 g1), (zaI (rh 2) cH 36 g2), (zaI (rh 3) cH 36 g3), (zaI (rh 4) cH 36 g4), (zaI (rh 5) cH 36 g5), (zaI (rh 6) cH 36 g6), (zaI (rh 7) cH 36 g7)] := hD
                  refine lv_iinc (v := 4) (lv' := [(3, .int 4), (0, .ref ch), (1, .ref fa), (2, .int x), (4, .long q), (6, .int (nI i))]) hx hb dX0_tryLast_73 hl (k := 3) rfl (by decide) (by decide) rfl (fun ls hl => ?_)
                  refine lv_goto (tgt := 2) hx hb dX0_tryLast_76 (by decide) ?_
                  exact ih2 (4) _ _ (by omega) (by omega) _ _ (hK.sub [0, 1, 2, 3, 4, 5, 6, 7, 8, 9] rfl) (hP.sub [0, 1, 2, 3, 4, 5, 6, 7, 8, 9, 10] rfl) (hD.sub [0, 1, 2, 3, 4, 5, 6, 7, 8, 9, 10] (by decide) rfl) hS ls (lv_sub hl [1, 2, 3, 0] rfl)
              · skip
                have c_8 : ¬ 36 ≤ i := fun q => c_8 ((nI_leI (a := 36) (b := i) (by omega) (by omega)).mpr q)
                refine lv_lload hx hb dX0_tryLast_21 (lv_at hl 4 rfl) ?_
                refine lv_aload_n hx hb dX0_tryLast_23 rfl (lv_at hl 1 rfl) ?_
                refine lv_iload hx hb dX0_tryLast_24 (lv_at hl 5 rfl) ?_
                refine va_lald hx hb hK hP 1 0 rfl rfl (vp_in_nI (n := i) (N := 36) (by omega) (by omega)) dX0_tryLast_26 ?_
                refine ql_as (y := ff i) (by rw [nI_clamp (by omega)]) ?_
                refine lv_aload_n hx hb dX0_tryLast_27 rfl (lv_at hl 0 rfl) ?_
                refine va_get (D := (dC, dI)) (ci := 2) (v := .ref hO) (C := RX0) (T := TX0) (N := 5) hx hb hts kc_xTryLast_0 hown hK hP 0 rfl rfl 4 (by decide) (hts (.fieldLink RX0 22 "MistHeaps$Chances" "hits" "[[I") kc_xTryLast_3) (fun _ h9 => h9) rfl dX0_tryLast_28 ?_
                refine lv_iload_n hx hb dX0_tryLast_31 rfl (lv_at hl 3 rfl) ?_
                refine va_alda hx hb hK hP 2 1 rfl rfl (vp_in_nI (n := 3) (N := 8) (by omega) (by omega)) dX0_tryLast_32 ?_
                refine qq_as (v := .ref (rh 3)) (rfl) ?_
                refine lv_iload hx hb dX0_tryLast_33 (lv_at hl 5 rfl) ?_
                refine va_iald hx hb hK hP 6 5 rfl rfl (vp_in_nI (n := i) (N := 36) (by omega) (by omega)) dX0_tryLast_35 ?_
                refine qi_as (y := g3 i) (by rw [nI_clamp (by omega)]) ?_
                refine lv_i2l (v := (g3 i).toInt64) hx hb dX0_tryLast_36 (rfl) ?_
                refine lv_lmul hx hb dX0_tryLast_37 ?_
                refine lv_ladd hx hb dX0_tryLast_38 ?_
                refine lv_lstore (lv' := [(4, .long (q + ((ff i) * ((g3 i).toInt64)))), (0, .ref ch), (1, .ref fa), (2, .int x), (3, .int 3), (6, .int (nI i))]) hx hb dX0_tryLast_39 hl (by decide) rfl (fun ls hl => ?_)
                refine lv_iinc (v := nI (i + 1)) (lv' := [(6, .int (nI (i + 1))), (4, .long (q + ((ff i) * ((g3 i).toInt64)))), (0, .ref ch), (1, .ref fa), (2, .int x), (3, .int 3)]) hx hb dX0_tryLast_41 hl (k := 5) rfl (nI_add i 1) (by decide) rfl (fun ls hl => ?_)
                refine lv_goto (tgt := 14) hx hb dX0_tryLast_44 (by decide) ?_
                exact ih14 (i + 1) _ (by omega) (by omega) _ _ (hK.sub [0, 1, 2, 3, 4, 5, 6, 7, 8, 9] rfl) (hP.sub [0, 1, 2, 3, 4, 5, 6, 7, 8, 9, 10] rfl) (hD.sub [0, 1, 2, 3, 4, 5, 6, 7, 8, 9, 10] (by decide) rfl) hS ls (lv_sub hl [2, 3, 4, 5, 1, 0] rfl)
          exact L14 _ (0) _ (Nat.lt_succ_self _) (by omega) _ _ (hK.sub [0, 1, 2, 3, 4, 5, 6, 7, 8, 9] rfl) (hP.sub [0, 1, 2, 3, 4, 5, 6, 7, 8, 9, 10] rfl) (hD.sub [0, 1, 2, 3, 4, 5, 6, 7, 8, 9, 10] (by decide) rfl) hS ls (lv_sub hl [2, 3, 4, 5, 1, 0] rfl)
        · skip
          refine lv_lconst (v := 0) hx hb dX0_tryLast_8 (by decide) ?_
          refine lv_lstore (lv' := [(4, .long 0), (0, .ref ch), (1, .ref fa), (2, .int x), (3, .int 4)]) hx hb dX0_tryLast_9 hl (by decide) rfl (fun ls hl => ?_)
          refine lv_iconst (v := 0) hx hb dX0_tryLast_11 (by decide) ?_
          refine lv_istore (lv' := [(6, .int 0), (4, .long 0), (0, .ref ch), (1, .ref fa), (2, .int x), (3, .int 4)]) hx hb dX0_tryLast_12 hl (by decide) rfl (fun ls hl => ?_)
          have L14 : ∀ (nF : Nat) (i : Nat) (q : Int64), 36 - i < nF → (i ≤ 36) → ∀ (H : Heap) (locs : List Loc), va_K (dC, dI) vwCl [(cA1, .long), (cHO, .array .int), (cH, .int), (cH, .int), (cH, .int), (cH, .int), (cH, .int), (cH, .int), (cH, .int), (cH, .int)] s → va_P (dC, dI) vwCl [(zo2lirrr ch ft2 fr2 dr tO hO), (zaL fa cA1 36 ff), (zaR hO cHO 8 (fun i => if i < 8 then some (rh i) else none)), (zaI (rh 0) cH 36 g0), (zaI (rh 1) cH 36 g1), (zaI (rh 2) cH 36 g2), (zaI (rh 3) cH 36 g3), (zaI (rh 4) cH 36 g4), (zaI (rh 5) cH 36 g5), (zaI (rh 6) cH 36 g6), (zaI (rh 7) cH 36 g7)] H → va_D A [(zo2lirrr ch ft2 fr2 dr tO hO), (zaL fa cA1 36 ff), (zaR hO cHO 8 (fun i => if i < 8 then some (rh i) else none)), (zaI (rh 0) cH 36 g0), (zaI (rh 1) cH 36 g1), (zaI (rh 2) cH 36 g2), (zaI (rh 3) cH 36 g3), (zaI (rh 4) cH 36 g4), (zaI (rh 5) cH 36 g5), (zaI (rh 6) cH 36 g6), (zaI (rh 7) cH 36 g7)] → va_S A s.heap H locs → ∀ (ls : Array Slot), lv_has ls 7 [(0, .ref ch), (1, .ref fa), (2, .int x), (3, .int 4), (4, .long q), (6, .int (nI i))] → W p l e ({ frames := 0, cells := 0, slots := 0, locals := 0 } : Room) s m args below meth c H locs 0 0 Q (F0 m 14 ls []) := by
            intro nF
            induction nF with
            | zero => intro i q hm; exact absurd hm (Nat.not_lt_zero _)
            | succ nF ih14 =>
              intro i q hm hi H locs hK hP hD hS ls hl
              refine lv_iload hx hb dX0_tryLast_14 (lv_at hl 5 rfl) ?_
              refine lv_bipush (v := 36) hx hb dX0_tryLast_16 (by decide) ?_
              refine lv_icmp_ge (tgt := 47) hx hb dX0_tryLast_18 (by decide) (fun c_10 => ?_) (fun c_10 => ?_)
              · skip
                have c_10 : 36 ≤ i := (nI_leI (a := 36) (b := i) (by omega) (by omega)).mp c_10
                refine lv_lload hx hb dX0_tryLast_47 (lv_at hl 4 rfl) ?_
                refine lv_aload_n hx hb dX0_tryLast_49 rfl (lv_at hl 0 rfl) ?_
                refine va_get (D := (dC, dI)) (ci := 2) (v := .long ft2) (C := RX0) (T := TX0) (N := 5) hx hb hts kc_xTryLast_0 hown hK hP 0 rfl rfl 0 (by decide) (hts (.fieldLink RX0 66 "MistHeaps$Chances" "foundTimes" "J") kc_xTryLast_1) (fun _ h9 => h9) rfl dX0_tryLast_50 ?_
                refine W.lcmp hx hb dX0_tryLast_53 ?_
                refine lv_if_le (tgt := 73) hx hb dX0_tryLast_54 (by decide) (fun c_11 => ?_) (fun c_11 => ?_)
                · skip
                  refine lv_iinc (v := 5) (lv' := [(3, .int 5), (0, .ref ch), (1, .ref fa), (2, .int x), (4, .long q), (6, .int (nI i))]) hx hb dX0_tryLast_73 hl (k := 3) rfl (by decide) (by decide) rfl (fun ls hl => ?_)
                  refine lv_goto (tgt := 2) hx hb dX0_tryLast_76 (by decide) ?_
                  exact ih2 (5) _ _ (by omega) (by omega) _ _ (hK.sub [0, 1, 2, 3, 4, 5, 6, 7, 8, 9] rfl) (hP.sub [0, 1, 2, 3, 4, 5, 6, 7, 8, 9, 10] rfl) (hD.sub [0, 1, 2, 3, 4, 5, 6, 7, 8, 9, 10] (by decide) rfl) hS ls (lv_sub hl [1, 2, 3, 0] rfl)
                · skip
                  refine lv_aload_n hx hb dX0_tryLast_57 rfl (lv_at hl 0 rfl) ?_
                  refine lv_lload hx hb dX0_tryLast_58 (lv_at hl 4 rfl) ?_
                  refine va_put (D := (dC, dI)) (ci := 2) (v := .long q) (ty := .long) (C := RX0) (T := TX0) (N := 5) hx hb hts kc_xTryLast_0 tyX0 tyX0_ok nmX0 hown hK hP hD hS 0 rfl rfl 0 (by decide) (hts (.fieldLink RX0 66 "MistHeaps$Chances" "foundTimes" "J") kc_xTryLast_1) (fun _ h9 => h9) rfl (by decide +kernel) rfl rfl (Nat.le_of_ble_eq_true rfl) dX0_tryLast_60 (fun H locs hP hD hS => ?_)
                  have hP : va_P (dC, dI) vwCl [(zo2lirrr ch q fr2 dr tO hO), (zaL fa cA1 36 ff), (zaR hO cHO 8 (fun i => if i < 8 then some (rh i) else none)), (zaI (rh 0) cH 36 g0), (zaI (rh 1) cH 36 g1), (zaI (rh 2) cH 36 g2), (zaI (rh 3) cH 36 g3), (zaI (rh 4) cH 36 g4), (zaI (rh 5) cH 36 g5), (zaI (rh 6) cH 36 g6), (zaI (rh 7) cH 36 g7)] H := hP
                  have hD : va_D A [(zo2lirrr ch q fr2 dr tO hO), (zaL fa cA1 36 ff), (zaR hO cHO 8 (fun i => if i < 8 then some (rh i) else none)), (zaI (rh 0) cH 36 g0), (zaI (rh 1) cH 36 g1), (zaI (rh 2) cH 36 g2), (zaI (rh 3) cH 36 g3), (zaI (rh 4) cH 36 g4), (zaI (rh 5) cH 36 g5), (zaI (rh 6) cH 36 g6), (zaI (rh 7) cH 36 g7)] := hD
                  refine lv_aload_n hx hb dX0_tryLast_63 rfl (lv_at hl 0 rfl) ?_
                  refine lv_iload_n hx hb dX0_tryLast_64 rfl (lv_at hl 2 rfl) ?_
                  refine lv_bipush (v := 8) hx hb dX0_tryLast_65 (by decide) ?_
                  refine lv_imul hx hb dX0_tryLast_67 ?_
                  refine lv_iload_n hx hb dX0_tryLast_68 rfl (lv_at hl 3 rfl) ?_
                  refine lv_iadd hx hb dX0_tryLast_69 ?_
                  refine va_put (D := (dC, dI)) (ci := 2) (v := .int ((x * 8) + 4)) (ty := .int) (C := RX0) (T := TX0) (N := 5) hx hb hts kc_xTryLast_0 tyX0 tyX0_ok nmX0 hown hK hP hD hS 0 rfl rfl 1 (by decide) (hts (.fieldLink RX0 77 "MistHeaps$Chances" "foundRow" "I") kc_xTryLast_2) (fun _ h9 => h9) rfl (by decide +kernel) rfl rfl (Nat.le_of_ble_eq_true rfl) dX0_tryLast_70 (fun H locs hP hD hS => ?_)
                  have hP : va_P (dC, dI) vwCl [(zo2lirrr ch q ((x * 8) + 4) dr tO hO), (zaL fa cA1 36 ff), (zaR hO cHO 8 (fun i => if i < 8 then some (rh i) else none)), (zaI (rh 0) cH 36 g0), (zaI (rh 1) cH 36 g1), (zaI (rh 2) cH 36 g2), (zaI (rh 3) cH 36 g3), (zaI (rh 4) cH 36 g4), (zaI (rh 5) cH 36 g5), (zaI (rh 6) cH 36 g6), (zaI (rh 7) cH 36 g7)] H := hP
                  have hD : va_D A [(zo2lirrr ch q ((x * 8) + 4) dr tO hO), (zaL fa cA1 36 ff), (zaR hO cHO 8 (fun i => if i < 8 then some (rh i) else none)), (zaI (rh 0) cH 36 g0), (zaI (rh 1) cH 36 g1), (zaI (rh 2) cH 36 g2), (zaI (rh 3) cH 36 g3), (zaI (rh 4) cH 36 g4), (zaI (rh 5) cH 36 g5), (zaI (rh 6) cH 36 g6), (zaI (rh 7) cH 36 g7)] := hD
                  refine lv_iinc (v := 5) (lv' := [(3, .int 5), (0, .ref ch), (1, .ref fa), (2, .int x), (4, .long q), (6, .int (nI i))]) hx hb dX0_tryLast_73 hl (k := 3) rfl (by decide) (by decide) rfl (fun ls hl => ?_)
                  refine lv_goto (tgt := 2) hx hb dX0_tryLast_76 (by decide) ?_
                  exact ih2 (5) _ _ (by omega) (by omega) _ _ (hK.sub [0, 1, 2, 3, 4, 5, 6, 7, 8, 9] rfl) (hP.sub [0, 1, 2, 3, 4, 5, 6, 7, 8, 9, 10] rfl) (hD.sub [0, 1, 2, 3, 4, 5, 6, 7, 8, 9, 10] (by decide) rfl) hS ls (lv_sub hl [1, 2, 3, 0] rfl)
              · skip
                have c_10 : ¬ 36 ≤ i := fun q => c_10 ((nI_leI (a := 36) (b := i) (by omega) (by omega)).mpr q)
                refine lv_lload hx hb dX0_tryLast_21 (lv_at hl 4 rfl) ?_
                refine lv_aload_n hx hb dX0_tryLast_23 rfl (lv_at hl 1 rfl) ?_
                refine lv_iload hx hb dX0_tryLast_24 (lv_at hl 5 rfl) ?_
                refine va_lald hx hb hK hP 1 0 rfl rfl (vp_in_nI (n := i) (N := 36) (by omega) (by omega)) dX0_tryLast_26 ?_
                refine ql_as (y := ff i) (by rw [nI_clamp (by omega)]) ?_
                refine lv_aload_n hx hb dX0_tryLast_27 rfl (lv_at hl 0 rfl) ?_
                refine va_get (D := (dC, dI)) (ci := 2) (v := .ref hO) (C := RX0) (T := TX0) (N := 5) hx hb hts kc_xTryLast_0 hown hK hP 0 rfl rfl 4 (by decide) (hts (.fieldLink RX0 22 "MistHeaps$Chances" "hits" "[[I") kc_xTryLast_3) (fun _ h9 => h9) rfl dX0_tryLast_28 ?_
                refine lv_iload_n hx hb dX0_tryLast_31 rfl (lv_at hl 3 rfl) ?_
                refine va_alda hx hb hK hP 2 1 rfl rfl (vp_in_nI (n := 4) (N := 8) (by omega) (by omega)) dX0_tryLast_32 ?_
                refine qq_as (v := .ref (rh 4)) (rfl) ?_
                refine lv_iload hx hb dX0_tryLast_33 (lv_at hl 5 rfl) ?_
                refine va_iald hx hb hK hP 7 6 rfl rfl (vp_in_nI (n := i) (N := 36) (by omega) (by omega)) dX0_tryLast_35 ?_
                refine qi_as (y := g4 i) (by rw [nI_clamp (by omega)]) ?_
                refine lv_i2l (v := (g4 i).toInt64) hx hb dX0_tryLast_36 (rfl) ?_
                refine lv_lmul hx hb dX0_tryLast_37 ?_
                refine lv_ladd hx hb dX0_tryLast_38 ?_
                refine lv_lstore (lv' := [(4, .long (q + ((ff i) * ((g4 i).toInt64)))), (0, .ref ch), (1, .ref fa), (2, .int x), (3, .int 4), (6, .int (nI i))]) hx hb dX0_tryLast_39 hl (by decide) rfl (fun ls hl => ?_)
                refine lv_iinc (v := nI (i + 1)) (lv' := [(6, .int (nI (i + 1))), (4, .long (q + ((ff i) * ((g4 i).toInt64)))), (0, .ref ch), (1, .ref fa), (2, .int x), (3, .int 4)]) hx hb dX0_tryLast_41 hl (k := 5) rfl (nI_add i 1) (by decide) rfl (fun ls hl => ?_)
                refine lv_goto (tgt := 14) hx hb dX0_tryLast_44 (by decide) ?_
                exact ih14 (i + 1) _ (by omega) (by omega) _ _ (hK.sub [0, 1, 2, 3, 4, 5, 6, 7, 8, 9] rfl) (hP.sub [0, 1, 2, 3, 4, 5, 6, 7, 8, 9, 10] rfl) (hD.sub [0, 1, 2, 3, 4, 5, 6, 7, 8, 9, 10] (by decide) rfl) hS ls (lv_sub hl [2, 3, 4, 5, 1, 0] rfl)
          exact L14 _ (0) _ (Nat.lt_succ_self _) (by omega) _ _ (hK.sub [0, 1, 2, 3, 4, 5, 6, 7, 8, 9] rfl) (hP.sub [0, 1, 2, 3, 4, 5, 6, 7, 8, 9, 10] rfl) (hD.sub [0, 1, 2, 3, 4, 5, 6, 7, 8, 9, 10] (by decide) rfl) hS ls (lv_sub hl [2, 3, 4, 5, 1, 0] rfl)
        · skip
          refine lv_lconst (v := 0) hx hb dX0_tryLast_8 (by decide) ?_
          refine lv_lstore (lv' := [(4, .long 0), (0, .ref ch), (1, .ref fa), (2, .int x), (3, .int 5)]) hx hb dX0_tryLast_9 hl (by decide) rfl (fun ls hl => ?_)
          refine lv_iconst (v := 0) hx hb dX0_tryLast_11 (by decide) ?_
          refine lv_istore (lv' := [(6, .int 0), (4, .long 0), (0, .ref ch), (1, .ref fa), (2, .int x), (3, .int 5)]) hx hb dX0_tryLast_12 hl (by decide) rfl (fun ls hl => ?_)
          have L14 : ∀ (nF : Nat) (i : Nat) (q : Int64), 36 - i < nF → (i ≤ 36) → ∀ (H : Heap) (locs : List Loc), va_K (dC, dI) vwCl [(cA1, .long), (cHO, .array .int), (cH, .int), (cH, .int), (cH, .int), (cH, .int), (cH, .int), (cH, .int), (cH, .int), (cH, .int)] s → va_P (dC, dI) vwCl [(zo2lirrr ch ft2 fr2 dr tO hO), (zaL fa cA1 36 ff), (zaR hO cHO 8 (fun i => if i < 8 then some (rh i) else none)), (zaI (rh 0) cH 36 g0), (zaI (rh 1) cH 36 g1), (zaI (rh 2) cH 36 g2), (zaI (rh 3) cH 36 g3), (zaI (rh 4) cH 36 g4), (zaI (rh 5) cH 36 g5), (zaI (rh 6) cH 36 g6), (zaI (rh 7) cH 36 g7)] H → va_D A [(zo2lirrr ch ft2 fr2 dr tO hO), (zaL fa cA1 36 ff), (zaR hO cHO 8 (fun i => if i < 8 then some (rh i) else none)), (zaI (rh 0) cH 36 g0), (zaI (rh 1) cH 36 g1), (zaI (rh 2) cH 36 g2), (zaI (rh 3) cH 36 g3), (zaI (rh 4) cH 36 g4), (zaI (rh 5) cH 36 g5), (zaI (rh 6) cH 36 g6), (zaI (rh 7) cH 36 g7)] → va_S A s.heap H locs → ∀ (ls : Array Slot), lv_has ls 7 [(0, .ref ch), (1, .ref fa), (2, .int x), (3, .int 5), (4, .long q), (6, .int (nI i))] → W p l e ({ frames := 0, cells := 0, slots := 0, locals := 0 } : Room) s m args below meth c H locs 0 0 Q (F0 m 14 ls []) := by
            intro nF
            induction nF with
            | zero => intro i q hm; exact absurd hm (Nat.not_lt_zero _)
            | succ nF ih14 =>
              intro i q hm hi H locs hK hP hD hS ls hl
              refine lv_iload hx hb dX0_tryLast_14 (lv_at hl 5 rfl) ?_
              refine lv_bipush (v := 36) hx hb dX0_tryLast_16 (by decide) ?_
              refine lv_icmp_ge (tgt := 47) hx hb dX0_tryLast_18 (by decide) (fun c_12 => ?_) (fun c_12 => ?_)
              · skip
                have c_12 : 36 ≤ i := (nI_leI (a := 36) (b := i) (by omega) (by omega)).mp c_12
                refine lv_lload hx hb dX0_tryLast_47 (lv_at hl 4 rfl) ?_
                refine lv_aload_n hx hb dX0_tryLast_49 rfl (lv_at hl 0 rfl) ?_
                refine va_get (D := (dC, dI)) (ci := 2) (v := .long ft2) (C := RX0) (T := TX0) (N := 5) hx hb hts kc_xTryLast_0 hown hK hP 0 rfl rfl 0 (by decide) (hts (.fieldLink RX0 66 "MistHeaps$Chances" "foundTimes" "J") kc_xTryLast_1) (fun _ h9 => h9) rfl dX0_tryLast_50 ?_
                refine W.lcmp hx hb dX0_tryLast_53 ?_
                refine lv_if_le (tgt := 73) hx hb dX0_tryLast_54 (by decide) (fun c_13 => ?_) (fun c_13 => ?_)
                · skip
                  refine lv_iinc (v := 6) (lv' := [(3, .int 6), (0, .ref ch), (1, .ref fa), (2, .int x), (4, .long q), (6, .int (nI i))]) hx hb dX0_tryLast_73 hl (k := 3) rfl (by decide) (by decide) rfl (fun ls hl => ?_)
                  refine lv_goto (tgt := 2) hx hb dX0_tryLast_76 (by decide) ?_
                  exact ih2 (6) _ _ (by omega) (by omega) _ _ (hK.sub [0, 1, 2, 3, 4, 5, 6, 7, 8, 9] rfl) (hP.sub [0, 1, 2, 3, 4, 5, 6, 7, 8, 9, 10] rfl) (hD.sub [0, 1, 2, 3, 4, 5, 6, 7, 8, 9, 10] (by decide) rfl) hS ls (lv_sub hl [1, 2, 3, 0] rfl)
                · skip
                  refine lv_aload_n hx hb dX0_tryLast_57 rfl (lv_at hl 0 rfl) ?_
                  refine lv_lload hx hb dX0_tryLast_58 (lv_at hl 4 rfl) ?_
                  refine va_put (D := (dC, dI)) (ci := 2) (v := .long q) (ty := .long) (C := RX0) (T := TX0) (N := 5) hx hb hts kc_xTryLast_0 tyX0 tyX0_ok nmX0 hown hK hP hD hS 0 rfl rfl 0 (by decide) (hts (.fieldLink RX0 66 "MistHeaps$Chances" "foundTimes" "J") kc_xTryLast_1) (fun _ h9 => h9) rfl (by decide +kernel) rfl rfl (Nat.le_of_ble_eq_true rfl) dX0_tryLast_60 (fun H locs hP hD hS => ?_)
                  have hP : va_P (dC, dI) vwCl [(zo2lirrr ch q fr2 dr tO hO), (zaL fa cA1 36 ff), (zaR hO cHO 8 (fun i => if i < 8 then some (rh i) else none)), (zaI (rh 0) cH 36 g0), (zaI (rh 1) cH 36 g1), (zaI (rh 2) cH 36 g2), (zaI (rh 3) cH 36 g3), (zaI (rh 4) cH 36 g4), (zaI (rh 5) cH 36 g5), (zaI (rh 6) cH 36 g6), (zaI (rh 7) cH 36 g7)] H := hP
                  have hD : va_D A [(zo2lirrr ch q fr2 dr tO hO), (zaL fa cA1 36 ff), (zaR hO cHO 8 (fun i => if i < 8 then some (rh i) else none)), (zaI (rh 0) cH 36 g0), (zaI (rh 1) cH 36 g1), (zaI (rh 2) cH 36 g2), (zaI (rh 3) cH 36 g3), (zaI (rh 4) cH 36 g4), (zaI (rh 5) cH 36 g5), (zaI (rh 6) cH 36 g6), (zaI (rh 7) cH 36 g7)] := hD
                  refine lv_aload_n hx hb dX0_tryLast_63 rfl (lv_at hl 0 rfl) ?_
                  refine lv_iload_n hx hb dX0_tryLast_64 rfl (lv_at hl 2 rfl) ?_
                  refine lv_bipush (v := 8) hx hb dX0_tryLast_65 (by decide) ?_
                  refine lv_imul hx hb dX0_tryLast_67 ?_
                  refine lv_iload_n hx hb dX0_tryLast_68 rfl (lv_at hl 3 rfl) ?_
                  refine lv_iadd hx hb dX0_tryLast_69 ?_
                  refine va_put (D := (dC, dI)) (ci := 2) (v := .int ((x * 8) + 5)) (ty := .int) (C := RX0) (T := TX0) (N := 5) hx hb hts kc_xTryLast_0 tyX0 tyX0_ok nmX0 hown hK hP hD hS 0 rfl rfl 1 (by decide) (hts (.fieldLink RX0 77 "MistHeaps$Chances" "foundRow" "I") kc_xTryLast_2) (fun _ h9 => h9) rfl (by decide +kernel) rfl rfl (Nat.le_of_ble_eq_true rfl) dX0_tryLast_70 (fun H locs hP hD hS => ?_)
                  have hP : va_P (dC, dI) vwCl [(zo2lirrr ch q ((x * 8) + 5) dr tO hO), (zaL fa cA1 36 ff), (zaR hO cHO 8 (fun i => if i < 8 then some (rh i) else none)), (zaI (rh 0) cH 36 g0), (zaI (rh 1) cH 36 g1), (zaI (rh 2) cH 36 g2), (zaI (rh 3) cH 36 g3), (zaI (rh 4) cH 36 g4), (zaI (rh 5) cH 36 g5), (zaI (rh 6) cH 36 g6), (zaI (rh 7) cH 36 g7)] H := hP
                  have hD : va_D A [(zo2lirrr ch q ((x * 8) + 5) dr tO hO), (zaL fa cA1 36 ff), (zaR hO cHO 8 (fun i => if i < 8 then some (rh i) else none)), (zaI (rh 0) cH 36 g0), (zaI (rh 1) cH 36 g1), (zaI (rh 2) cH 36 g2), (zaI (rh 3) cH 36 g3), (zaI (rh 4) cH 36 g4), (zaI (rh 5) cH 36 g5), (zaI (rh 6) cH 36 g6), (zaI (rh 7) cH 36 g7)] := hD
                  refine lv_iinc (v := 6) (lv' := [(3, .int 6), (0, .ref ch), (1, .ref fa), (2, .int x), (4, .long q), (6, .int (nI i))]) hx hb dX0_tryLast_73 hl (k := 3) rfl (by decide) (by decide) rfl (fun ls hl => ?_)
                  refine lv_goto (tgt := 2) hx hb dX0_tryLast_76 (by decide) ?_
                  exact ih2 (6) _ _ (by omega) (by omega) _ _ (hK.sub [0, 1, 2, 3, 4, 5, 6, 7, 8, 9] rfl) (hP.sub [0, 1, 2, 3, 4, 5, 6, 7, 8, 9, 10] rfl) (hD.sub [0, 1, 2, 3, 4, 5, 6, 7, 8, 9, 10] (by decide) rfl) hS ls (lv_sub hl [1, 2, 3, 0] rfl)
              · skip
                have c_12 : ¬ 36 ≤ i := fun q => c_12 ((nI_leI (a := 36) (b := i) (by omega) (by omega)).mpr q)
                refine lv_lload hx hb dX0_tryLast_21 (lv_at hl 4 rfl) ?_
                refine lv_aload_n hx hb dX0_tryLast_23 rfl (lv_at hl 1 rfl) ?_
                refine lv_iload hx hb dX0_tryLast_24 (lv_at hl 5 rfl) ?_
                refine va_lald hx hb hK hP 1 0 rfl rfl (vp_in_nI (n := i) (N := 36) (by omega) (by omega)) dX0_tryLast_26 ?_
                refine ql_as (y := ff i) (by rw [nI_clamp (by omega)]) ?_
                refine lv_aload_n hx hb dX0_tryLast_27 rfl (lv_at hl 0 rfl) ?_
                refine va_get (D := (dC, dI)) (ci := 2) (v := .ref hO) (C := RX0) (T := TX0) (N := 5) hx hb hts kc_xTryLast_0 hown hK hP 0 rfl rfl 4 (by decide) (hts (.fieldLink RX0 22 "MistHeaps$Chances" "hits" "[[I") kc_xTryLast_3) (fun _ h9 => h9) rfl dX0_tryLast_28 ?_
                refine lv_iload_n hx hb dX0_tryLast_31 rfl (lv_at hl 3 rfl) ?_
                refine va_alda hx hb hK hP 2 1 rfl rfl (vp_in_nI (n := 5) (N := 8) (by omega) (by omega)) dX0_tryLast_32 ?_
                refine qq_as (v := .ref (rh 5)) (rfl) ?_
                refine lv_iload hx hb dX0_tryLast_33 (lv_at hl 5 rfl) ?_
                refine va_iald hx hb hK hP 8 7 rfl rfl (vp_in_nI (n := i) (N := 36) (by omega) (by omega)) dX0_tryLast_35 ?_
                refine qi_as (y := g5 i) (by rw [nI_clamp (by omega)]) ?_
                refine lv_i2l (v := (g5 i).toInt64) hx hb dX0_tryLast_36 (rfl) ?_
                refine lv_lmul hx hb dX0_tryLast_37 ?_
                refine lv_ladd hx hb dX0_tryLast_38 ?_
                refine lv_lstore (lv' := [(4, .long (q + ((ff i) * ((g5 i).toInt64)))), (0, .ref ch), (1, .ref fa), (2, .int x), (3, .int 5), (6, .int (nI i))]) hx hb dX0_tryLast_39 hl (by decide) rfl (fun ls hl => ?_)
                refine lv_iinc (v := nI (i + 1)) (lv' := [(6, .int (nI (i + 1))), (4, .long (q + ((ff i) * ((g5 i).toInt64)))), (0, .ref ch), (1, .ref fa), (2, .int x), (3, .int 5)]) hx hb dX0_tryLast_41 hl (k := 5) rfl (nI_add i 1) (by decide) rfl (fun ls hl => ?_)
                refine lv_goto (tgt := 14) hx hb dX0_tryLast_44 (by decide) ?_
                exact ih14 (i + 1) _ (by omega) (by omega) _ _ (hK.sub [0, 1, 2, 3, 4, 5, 6, 7, 8, 9] rfl) (hP.sub [0, 1, 2, 3, 4, 5, 6, 7, 8, 9, 10] rfl) (hD.sub [0, 1, 2, 3, 4, 5, 6, 7, 8, 9, 10] (by decide) rfl) hS ls (lv_sub hl [2, 3, 4, 5, 1, 0] rfl)
          exact L14 _ (0) _ (Nat.lt_succ_self _) (by omega) _ _ (hK.sub [0, 1, 2, 3, 4, 5, 6, 7, 8, 9] rfl) (hP.sub [0, 1, 2, 3, 4, 5, 6, 7, 8, 9, 10] rfl) (hD.sub [0, 1, 2, 3, 4, 5, 6, 7, 8, 9, 10] (by decide) rfl) hS ls (lv_sub hl [2, 3, 4, 5, 1, 0] rfl)
        · skip
          refine lv_lconst (v := 0) hx hb dX0_tryLast_8 (by decide) ?_
          refine lv_lstore (lv' := [(4, .long 0), (0, .ref ch), (1, .ref fa), (2, .int x), (3, .int 6)]) hx hb dX0_tryLast_9 hl (by decide) rfl (fun ls hl => ?_)
          refine lv_iconst (v := 0) hx hb dX0_tryLast_11 (by decide) ?_
          refine lv_istore (lv' := [(6, .int 0), (4, .long 0), (0, .ref ch), (1, .ref fa), (2, .int x), (3, .int 6)]) hx hb dX0_tryLast_12 hl (by decide) rfl (fun ls hl => ?_)
          have L14 : ∀ (nF : Nat) (i : Nat) (q : Int64), 36 - i < nF → (i ≤ 36) → ∀ (H : Heap) (locs : List Loc), va_K (dC, dI) vwCl [(cA1, .long), (cHO, .array .int), (cH, .int), (cH, .int), (cH, .int), (cH, .int), (cH, .int), (cH, .int), (cH, .int), (cH, .int)] s → va_P (dC, dI) vwCl [(zo2lirrr ch ft2 fr2 dr tO hO), (zaL fa cA1 36 ff), (zaR hO cHO 8 (fun i => if i < 8 then some (rh i) else none)), (zaI (rh 0) cH 36 g0), (zaI (rh 1) cH 36 g1), (zaI (rh 2) cH 36 g2), (zaI (rh 3) cH 36 g3), (zaI (rh 4) cH 36 g4), (zaI (rh 5) cH 36 g5), (zaI (rh 6) cH 36 g6), (zaI (rh 7) cH 36 g7)] H → va_D A [(zo2lirrr ch ft2 fr2 dr tO hO), (zaL fa cA1 36 ff), (zaR hO cHO 8 (fun i => if i < 8 then some (rh i) else none)), (zaI (rh 0) cH 36 g0), (zaI (rh 1) cH 36 g1), (zaI (rh 2) cH 36 g2), (zaI (rh 3) cH 36 g3), (zaI (rh 4) cH 36 g4), (zaI (rh 5) cH 36 g5), (zaI (rh 6) cH 36 g6), (zaI (rh 7) cH 36 g7)] → va_S A s.heap H locs → ∀ (ls : Array Slot), lv_has ls 7 [(0, .ref ch), (1, .ref fa), (2, .int x), (3, .int 6), (4, .long q), (6, .int (nI i))] → W p l e ({ frames := 0, cells := 0, slots := 0, locals := 0 } : Room) s m args below meth c H locs 0 0 Q (F0 m 14 ls []) := by
            intro nF
            induction nF with
            | zero => intro i q hm; exact absurd hm (Nat.not_lt_zero _)
            | succ nF ih14 =>
              intro i q hm hi H locs hK hP hD hS ls hl
              refine lv_iload hx hb dX0_tryLast_14 (lv_at hl 5 rfl) ?_
              refine lv_bipush (v := 36) hx hb dX0_tryLast_16 (by decide) ?_
              refine lv_icmp_ge (tgt := 47) hx hb dX0_tryLast_18 (by decide) (fun c_14 => ?_) (fun c_14 => ?_)
              · skip
                have c_14 : 36 ≤ i := (nI_leI (a := 36) (b := i) (by omega) (by omega)).mp c_14
                refine lv_lload hx hb dX0_tryLast_47 (lv_at hl 4 rfl) ?_
                refine lv_aload_n hx hb dX0_tryLast_49 rfl (lv_at hl 0 rfl) ?_
                refine va_get (D := (dC, dI)) (ci := 2) (v := .long ft2) (C := RX0) (T := TX0) (N := 5) hx hb hts kc_xTryLast_0 hown hK hP 0 rfl rfl 0 (by decide) (hts (.fieldLink RX0 66 "MistHeaps$Chances" "foundTimes" "J") kc_xTryLast_1) (fun _ h9 => h9) rfl dX0_tryLast_50 ?_
                refine W.lcmp hx hb dX0_tryLast_53 ?_
                refine lv_if_le (tgt := 73) hx hb dX0_tryLast_54 (by decide) (fun c_15 => ?_) (fun c_15 => ?_)
                · skip
                  refine lv_iinc (v := 7) (lv' := [(3, .int 7), (0, .ref ch), (1, .ref fa), (2, .int x), (4, .long q), (6, .int (nI i))]) hx hb dX0_tryLast_73 hl (k := 3) rfl (by decide) (by decide) rfl (fun ls hl => ?_)
                  refine lv_goto (tgt := 2) hx hb dX0_tryLast_76 (by decide) ?_
                  exact ih2 (7) _ _ (by omega) (by omega) _ _ (hK.sub [0, 1, 2, 3, 4, 5, 6, 7, 8, 9] rfl) (hP.sub [0, 1, 2, 3, 4, 5, 6, 7, 8, 9, 10] rfl) (hD.sub [0, 1, 2, 3, 4, 5, 6, 7, 8, 9, 10] (by decide) rfl) hS ls (lv_sub hl [1, 2, 3, 0] rfl)
                · skip
                  refine lv_aload_n hx hb dX0_tryLast_57 rfl (lv_at hl 0 rfl) ?_
                  refine lv_lload hx hb dX0_tryLast_58 (lv_at hl 4 rfl) ?_
                  refine va_put (D := (dC, dI)) (ci := 2) (v := .long q) (ty := .long) (C := RX0) (T := TX0) (N := 5) hx hb hts kc_xTryLast_0 tyX0 tyX0_ok nmX0 hown hK hP hD hS 0 rfl rfl 0 (by decide) (hts (.fieldLink RX0 66 "MistHeaps$Chances" "foundTimes" "J") kc_xTryLast_1) (fun _ h9 => h9) rfl (by decide +kernel) rfl rfl (Nat.le_of_ble_eq_true rfl) dX0_tryLast_60 (fun H locs hP hD hS => ?_)
                  have hP : va_P (dC, dI) vwCl [(zo2lirrr ch q fr2 dr tO hO), (zaL fa cA1 36 ff), (zaR hO cHO 8 (fun i => if i < 8 then some (rh i) else none)), (zaI (rh 0) cH 36 g0), (zaI (rh 1) cH 36 g1), (zaI (rh 2) cH 36 g2), (zaI (rh 3) cH 36 g3), (zaI (rh 4) cH 36 g4), (zaI (rh 5) cH 36 g5), (zaI (rh 6) cH 36 g6), (zaI (rh 7) cH 36 g7)] H := hP
                  have hD : va_D A [(zo2lirrr ch q fr2 dr tO hO), (zaL fa cA1 36 ff), (zaR hO cHO 8 (fun i => if i < 8 then some (rh i) else none)), (zaI (rh 0) cH 36 g0), (zaI (rh 1) cH 36 g1), (zaI (rh 2) cH 36 g2), (zaI (rh 3) cH 36 g3), (zaI (rh 4) cH 36 g4), (zaI (rh 5) cH 36 g5), (zaI (rh 6) cH 36 g6), (zaI (rh 7) cH 36 g7)] := hD
                  refine lv_aload_n hx hb dX0_tryLast_63 rfl (lv_at hl 0 rfl) ?_
                  refine lv_iload_n hx hb dX0_tryLast_64 rfl (lv_at hl 2 rfl) ?_
                  refine lv_bipush (v := 8) hx hb dX0_tryLast_65 (by decide) ?_
                  refine lv_imul hx hb dX0_tryLast_67 ?_
                  refine lv_iload_n hx hb dX0_tryLast_68 rfl (lv_at hl 3 rfl) ?_
                  refine lv_iadd hx hb dX0_tryLast_69 ?_
                  refine va_put (D := (dC, dI)) (ci := 2) (v := .int ((x * 8) + 6)) (ty := .int) (C := RX0) (T := TX0) (N := 5) hx hb hts kc_xTryLast_0 tyX0 tyX0_ok nmX0 hown hK hP hD hS 0 rfl rfl 1 (by decide) (hts (.fieldLink RX0 77 "MistHeaps$Chances" "foundRow" "I") kc_xTryLast_2) (fun _ h9 => h9) rfl (by decide +kernel) rfl rfl (Nat.le_of_ble_eq_true rfl) dX0_tryLast_70 (fun H locs hP hD hS => ?_)
                  have hP : va_P (dC, dI) vwCl [(zo2lirrr ch q ((x * 8) + 6) dr tO hO), (zaL fa cA1 36 ff), (zaR hO cHO 8 (fun i => if i < 8 then some (rh i) else none)), (zaI (rh 0) cH 36 g0), (zaI (rh 1) cH 36 g1), (zaI (rh 2) cH 36 g2), (zaI (rh 3) cH 36 g3), (zaI (rh 4) cH 36 g4), (zaI (rh 5) cH 36 g5), (zaI (rh 6) cH 36 g6), (zaI (rh 7) cH 36 g7)] H := hP
                  have hD : va_D A [(zo2lirrr ch q ((x * 8) + 6) dr tO hO), (zaL fa cA1 36 ff), (zaR hO cHO 8 (fun i => if i < 8 then some (rh i) else none)), (zaI (rh 0) cH 36 g0), (zaI (rh 1) cH 36 g1), (zaI (rh 2) cH 36 g2), (zaI (rh 3) cH 36 g3), (zaI (rh 4) cH 36 g4), (zaI (rh 5) cH 36 g5), (zaI (rh 6) cH 36 g6), (zaI (rh 7) cH 36 g7)] := hD
                  refine lv_iinc (v := 7) (lv' := [(3, .int 7), (0, .ref ch), (1, .ref fa), (2, .int x), (4, .long q), (6, .int (nI i))]) hx hb dX0_tryLast_73 hl (k := 3) rfl (by decide) (by decide) rfl (fun ls hl => ?_)
                  refine lv_goto (tgt := 2) hx hb dX0_tryLast_76 (by decide) ?_
                  exact ih2 (7) _ _ (by omega) (by omega) _ _ (hK.sub [0, 1, 2, 3, 4, 5, 6, 7, 8, 9] rfl) (hP.sub [0, 1, 2, 3, 4, 5, 6, 7, 8, 9, 10] rfl) (hD.sub [0, 1, 2, 3, 4, 5, 6, 7, 8, 9, 10] (by decide) rfl) hS ls (lv_sub hl [1, 2, 3, 0] rfl)
              · skip
                have c_14 : ¬ 36 ≤ i := fun q => c_14 ((nI_leI (a := 36) (b := i) (by omega) (by omega)).mpr q)
                refine lv_lload hx hb dX0_tryLast_21 (lv_at hl 4 rfl) ?_
                refine lv_aload_n hx hb dX0_tryLast_23 rfl (lv_at hl 1 rfl) ?_
                refine lv_iload hx hb dX0_tryLast_24 (lv_at hl 5 rfl) ?_
                refine va_lald hx hb hK hP 1 0 rfl rfl (vp_in_nI (n := i) (N := 36) (by omega) (by omega)) dX0_tryLast_26 ?_
                refine ql_as (y := ff i) (by rw [nI_clamp (by omega)]) ?_
                refine lv_aload_n hx hb dX0_tryLast_27 rfl (lv_at hl 0 rfl) ?_
                refine va_get (D := (dC, dI)) (ci := 2) (v := .ref hO) (C := RX0) (T := TX0) (N := 5) hx hb hts kc_xTryLast_0 hown hK hP 0 rfl rfl 4 (by decide) (hts (.fieldLink RX0 22 "MistHeaps$Chances" "hits" "[[I") kc_xTryLast_3) (fun _ h9 => h9) rfl dX0_tryLast_28 ?_
                refine lv_iload_n hx hb dX0_tryLast_31 rfl (lv_at hl 3 rfl) ?_
                refine va_alda hx hb hK hP 2 1 rfl rfl (vp_in_nI (n := 6) (N := 8) (by omega) (by omega)) dX0_tryLast_32 ?_
                refine qq_as (v := .ref (rh 6)) (rfl) ?_
                refine lv_iload hx hb dX0_tryLast_33 (lv_at hl 5 rfl) ?_
                refine va_iald hx hb hK hP 9 8 rfl rfl (vp_in_nI (n := i) (N := 36) (by omega) (by omega)) dX0_tryLast_35 ?_
                refine qi_as (y := g6 i) (by rw [nI_clamp (by omega)]) ?_
                refine lv_i2l (v := (g6 i).toInt64) hx hb dX0_tryLast_36 (rfl) ?_
                refine lv_lmul hx hb dX0_tryLast_37 ?_
                refine lv_ladd hx hb dX0_tryLast_38 ?_
                refine lv_lstore (lv' := [(4, .long (q + ((ff i) * ((g6 i).toInt64)))), (0, .ref ch), (1, .ref fa), (2, .int x), (3, .int 6), (6, .int (nI i))]) hx hb dX0_tryLast_39 hl (by decide) rfl (fun ls hl => ?_)
                refine lv_iinc (v := nI (i + 1)) (lv' := [(6, .int (nI (i + 1))), (4, .long (q + ((ff i) * ((g6 i).toInt64)))), (0, .ref ch), (1, .ref fa), (2, .int x), (3, .int 6)]) hx hb dX0_tryLast_41 hl (k := 5) rfl (nI_add i 1) (by decide) rfl (fun ls hl => ?_)
                refine lv_goto (tgt := 14) hx hb dX0_tryLast_44 (by decide) ?_
                exact ih14 (i + 1) _ (by omega) (by omega) _ _ (hK.sub [0, 1, 2, 3, 4, 5, 6, 7, 8, 9] rfl) (hP.sub [0, 1, 2, 3, 4, 5, 6, 7, 8, 9, 10] rfl) (hD.sub [0, 1, 2, 3, 4, 5, 6, 7, 8, 9, 10] (by decide) rfl) hS ls (lv_sub hl [2, 3, 4, 5, 1, 0] rfl)
          exact L14 _ (0) _ (Nat.lt_succ_self _) (by omega) _ _ (hK.sub [0, 1, 2, 3, 4, 5, 6, 7, 8, 9] rfl) (hP.sub [0, 1, 2, 3, 4, 5, 6, 7, 8, 9, 10] rfl) (hD.sub [0, 1, 2, 3, 4, 5, 6, 7, 8, 9, 10] (by decide) rfl) hS ls (lv_sub hl [2, 3, 4, 5, 1, 0] rfl)
        · skip
          refine lv_lconst (v := 0) hx hb dX0_tryLast_8 (by decide) ?_
          refine lv_lstore (lv' := [(4, .long 0), (0, .ref ch), (1, .ref fa), (2, .int x), (3, .int 7)]) hx hb dX0_tryLast_9 hl (by decide) rfl (fun ls hl => ?_)
          refine lv_iconst (v := 0) hx hb dX0_tryLast_11 (by decide) ?_
          refine lv_istore (lv' := [(6, .int 0), (4, .long 0), (0, .ref ch), (1, .ref fa), (2, .int x), (3, .int 7)]) hx hb dX0_tryLast_12 hl (by decide) rfl (fun ls hl => ?_)
          have L14 : ∀ (nF : Nat) (i : Nat) (q : Int64), 36 - i < nF → (i ≤ 36) → ∀ (H : Heap) (locs : List Loc), va_K (dC, dI) vwCl [(cA1, .long), (cHO, .array .int), (cH, .int), (cH, .int), (cH, .int), (cH, .int), (cH, .int), (cH, .int), (cH, .int), (cH, .int)] s → va_P (dC, dI) vwCl [(zo2lirrr ch ft2 fr2 dr tO hO), (zaL fa cA1 36 ff), (zaR hO cHO 8 (fun i => if i < 8 then some (rh i) else none)), (zaI (rh 0) cH 36 g0), (zaI (rh 1) cH 36 g1), (zaI (rh 2) cH 36 g2), (zaI (rh 3) cH 36 g3), (zaI (rh 4) cH 36 g4), (zaI (rh 5) cH 36 g5), (zaI (rh 6) cH 36 g6), (zaI (rh 7) cH 36 g7)] H → va_D A [(zo2lirrr ch ft2 fr2 dr tO hO), (zaL fa cA1 36 ff), (zaR hO cHO 8 (fun i => if i < 8 then some (rh i) else none)), (zaI (rh 0) cH 36 g0), (zaI (rh 1) cH 36 g1), (zaI (rh 2) cH 36 g2), (zaI (rh 3) cH 36 g3), (zaI (rh 4) cH 36 g4), (zaI (rh 5) cH 36 g5), (zaI (rh 6) cH 36 g6), (zaI (rh 7) cH 36 g7)] → va_S A s.heap H locs → ∀ (ls : Array Slot), lv_has ls 7 [(0, .ref ch), (1, .ref fa), (2, .int x), (3, .int 7), (4, .long q), (6, .int (nI i))] → W p l e ({ frames := 0, cells := 0, slots := 0, locals := 0 } : Room) s m args below meth c H locs 0 0 Q (F0 m 14 ls []) := by
            intro nF
            induction nF with
            | zero => intro i q hm; exact absurd hm (Nat.not_lt_zero _)
            | succ nF ih14 =>
              intro i q hm hi H locs hK hP hD hS ls hl
              refine lv_iload hx hb dX0_tryLast_14 (lv_at hl 5 rfl) ?_
              refine lv_bipush (v := 36) hx hb dX0_tryLast_16 (by decide) ?_
              refine lv_icmp_ge (tgt := 47) hx hb dX0_tryLast_18 (by decide) (fun c_16 => ?_) (fun c_16 => ?_)
              · skip
                have c_16 : 36 ≤ i := (nI_leI (a := 36) (b := i) (by omega) (by omega)).mp c_16
                refine lv_lload hx hb dX0_tryLast_47 (lv_at hl 4 rfl) ?_
                refine lv_aload_n hx hb dX0_tryLast_49 rfl (lv_at hl 0 rfl) ?_
                refine va_get (D := (dC, dI)) (ci := 2) (v := .long ft2) (C := RX0) (T := TX0) (N := 5) hx hb hts kc_xTryLast_0 hown hK hP 0 rfl rfl 0 (by decide) (hts (.fieldLink RX0 66 "MistHeaps$Chances" "foundTimes" "J") kc_xTryLast_1) (fun _ h9 => h9) rfl dX0_tryLast_50 ?_
                refine W.lcmp hx hb dX0_tryLast_53 ?_
                refine lv_if_le (tgt := 73) hx hb dX0_tryLast_54 (by decide) (fun c_17 => ?_) (fun c_17 => ?_)
                · skip
                  refine lv_iinc (v := 8) (lv' := [(3, .int 8), (0, .ref ch), (1, .ref fa), (2, .int x), (4, .long q), (6, .int (nI i))]) hx hb dX0_tryLast_73 hl (k := 3) rfl (by decide) (by decide) rfl (fun ls hl => ?_)
                  refine lv_goto (tgt := 2) hx hb dX0_tryLast_76 (by decide) ?_
                  exact ih2 (8) _ _ (by omega) (by omega) _ _ (hK.sub [0, 1, 2, 3, 4, 5, 6, 7, 8, 9] rfl) (hP.sub [0, 1, 2, 3, 4, 5, 6, 7, 8, 9, 10] rfl) (hD.sub [0, 1, 2, 3, 4, 5, 6, 7, 8, 9, 10] (by decide) rfl) hS ls (lv_sub hl [1, 2, 3, 0] rfl)
                · skip
                  refine lv_aload_n hx hb dX0_tryLast_57 rfl (lv_at hl 0 rfl) ?_
                  refine lv_lload hx hb dX0_tryLast_58 (lv_at hl 4 rfl) ?_
                  refine va_put (D := (dC, dI)) (ci := 2) (v := .long q) (ty := .long) (C := RX0) (T := TX0) (N := 5) hx hb hts kc_xTryLast_0 tyX0 tyX0_ok nmX0 hown hK hP hD hS 0 rfl rfl 0 (by decide) (hts (.fieldLink RX0 66 "MistHeaps$Chances" "foundTimes" "J") kc_xTryLast_1) (fun _ h9 => h9) rfl (by decide +kernel) rfl rfl (Nat.le_of_ble_eq_true rfl) dX0_tryLast_60 (fun H locs hP hD hS => ?_)
                  have hP : va_P (dC, dI) vwCl [(zo2lirrr ch q fr2 dr tO hO), (zaL fa cA1 36 ff), (zaR hO cHO 8 (fun i => if i < 8 then some (rh i) else none)), (zaI (rh 0) cH 36 g0), (zaI (rh 1) cH 36 g1), (zaI (rh 2) cH 36 g2), (zaI (rh 3) cH 36 g3), (zaI (rh 4) cH 36 g4), (zaI (rh 5) cH 36 g5), (zaI (rh 6) cH 36 g6), (zaI (rh 7) cH 36 g7)] H := hP
                  have hD : va_D A [(zo2lirrr ch q fr2 dr tO hO), (zaL fa cA1 36 ff), (zaR hO cHO 8 (fun i => if i < 8 then some (rh i) else none)), (zaI (rh 0) cH 36 g0), (zaI (rh 1) cH 36 g1), (zaI (rh 2) cH 36 g2), (zaI (rh 3) cH 36 g3), (zaI (rh 4) cH 36 g4), (zaI (rh 5) cH 36 g5), (zaI (rh 6) cH 36 g6), (zaI (rh 7) cH 36 g7)] := hD
                  refine lv_aload_n hx hb dX0_tryLast_63 rfl (lv_at hl 0 rfl) ?_
                  refine lv_iload_n hx hb dX0_tryLast_64 rfl (lv_at hl 2 rfl) ?_
                  refine lv_bipush (v := 8) hx hb dX0_tryLast_65 (by decide) ?_
                  refine lv_imul hx hb dX0_tryLast_67 ?_
                  refine lv_iload_n hx hb dX0_tryLast_68 rfl (lv_at hl 3 rfl) ?_
                  refine lv_iadd hx hb dX0_tryLast_69 ?_
                  refine va_put (D := (dC, dI)) (ci := 2) (v := .int ((x * 8) + 7)) (ty := .int) (C := RX0) (T := TX0) (N := 5) hx hb hts kc_xTryLast_0 tyX0 tyX0_ok nmX0 hown hK hP hD hS 0 rfl rfl 1 (by decide) (hts (.fieldLink RX0 77 "MistHeaps$Chances" "foundRow" "I") kc_xTryLast_2) (fun _ h9 => h9) rfl (by decide +kernel) rfl rfl (Nat.le_of_ble_eq_true rfl) dX0_tryLast_70 (fun H locs hP hD hS => ?_)
                  have hP : va_P (dC, dI) vwCl [(zo2lirrr ch q ((x * 8) + 7) dr tO hO), (zaL fa cA1 36 ff), (zaR hO cHO 8 (fun i => if i < 8 then some (rh i) else none)), (zaI (rh 0) cH 36 g0), (zaI (rh 1) cH 36 g1), (zaI (rh 2) cH 36 g2), (zaI (rh 3) cH 36 g3), (zaI (rh 4) cH 36 g4), (zaI (rh 5) cH 36 g5), (zaI (rh 6) cH 36 g6), (zaI (rh 7) cH 36 g7)] H := hP
                  have hD : va_D A [(zo2lirrr ch q ((x * 8) + 7) dr tO hO), (zaL fa cA1 36 ff), (zaR hO cHO 8 (fun i => if i < 8 then some (rh i) else none)), (zaI (rh 0) cH 36 g0), (zaI (rh 1) cH 36 g1), (zaI (rh 2) cH 36 g2), (zaI (rh 3) cH 36 g3), (zaI (rh 4) cH 36 g4), (zaI (rh 5) cH 36 g5), (zaI (rh 6) cH 36 g6), (zaI (rh 7) cH 36 g7)] := hD
                  refine lv_iinc (v := 8) (lv' := [(3, .int 8), (0, .ref ch), (1, .ref fa), (2, .int x), (4, .long q), (6, .int (nI i))]) hx hb dX0_tryLast_73 hl (k := 3) rfl (by decide) (by decide) rfl (fun ls hl => ?_)
                  refine lv_goto (tgt := 2) hx hb dX0_tryLast_76 (by decide) ?_
                  exact ih2 (8) _ _ (by omega) (by omega) _ _ (hK.sub [0, 1, 2, 3, 4, 5, 6, 7, 8, 9] rfl) (hP.sub [0, 1, 2, 3, 4, 5, 6, 7, 8, 9, 10] rfl) (hD.sub [0, 1, 2, 3, 4, 5, 6, 7, 8, 9, 10] (by decide) rfl) hS ls (lv_sub hl [1, 2, 3, 0] rfl)
              · skip
                have c_16 : ¬ 36 ≤ i := fun q => c_16 ((nI_leI (a := 36) (b := i) (by omega) (by omega)).mpr q)
                refine lv_lload hx hb dX0_tryLast_21 (lv_at hl 4 rfl) ?_
                refine lv_aload_n hx hb dX0_tryLast_23 rfl (lv_at hl 1 rfl) ?_
                refine lv_iload hx hb dX0_tryLast_24 (lv_at hl 5 rfl) ?_
                refine va_lald hx hb hK hP 1 0 rfl rfl (vp_in_nI (n := i) (N := 36) (by omega) (by omega)) dX0_tryLast_26 ?_
                refine ql_as (y := ff i) (by rw [nI_clamp (by omega)]) ?_
                refine lv_aload_n hx hb dX0_tryLast_27 rfl (lv_at hl 0 rfl) ?_
                refine va_get (D := (dC, dI)) (ci := 2) (v := .ref hO) (C := RX0) (T := TX0) (N := 5) hx hb hts kc_xTryLast_0 hown hK hP 0 rfl rfl 4 (by decide) (hts (.fieldLink RX0 22 "MistHeaps$Chances" "hits" "[[I") kc_xTryLast_3) (fun _ h9 => h9) rfl dX0_tryLast_28 ?_
                refine lv_iload_n hx hb dX0_tryLast_31 rfl (lv_at hl 3 rfl) ?_
                refine va_alda hx hb hK hP 2 1 rfl rfl (vp_in_nI (n := 7) (N := 8) (by omega) (by omega)) dX0_tryLast_32 ?_
                refine qq_as (v := .ref (rh 7)) (rfl) ?_
                refine lv_iload hx hb dX0_tryLast_33 (lv_at hl 5 rfl) ?_
                refine va_iald hx hb hK hP 10 9 rfl rfl (vp_in_nI (n := i) (N := 36) (by omega) (by omega)) dX0_tryLast_35 ?_
                refine qi_as (y := g7 i) (by rw [nI_clamp (by omega)]) ?_
                refine lv_i2l (v := (g7 i).toInt64) hx hb dX0_tryLast_36 (rfl) ?_
                refine lv_lmul hx hb dX0_tryLast_37 ?_
                refine lv_ladd hx hb dX0_tryLast_38 ?_
                refine lv_lstore (lv' := [(4, .long (q + ((ff i) * ((g7 i).toInt64)))), (0, .ref ch), (1, .ref fa), (2, .int x), (3, .int 7), (6, .int (nI i))]) hx hb dX0_tryLast_39 hl (by decide) rfl (fun ls hl => ?_)
                refine lv_iinc (v := nI (i + 1)) (lv' := [(6, .int (nI (i + 1))), (4, .long (q + ((ff i) * ((g7 i).toInt64)))), (0, .ref ch), (1, .ref fa), (2, .int x), (3, .int 7)]) hx hb dX0_tryLast_41 hl (k := 5) rfl (nI_add i 1) (by decide) rfl (fun ls hl => ?_)
                refine lv_goto (tgt := 14) hx hb dX0_tryLast_44 (by decide) ?_
                exact ih14 (i + 1) _ (by omega) (by omega) _ _ (hK.sub [0, 1, 2, 3, 4, 5, 6, 7, 8, 9] rfl) (hP.sub [0, 1, 2, 3, 4, 5, 6, 7, 8, 9, 10] rfl) (hD.sub [0, 1, 2, 3, 4, 5, 6, 7, 8, 9, 10] (by decide) rfl) hS ls (lv_sub hl [2, 3, 4, 5, 1, 0] rfl)
          exact L14 _ (0) _ (Nat.lt_succ_self _) (by omega) _ _ (hK.sub [0, 1, 2, 3, 4, 5, 6, 7, 8, 9] rfl) (hP.sub [0, 1, 2, 3, 4, 5, 6, 7, 8, 9, 10] rfl) (hD.sub [0, 1, 2, 3, 4, 5, 6, 7, 8, 9, 10] (by decide) rfl) hS ls (lv_sub hl [2, 3, 4, 5, 1, 0] rfl)
  exact L2 _ (0) _ _ (Nat.lt_succ_self _) (by omega) _ _ (hK.sub [0, 1, 2, 3, 4, 5, 6, 7, 8, 9] rfl) (hP.sub [0, 1, 2, 3, 4, 5, 6, 7, 8, 9, 10] rfl) (hD.sub [0, 1, 2, 3, 4, 5, 6, 7, 8, 9, 10] (by decide) rfl) hS ls (lv_sub hl [1, 2, 3, 0] rfl)

theorem kc_xFoundWay_0 : ∀ w ∈ wsX00, w ∈ wsX0_foundWay := fun w h => List.mem_cons_of_mem _ (gin_wsX00 w h)
theorem kc_xFoundWay_1 : (.fieldLink RX0 77 "MistHeaps$Chances" "foundRow" "I" : Cond) ∈ wsX0_foundWay := kc_of 286 rfl rfl rfl
set_option maxHeartbeats 4000000 in
set_option maxRecDepth 100000 in
theorem c_xFoundWay (l : Launch) (dC : Nat → ClassId) (dI : Nat → Nat → Nat) (ch : Nat) (dr : Nat) (tO : Nat) (hO : Nat) (fr : Int32) (x : Int32) (y : Int32) (ft : Int64) : Met l yX0_foundWay wsX0_foundWay ({ frames := 0, cells := 0, slots := 0, locals := 0 } : Room) (va_Pc [.ref ch, .int x, .int y] (fun U => va_P (dC, dI) vwCl [(zo2lirrr ch ft fr dr tO hO)] U.heap ∧ va_K (dC, dI) vwCl [] U)) (vp_Si (fun r => True)) 0 0 (fun _ => False) := by
  refine met_ofQ (cc := cX0_foundWay) (maxL := 3) (ret := (some .int)) (by decide) rfl ?_
  intro p e s m args below meth c s₁ Q B hml hv hQ
  obtain ⟨rfl, hP, hK⟩ := hv
  have hx := B.exec
  have hb := B.bytes
  have hr := B.returns
  have hts := atoms_spec (ws := wsX0_foundWay) B.pre
  have hown : s.vm.findClass RX0 = some m.cls := findClass_of_methodNamed B.named
  have hlocks := B.notSynchronized
  obtain ⟨A, hAe⟩ : ∃ A : Nat → Prop, A = fun _ => False := ⟨_, rfl⟩
  rw [← hAe] at hQ
  have hS : va_S A s.heap s.heap [] := va_S.rf
  have hl := lv_entry [.ref ch, .int x, .int y] (n := 3) (Nat.le_of_ble_eq_true rfl)
  rw [lg_entry_eq]
  generalize (lg_sl [.ref ch, .int x, .int y] ++ List.replicate (3 - (lg_sl [.ref ch, .int x, .int y]).length) Slot.unset).toArray = ls at hl ⊢
  generalize hag : ([.ref ch, .int x, .int y] : List Value).toArray = args at hts hQ ⊢
  have hl : lv_has ls 3 [(0, .ref ch), (1, .int x), (2, .int y)] := hl
  refine lv_aload_n hx hb dX0_foundWay_0 rfl (lv_at hl 0 rfl) ?_
  refine va_get (D := (dC, dI)) (ci := 2) (v := .int fr) (C := RX0) (T := TX0) (N := 5) hx hb hts kc_xFoundWay_0 hown hK hP 0 rfl rfl 1 (by decide) (hts (.fieldLink RX0 77 "MistHeaps$Chances" "foundRow" "I") kc_xFoundWay_1) (fun _ h9 => h9) rfl dX0_foundWay_1 ?_
  refine lv_iconst (v := 3) hx hb dX0_foundWay_4 (by decide) ?_
  refine lv_iload_n hx hb dX0_foundWay_5 rfl (lv_at hl 1 rfl) ?_
  refine lv_iconst (v := 1) hx hb dX0_foundWay_6 (by decide) ?_
  refine lv_isub hx hb dX0_foundWay_7 ?_
  refine lv_iload_n hx hb dX0_foundWay_8 rfl (lv_at hl 2 rfl) ?_
  refine lv_isub hx hb dX0_foundWay_9 ?_
  refine lv_imul hx hb dX0_foundWay_10 ?_
  refine lv_ishr hx hb dX0_foundWay_11 ?_
  refine lv_bipush (v := 7) hx hb dX0_foundWay_12 (by decide) ?_
  refine lv_iand hx hb dX0_foundWay_14 ?_
  rw [hQ]
  exact W.iret (v := (fr >>> ((3 * ((x - 1) - y)) &&& 31)) &&& 7) hx hb hr (fun tQ htQ hWQ => ⟨(fr >>> ((3 * ((x - 1) - y)) &&& 31)) &&& 7, rfl, trivial, by rw [htQ]⟩) (fun q hq => absurd hq List.not_mem_nil) dX0_foundWay_15
