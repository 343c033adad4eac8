theorem ggX5_read_X5_readWord : GoodIn wsX5_read wsX5_readWord := gga_of 365 rfl rfl rfl
theorem gX5_read_X5_readWord : GoodIn wsX5_read (wsV RX5 40 RX5 yX5_readWord wsX5_readWord) := goodIn_app (ggh_of [362, 364, 0, 65] rfl rfl rfl) ggX5_read_X5_readWord
theorem ggX5_read_X5_readNumber : GoodIn wsX5_read wsX5_readNumber := gga_of 431 rfl rfl rfl
theorem gX5_read_X5_readNumber : GoodIn wsX5_read (wsV RX5 44 RX5 yX5_readNumber wsX5_readNumber) := goodIn_app (ggh_of [428, 430, 2, 65] rfl rfl rfl) ggX5_read_X5_readNumber
theorem ggX5_read_X5_readSign : GoodIn wsX5_read wsX5_readSign := gga_of 442 rfl rfl rfl
theorem gX5_read_X5_readSign : GoodIn wsX5_read (wsV RX5 51 RX5 yX5_readSign wsX5_readSign) := goodIn_app (ggh_of [439, 441, 4, 65] rfl rfl rfl) ggX5_read_X5_readSign
theorem ggX5_read_X5_readEither : GoodIn wsX5_read wsX5_readEither := gga_of 446 rfl rfl rfl
theorem gX5_read_X5_readEither : GoodIn wsX5_read (wsV RX5 55 RX5 yX5_readEither wsX5_readEither) := goodIn_app (ggh_of [443, 445, 5, 65] rfl rfl rfl) ggX5_read_X5_readEither
noncomputable def dk18apub_cX8_copyFrom_0 : List (Nat × Instr × Nat) := [(0, .aload_n 1, 1), (1, .getfield 9, 3), (4, .iconst 0, 1), (5, .aload_n 0, 1), (6, .getfield 9, 3), (9, .iconst 0, 1), (10, .bipush 100, 2), (12, .invokestatic 37, 3), (15, .aload_n 0, 1), (16, .aload_n 1, 1), (17, .getfield 43, 3), (20, .putfield 43, 3), (23, .aload_n 0, 1), (24, .aload_n 1, 1), (25, .getfield 18, 3), (28, .putfield 18, 3), (31, .aload_n 0, 1), (32, .aload_n 1, 1), (33, .getfield 47, 3), (36, .putfield 47, 3), (39, .aload_n 0, 1), (40, .aload_n 1, 1), (41, .getfield 50, 3), (44, .putfield 50, 3), (47, .aload_n 0, 1), (48, .aload_n 1, 1), (49, .getfield 54, 3), (52, .putfield 54, 3), (55, .aload_n 0, 1), (56, .aload_n 1, 1), (57, .getfield 57, 3), (60, .putfield 57, 3), (63, .iconst 0, 1), (64, .istore_n 2, 1), (65, .iload_n 2, 1), (66, .bipush 8, 2), (68, .if_icmp .ge 21, 3), (89, .aload_n 0, 1), (90, .aload_n 1, 1), (91, .getfield 60, 3)]
set_option maxRecDepth 100000 in
theorem dk18apub_cX8_copyFrom_0_a : dkA cX8_copyFrom dk18apub_cX8_copyFrom_0 = true := by decide +kernel
theorem dX8_copyFrom_0 : decode cX8_copyFrom 0 = .ok (.aload_n 1, 1) := dkAt dk18apub_cX8_copyFrom_0_a 0 rfl
theorem dX8_copyFrom_1 : decode cX8_copyFrom 1 = .ok (.getfield 9, 3) := dkAt dk18apub_cX8_copyFrom_0_a 1 rfl
theorem dX8_copyFrom_4 : decode cX8_copyFrom 4 = .ok (.iconst 0, 1) := dkAt dk18apub_cX8_copyFrom_0_a 2 rfl
theorem dX8_copyFrom_5 : decode cX8_copyFrom 5 = .ok (.aload_n 0, 1) := dkAt dk18apub_cX8_copyFrom_0_a 3 rfl
theorem dX8_copyFrom_6 : decode cX8_copyFrom 6 = .ok (.getfield 9, 3) := dkAt dk18apub_cX8_copyFrom_0_a 4 rfl
theorem dX8_copyFrom_9 : decode cX8_copyFrom 9 = .ok (.iconst 0, 1) := dkAt dk18apub_cX8_copyFrom_0_a 5 rfl
theorem dX8_copyFrom_10 : decode cX8_copyFrom 10 = .ok (.bipush 100, 2) := dkAt dk18apub_cX8_copyFrom_0_a 6 rfl
theorem dX8_copyFrom_12 : decode cX8_copyFrom 12 = .ok (.invokestatic 37, 3) := dkAt dk18apub_cX8_copyFrom_0_a 7 rfl
theorem dX8_copyFrom_15 : decode cX8_copyFrom 15 = .ok (.aload_n 0, 1) := dkAt dk18apub_cX8_copyFrom_0_a 8 rfl
theorem dX8_copyFrom_16 : decode cX8_copyFrom 16 = .ok (.aload_n 1, 1) := dkAt dk18apub_cX8_copyFrom_0_a 9 rfl
theorem dX8_copyFrom_17 : decode cX8_copyFrom 17 = .ok (.getfield 43, 3) := dkAt dk18apub_cX8_copyFrom_0_a 10 rfl
theorem dX8_copyFrom_20 : decode cX8_copyFrom 20 = .ok (.putfield 43, 3) := dkAt dk18apub_cX8_copyFrom_0_a 11 rfl
theorem dX8_copyFrom_23 : decode cX8_copyFrom 23 = .ok (.aload_n 0, 1) := dkAt dk18apub_cX8_copyFrom_0_a 12 rfl
theorem dX8_copyFrom_24 : decode cX8_copyFrom 24 = .ok (.aload_n 1, 1) := dkAt dk18apub_cX8_copyFrom_0_a 13 rfl
theorem dX8_copyFrom_25 : decode cX8_copyFrom 25 = .ok (.getfield 18, 3) := dkAt dk18apub_cX8_copyFrom_0_a 14 rfl
theorem dX8_copyFrom_28 : decode cX8_copyFrom 28 = .ok (.putfield 18, 3) := dkAt dk18apub_cX8_copyFrom_0_a 15 rfl
theorem dX8_copyFrom_31 : decode cX8_copyFrom 31 = .ok (.aload_n 0, 1) := dkAt dk18apub_cX8_copyFrom_0_a 16 rfl
theorem dX8_copyFrom_32 : decode cX8_copyFrom 32 = .ok (.aload_n 1, 1) := dkAt dk18apub_cX8_copyFrom_0_a 17 rfl
theorem dX8_copyFrom_33 : decode cX8_copyFrom 33 = .ok (.getfield 47, 3) := dkAt dk18apub_cX8_copyFrom_0_a 18 rfl
theorem dX8_copyFrom_36 : decode cX8_copyFrom 36 = .ok (.putfield 47, 3) := dkAt dk18apub_cX8_copyFrom_0_a 19 rfl
theorem dX8_copyFrom_39 : decode cX8_copyFrom 39 = .ok (.aload_n 0, 1) := dkAt dk18apub_cX8_copyFrom_0_a 20 rfl
theorem dX8_copyFrom_40 : decode cX8_copyFrom 40 = .ok (.aload_n 1, 1) := dkAt dk18apub_cX8_copyFrom_0_a 21 rfl
theorem dX8_copyFrom_41 : decode cX8_copyFrom 41 = .ok (.getfield 50, 3) := dkAt dk18apub_cX8_copyFrom_0_a 22 rfl
theorem dX8_copyFrom_44 : decode cX8_copyFrom 44 = .ok (.putfield 50, 3) := dkAt dk18apub_cX8_copyFrom_0_a 23 rfl
theorem dX8_copyFrom_47 : decode cX8_copyFrom 47 = .ok (.aload_n 0, 1) := dkAt dk18apub_cX8_copyFrom_0_a 24 rfl
theorem dX8_copyFrom_48 : decode cX8_copyFrom 48 = .ok (.aload_n 1, 1) := dkAt dk18apub_cX8_copyFrom_0_a 25 rfl
theorem dX8_copyFrom_49 : decode cX8_copyFrom 49 = .ok (.getfield 54, 3) := dkAt dk18apub_cX8_copyFrom_0_a 26 rfl
theorem dX8_copyFrom_52 : decode cX8_copyFrom 52 = .ok (.putfield 54, 3) := dkAt dk18apub_cX8_copyFrom_0_a 27 rfl
theorem dX8_copyFrom_55 : decode cX8_copyFrom 55 = .ok (.aload_n 0, 1) := dkAt dk18apub_cX8_copyFrom_0_a 28 rfl
theorem dX8_copyFrom_56 : decode cX8_copyFrom 56 = .ok (.aload_n 1, 1) := dkAt dk18apub_cX8_copyFrom_0_a 29 rfl
theorem dX8_copyFrom_57 : decode cX8_copyFrom 57 = .ok (.getfield 57, 3) := dkAt dk18apub_cX8_copyFrom_0_a 30 rfl
theorem dX8_copyFrom_60 : decode cX8_copyFrom 60 = .ok (.putfield 57, 3) := dkAt dk18apub_cX8_copyFrom_0_a 31 rfl
theorem dX8_copyFrom_63 : decode cX8_copyFrom 63 = .ok (.iconst 0, 1) := dkAt dk18apub_cX8_copyFrom_0_a 32 rfl
theorem dX8_copyFrom_64 : decode cX8_copyFrom 64 = .ok (.istore_n 2, 1) := dkAt dk18apub_cX8_copyFrom_0_a 33 rfl
theorem dX8_copyFrom_65 : decode cX8_copyFrom 65 = .ok (.iload_n 2, 1) := dkAt dk18apub_cX8_copyFrom_0_a 34 rfl
theorem dX8_copyFrom_66 : decode cX8_copyFrom 66 = .ok (.bipush 8, 2) := dkAt dk18apub_cX8_copyFrom_0_a 35 rfl
theorem dX8_copyFrom_68 : decode cX8_copyFrom 68 = .ok (.if_icmp .ge 21, 3) := dkAt dk18apub_cX8_copyFrom_0_a 36 rfl
theorem dX8_copyFrom_89 : decode cX8_copyFrom 89 = .ok (.aload_n 0, 1) := dkAt dk18apub_cX8_copyFrom_0_a 37 rfl
theorem dX8_copyFrom_90 : decode cX8_copyFrom 90 = .ok (.aload_n 1, 1) := dkAt dk18apub_cX8_copyFrom_0_a 38 rfl
theorem dX8_copyFrom_91 : decode cX8_copyFrom 91 = .ok (.getfield 60, 3) := dkAt dk18apub_cX8_copyFrom_0_a 39 rfl
noncomputable def dk18apub_cX8_copyFrom_40 : List (Nat × Instr × Nat) := [(94, .putfield 60, 3), (97, .aload_n 1, 1), (98, .getfield 28, 3), (101, .iconst 0, 1), (102, .aload_n 0, 1), (103, .getfield 28, 3), (106, .iconst 0, 1), (107, .bipush 6, 2), (109, .invokestatic 37, 3), (112, .aload_n 0, 1), (113, .aload_n 1, 1), (114, .getfield 63, 3), (117, .putfield 63, 3), (120, .aload_n 1, 1), (121, .getfield 31, 3), (124, .iconst 0, 1), (125, .aload_n 0, 1), (126, .getfield 31, 3), (129, .iconst 0, 1), (130, .bipush 12, 2), (132, .invokestatic 37, 3), (135, .aload_n 0, 1), (136, .aload_n 1, 1), (137, .getfield 66, 3), (140, .putfield 66, 3), (143, .return_, 1), (71, .aload_n 0, 1), (72, .getfield 24, 3), (75, .iload_n 2, 1), (76, .aload_n 1, 1), (77, .getfield 24, 3), (80, .iload_n 2, 1), (81, .aaload, 1), (82, .aastore, 1), (83, .iinc 2 1, 3), (86, .goto (-21), 3)]
set_option maxRecDepth 100000 in
theorem dk18apub_cX8_copyFrom_40_a : dkA cX8_copyFrom dk18apub_cX8_copyFrom_40 = true := by decide +kernel
theorem dX8_copyFrom_94 : decode cX8_copyFrom 94 = .ok (.putfield 60, 3) := dkAt dk18apub_cX8_copyFrom_40_a 0 rfl
theorem dX8_copyFrom_97 : decode cX8_copyFrom 97 = .ok (.aload_n 1, 1) := dkAt dk18apub_cX8_copyFrom_40_a 1 rfl
theorem dX8_copyFrom_98 : decode cX8_copyFrom 98 = .ok (.getfield 28, 3) := dkAt dk18apub_cX8_copyFrom_40_a 2 rfl
theorem dX8_copyFrom_101 : decode cX8_copyFrom 101 = .ok (.iconst 0, 1) := dkAt dk18apub_cX8_copyFrom_40_a 3 rfl
theorem dX8_copyFrom_102 : decode cX8_copyFrom 102 = .ok (.aload_n 0, 1) := dkAt dk18apub_cX8_copyFrom_40_a 4 rfl
theorem dX8_copyFrom_103 : decode cX8_copyFrom 103 = .ok (.getfield 28, 3) := dkAt dk18apub_cX8_copyFrom_40_a 5 rfl
theorem dX8_copyFrom_106 : decode cX8_copyFrom 106 = .ok (.iconst 0, 1) := dkAt dk18apub_cX8_copyFrom_40_a 6 rfl
theorem dX8_copyFrom_107 : decode cX8_copyFrom 107 = .ok (.bipush 6, 2) := dkAt dk18apub_cX8_copyFrom_40_a 7 rfl
theorem dX8_copyFrom_109 : decode cX8_copyFrom 109 = .ok (.invokestatic 37, 3) := dkAt dk18apub_cX8_copyFrom_40_a 8 rfl
theorem dX8_copyFrom_112 : decode cX8_copyFrom 112 = .ok (.aload_n 0, 1) := dkAt dk18apub_cX8_copyFrom_40_a 9 rfl
theorem dX8_copyFrom_113 : decode cX8_copyFrom 113 = .ok (.aload_n 1, 1) := dkAt dk18apub_cX8_copyFrom_40_a 10 rfl
theorem dX8_copyFrom_114 : decode cX8_copyFrom 114 = .ok (.getfield 63, 3) := dkAt dk18apub_cX8_copyFrom_40_a 11 rfl
theorem dX8_copyFrom_117 : decode cX8_copyFrom 117 = .ok (.putfield 63, 3) := dkAt dk18apub_cX8_copyFrom_40_a 12 rfl
theorem dX8_copyFrom_120 : decode cX8_copyFrom 120 = .ok (.aload_n 1, 1) := dkAt dk18apub_cX8_copyFrom_40_a 13 rfl
theorem dX8_copyFrom_121 : decode cX8_copyFrom 121 = .ok (.getfield 31, 3) := dkAt dk18apub_cX8_copyFrom_40_a 14 rfl
theorem dX8_copyFrom_124 : decode cX8_copyFrom 124 = .ok (.iconst 0, 1) := dkAt dk18apub_cX8_copyFrom_40_a 15 rfl
theorem dX8_copyFrom_125 : decode cX8_copyFrom 125 = .ok (.aload_n 0, 1) := dkAt dk18apub_cX8_copyFrom_40_a 16 rfl
theorem dX8_copyFrom_126 : decode cX8_copyFrom 126 = .ok (.getfield 31, 3) := dkAt dk18apub_cX8_copyFrom_40_a 17 rfl
theorem dX8_copyFrom_129 : decode cX8_copyFrom 129 = .ok (.iconst 0, 1) := dkAt dk18apub_cX8_copyFrom_40_a 18 rfl
theorem dX8_copyFrom_130 : decode cX8_copyFrom 130 = .ok (.bipush 12, 2) := dkAt dk18apub_cX8_copyFrom_40_a 19 rfl
theorem dX8_copyFrom_132 : decode cX8_copyFrom 132 = .ok (.invokestatic 37, 3) := dkAt dk18apub_cX8_copyFrom_40_a 20 rfl
theorem dX8_copyFrom_135 : decode cX8_copyFrom 135 = .ok (.aload_n 0, 1) := dkAt dk18apub_cX8_copyFrom_40_a 21 rfl
theorem dX8_copyFrom_136 : decode cX8_copyFrom 136 = .ok (.aload_n 1, 1) := dkAt dk18apub_cX8_copyFrom_40_a 22 rfl
theorem dX8_copyFrom_137 : decode cX8_copyFrom 137 = .ok (.getfield 66, 3) := dkAt dk18apub_cX8_copyFrom_40_a 23 rfl
theorem dX8_copyFrom_140 : decode cX8_copyFrom 140 = .ok (.putfield 66, 3) := dkAt dk18apub_cX8_copyFrom_40_a 24 rfl
theorem dX8_copyFrom_143 : decode cX8_copyFrom 143 = .ok (.return_, 1) := dkAt dk18apub_cX8_copyFrom_40_a 25 rfl
theorem dX8_copyFrom_71 : decode cX8_copyFrom 71 = .ok (.aload_n 0, 1) := dkAt dk18apub_cX8_copyFrom_40_a 26 rfl
theorem dX8_copyFrom_72 : decode cX8_copyFrom 72 = .ok (.getfield 24, 3) := dkAt dk18apub_cX8_copyFrom_40_a 27 rfl
theorem dX8_copyFrom_75 : decode cX8_copyFrom 75 = .ok (.iload_n 2, 1) := dkAt dk18apub_cX8_copyFrom_40_a 28 rfl
theorem dX8_copyFrom_76 : decode cX8_copyFrom 76 = .ok (.aload_n 1, 1) := dkAt dk18apub_cX8_copyFrom_40_a 29 rfl
theorem dX8_copyFrom_77 : decode cX8_copyFrom 77 = .ok (.getfield 24, 3) := dkAt dk18apub_cX8_copyFrom_40_a 30 rfl
theorem dX8_copyFrom_80 : decode cX8_copyFrom 80 = .ok (.iload_n 2, 1) := dkAt dk18apub_cX8_copyFrom_40_a 31 rfl
theorem dX8_copyFrom_81 : decode cX8_copyFrom 81 = .ok (.aaload, 1) := dkAt dk18apub_cX8_copyFrom_40_a 32 rfl
theorem dX8_copyFrom_82 : decode cX8_copyFrom 82 = .ok (.aastore, 1) := dkAt dk18apub_cX8_copyFrom_40_a 33 rfl
theorem dX8_copyFrom_83 : decode cX8_copyFrom 83 = .ok (.iinc 2 1, 3) := dkAt dk18apub_cX8_copyFrom_40_a 34 rfl
theorem dX8_copyFrom_86 : decode cX8_copyFrom 86 = .ok (.goto (-21), 3) := dkAt dk18apub_cX8_copyFrom_40_a 35 rfl
noncomputable def dk18apub_cX5_read_0 : List (Nat × Instr × Nat) := [(0, .aload_n 0, 1), (1, .aload_n 1, 1), (2, .putfield 28, 3), (5, .aload_n 0, 1), (6, .iload_n 2, 1), (7, .putfield 31, 3), (10, .aload_n 0, 1), (11, .iconst 0, 1), (12, .putfield 34, 3), (15, .aload_n 0, 1), (16, .iconst 0, 1), (17, .putfield 37, 3), (20, .aload_n 0, 1), (21, .iconst 3, 1), (22, .putfield 11, 3), (25, .iconst 0, 1), (26, .istore_n 3, 1), (27, .iload_n 3, 1), (28, .bipush 10, 2), (30, .if_icmp .ge 134, 3), (164, .aload_n 0, 1), (165, .getfield 34, 3), (168, .iconst 1, 1), (169, .isub, 1), (170, .ireturn, 1), (33, .aload_n 0, 1), (34, .invokevirtual 40, 3), (37, .istore 4, 2), (39, .iload 4, 2), (41, .iconst (-1), 1), (42, .if_icmp .eq 10, 3), (52, .aload_n 0, 1), (53, .getfield 34, 3), (56, .ireturn, 1), (45, .aload_n 0, 1), (46, .invokevirtual 44, 3), (49, .ifCond .ne 8, 3), (57, .aload_n 0, 1), (58, .getfield 15, 3), (61, .iload_n 3, 1)]
set_option maxRecDepth 100000 in
theorem dk18apub_cX5_read_0_a : dkA cX5_read dk18apub_cX5_read_0 = true := by decide +kernel
theorem dX5_read_0 : decode cX5_read 0 = .ok (.aload_n 0, 1) := dkAt dk18apub_cX5_read_0_a 0 rfl
theorem dX5_read_1 : decode cX5_read 1 = .ok (.aload_n 1, 1) := dkAt dk18apub_cX5_read_0_a 1 rfl
theorem dX5_read_2 : decode cX5_read 2 = .ok (.putfield 28, 3) := dkAt dk18apub_cX5_read_0_a 2 rfl
theorem dX5_read_5 : decode cX5_read 5 = .ok (.aload_n 0, 1) := dkAt dk18apub_cX5_read_0_a 3 rfl
theorem dX5_read_6 : decode cX5_read 6 = .ok (.iload_n 2, 1) := dkAt dk18apub_cX5_read_0_a 4 rfl
theorem dX5_read_7 : decode cX5_read 7 = .ok (.putfield 31, 3) := dkAt dk18apub_cX5_read_0_a 5 rfl
theorem dX5_read_10 : decode cX5_read 10 = .ok (.aload_n 0, 1) := dkAt dk18apub_cX5_read_0_a 6 rfl
theorem dX5_read_11 : decode cX5_read 11 = .ok (.iconst 0, 1) := dkAt dk18apub_cX5_read_0_a 7 rfl
theorem dX5_read_12 : decode cX5_read 12 = .ok (.putfield 34, 3) := dkAt dk18apub_cX5_read_0_a 8 rfl
theorem dX5_read_15 : decode cX5_read 15 = .ok (.aload_n 0, 1) := dkAt dk18apub_cX5_read_0_a 9 rfl
theorem dX5_read_16 : decode cX5_read 16 = .ok (.iconst 0, 1) := dkAt dk18apub_cX5_read_0_a 10 rfl
theorem dX5_read_17 : decode cX5_read 17 = .ok (.putfield 37, 3) := dkAt dk18apub_cX5_read_0_a 11 rfl
theorem dX5_read_20 : decode cX5_read 20 = .ok (.aload_n 0, 1) := dkAt dk18apub_cX5_read_0_a 12 rfl
theorem dX5_read_21 : decode cX5_read 21 = .ok (.iconst 3, 1) := dkAt dk18apub_cX5_read_0_a 13 rfl
theorem dX5_read_22 : decode cX5_read 22 = .ok (.putfield 11, 3) := dkAt dk18apub_cX5_read_0_a 14 rfl
theorem dX5_read_25 : decode cX5_read 25 = .ok (.iconst 0, 1) := dkAt dk18apub_cX5_read_0_a 15 rfl
theorem dX5_read_26 : decode cX5_read 26 = .ok (.istore_n 3, 1) := dkAt dk18apub_cX5_read_0_a 16 rfl
theorem dX5_read_27 : decode cX5_read 27 = .ok (.iload_n 3, 1) := dkAt dk18apub_cX5_read_0_a 17 rfl
theorem dX5_read_28 : decode cX5_read 28 = .ok (.bipush 10, 2) := dkAt dk18apub_cX5_read_0_a 18 rfl
theorem dX5_read_30 : decode cX5_read 30 = .ok (.if_icmp .ge 134, 3) := dkAt dk18apub_cX5_read_0_a 19 rfl
theorem dX5_read_164 : decode cX5_read 164 = .ok (.aload_n 0, 1) := dkAt dk18apub_cX5_read_0_a 20 rfl
theorem dX5_read_165 : decode cX5_read 165 = .ok (.getfield 34, 3) := dkAt dk18apub_cX5_read_0_a 21 rfl
theorem dX5_read_168 : decode cX5_read 168 = .ok (.iconst 1, 1) := dkAt dk18apub_cX5_read_0_a 22 rfl
theorem dX5_read_169 : decode cX5_read 169 = .ok (.isub, 1) := dkAt dk18apub_cX5_read_0_a 23 rfl
theorem dX5_read_170 : decode cX5_read 170 = .ok (.ireturn, 1) := dkAt dk18apub_cX5_read_0_a 24 rfl
theorem dX5_read_33 : decode cX5_read 33 = .ok (.aload_n 0, 1) := dkAt dk18apub_cX5_read_0_a 25 rfl
theorem dX5_read_34 : decode cX5_read 34 = .ok (.invokevirtual 40, 3) := dkAt dk18apub_cX5_read_0_a 26 rfl
theorem dX5_read_37 : decode cX5_read 37 = .ok (.istore 4, 2) := dkAt dk18apub_cX5_read_0_a 27 rfl
theorem dX5_read_39 : decode cX5_read 39 = .ok (.iload 4, 2) := dkAt dk18apub_cX5_read_0_a 28 rfl
theorem dX5_read_41 : decode cX5_read 41 = .ok (.iconst (-1), 1) := dkAt dk18apub_cX5_read_0_a 29 rfl
theorem dX5_read_42 : decode cX5_read 42 = .ok (.if_icmp .eq 10, 3) := dkAt dk18apub_cX5_read_0_a 30 rfl
theorem dX5_read_52 : decode cX5_read 52 = .ok (.aload_n 0, 1) := dkAt dk18apub_cX5_read_0_a 31 rfl
theorem dX5_read_53 : decode cX5_read 53 = .ok (.getfield 34, 3) := dkAt dk18apub_cX5_read_0_a 32 rfl
theorem dX5_read_56 : decode cX5_read 56 = .ok (.ireturn, 1) := dkAt dk18apub_cX5_read_0_a 33 rfl
theorem dX5_read_45 : decode cX5_read 45 = .ok (.aload_n 0, 1) := dkAt dk18apub_cX5_read_0_a 34 rfl
theorem dX5_read_46 : decode cX5_read 46 = .ok (.invokevirtual 44, 3) := dkAt dk18apub_cX5_read_0_a 35 rfl
theorem dX5_read_49 : decode cX5_read 49 = .ok (.ifCond .ne 8, 3) := dkAt dk18apub_cX5_read_0_a 36 rfl
theorem dX5_read_57 : decode cX5_read 57 = .ok (.aload_n 0, 1) := dkAt dk18apub_cX5_read_0_a 37 rfl
theorem dX5_read_58 : decode cX5_read 58 = .ok (.getfield 15, 3) := dkAt dk18apub_cX5_read_0_a 38 rfl
theorem dX5_read_61 : decode cX5_read 61 = .ok (.iload_n 3, 1) := dkAt dk18apub_cX5_read_0_a 39 rfl
noncomputable def dk18apub_cX5_read_40 : List (Nat × Instr × Nat) := [(62, .iload 4, 2), (64, .iastore, 1), (65, .aload_n 0, 1), (66, .getfield 19, 3), (69, .iload_n 3, 1), (70, .aload_n 0, 1), (71, .getfield 48, 3), (74, .iastore, 1), (75, .iload 4, 2), (77, .iconst 2, 1), (78, .if_icmp .ne 14, 3), (92, .aload_n 0, 1), (93, .bipush 32, 2), (95, .invokevirtual 51, 3), (98, .ifCond .eq 11, 3), (101, .aload_n 0, 1), (102, .iconst 0, 1), (103, .invokevirtual 55, 3), (106, .ifCond .ne 8, 3), (114, .aload_n 0, 1), (115, .getfield 22, 3), (118, .iload_n 3, 1), (119, .aload_n 0, 1), (120, .getfield 37, 3), (123, .iastore, 1), (124, .aload_n 0, 1), (125, .iload_n 3, 1), (126, .iconst 1, 1), (127, .iadd, 1), (128, .putfield 59, 3), (131, .aload_n 0, 1), (132, .getfield 34, 3), (135, .aload_n 0, 1), (136, .getfield 31, 3), (139, .if_icmp .ne 5, 3), (144, .aload_n 0, 1), (145, .bipush 59, 2), (147, .invokevirtual 51, 3), (150, .ifCond .ne 8, 3), (158, .iinc 3 1, 3)]
set_option maxRecDepth 100000 in
theorem dk18apub_cX5_read_40_a : dkA cX5_read dk18apub_cX5_read_40 = true := by decide +kernel
theorem dX5_read_62 : decode cX5_read 62 = .ok (.iload 4, 2) := dkAt dk18apub_cX5_read_40_a 0 rfl
theorem dX5_read_64 : decode cX5_read 64 = .ok (.iastore, 1) := dkAt dk18apub_cX5_read_40_a 1 rfl
theorem dX5_read_65 : decode cX5_read 65 = .ok (.aload_n 0, 1) := dkAt dk18apub_cX5_read_40_a 2 rfl
theorem dX5_read_66 : decode cX5_read 66 = .ok (.getfield 19, 3) := dkAt dk18apub_cX5_read_40_a 3 rfl
theorem dX5_read_69 : decode cX5_read 69 = .ok (.iload_n 3, 1) := dkAt dk18apub_cX5_read_40_a 4 rfl
theorem dX5_read_70 : decode cX5_read 70 = .ok (.aload_n 0, 1) := dkAt dk18apub_cX5_read_40_a 5 rfl
theorem dX5_read_71 : decode cX5_read 71 = .ok (.getfield 48, 3) := dkAt dk18apub_cX5_read_40_a 6 rfl
theorem dX5_read_74 : decode cX5_read 74 = .ok (.iastore, 1) := dkAt dk18apub_cX5_read_40_a 7 rfl
theorem dX5_read_75 : decode cX5_read 75 = .ok (.iload 4, 2) := dkAt dk18apub_cX5_read_40_a 8 rfl
theorem dX5_read_77 : decode cX5_read 77 = .ok (.iconst 2, 1) := dkAt dk18apub_cX5_read_40_a 9 rfl
theorem dX5_read_78 : decode cX5_read 78 = .ok (.if_icmp .ne 14, 3) := dkAt dk18apub_cX5_read_40_a 10 rfl
theorem dX5_read_92 : decode cX5_read 92 = .ok (.aload_n 0, 1) := dkAt dk18apub_cX5_read_40_a 11 rfl
theorem dX5_read_93 : decode cX5_read 93 = .ok (.bipush 32, 2) := dkAt dk18apub_cX5_read_40_a 12 rfl
theorem dX5_read_95 : decode cX5_read 95 = .ok (.invokevirtual 51, 3) := dkAt dk18apub_cX5_read_40_a 13 rfl
theorem dX5_read_98 : decode cX5_read 98 = .ok (.ifCond .eq 11, 3) := dkAt dk18apub_cX5_read_40_a 14 rfl
theorem dX5_read_101 : decode cX5_read 101 = .ok (.aload_n 0, 1) := dkAt dk18apub_cX5_read_40_a 15 rfl
theorem dX5_read_102 : decode cX5_read 102 = .ok (.iconst 0, 1) := dkAt dk18apub_cX5_read_40_a 16 rfl
theorem dX5_read_103 : decode cX5_read 103 = .ok (.invokevirtual 55, 3) := dkAt dk18apub_cX5_read_40_a 17 rfl
theorem dX5_read_106 : decode cX5_read 106 = .ok (.ifCond .ne 8, 3) := dkAt dk18apub_cX5_read_40_a 18 rfl
theorem dX5_read_114 : decode cX5_read 114 = .ok (.aload_n 0, 1) := dkAt dk18apub_cX5_read_40_a 19 rfl
theorem dX5_read_115 : decode cX5_read 115 = .ok (.getfield 22, 3) := dkAt dk18apub_cX5_read_40_a 20 rfl
theorem dX5_read_118 : decode cX5_read 118 = .ok (.iload_n 3, 1) := dkAt dk18apub_cX5_read_40_a 21 rfl
theorem dX5_read_119 : decode cX5_read 119 = .ok (.aload_n 0, 1) := dkAt dk18apub_cX5_read_40_a 22 rfl
theorem dX5_read_120 : decode cX5_read 120 = .ok (.getfield 37, 3) := dkAt dk18apub_cX5_read_40_a 23 rfl
theorem dX5_read_123 : decode cX5_read 123 = .ok (.iastore, 1) := dkAt dk18apub_cX5_read_40_a 24 rfl
theorem dX5_read_124 : decode cX5_read 124 = .ok (.aload_n 0, 1) := dkAt dk18apub_cX5_read_40_a 25 rfl
theorem dX5_read_125 : decode cX5_read 125 = .ok (.iload_n 3, 1) := dkAt dk18apub_cX5_read_40_a 26 rfl
theorem dX5_read_126 : decode cX5_read 126 = .ok (.iconst 1, 1) := dkAt dk18apub_cX5_read_40_a 27 rfl
theorem dX5_read_127 : decode cX5_read 127 = .ok (.iadd, 1) := dkAt dk18apub_cX5_read_40_a 28 rfl
theorem dX5_read_128 : decode cX5_read 128 = .ok (.putfield 59, 3) := dkAt dk18apub_cX5_read_40_a 29 rfl
theorem dX5_read_131 : decode cX5_read 131 = .ok (.aload_n 0, 1) := dkAt dk18apub_cX5_read_40_a 30 rfl
theorem dX5_read_132 : decode cX5_read 132 = .ok (.getfield 34, 3) := dkAt dk18apub_cX5_read_40_a 31 rfl
theorem dX5_read_135 : decode cX5_read 135 = .ok (.aload_n 0, 1) := dkAt dk18apub_cX5_read_40_a 32 rfl
theorem dX5_read_136 : decode cX5_read 136 = .ok (.getfield 31, 3) := dkAt dk18apub_cX5_read_40_a 33 rfl
theorem dX5_read_139 : decode cX5_read 139 = .ok (.if_icmp .ne 5, 3) := dkAt dk18apub_cX5_read_40_a 34 rfl
theorem dX5_read_144 : decode cX5_read 144 = .ok (.aload_n 0, 1) := dkAt dk18apub_cX5_read_40_a 35 rfl
theorem dX5_read_145 : decode cX5_read 145 = .ok (.bipush 59, 2) := dkAt dk18apub_cX5_read_40_a 36 rfl
theorem dX5_read_147 : decode cX5_read 147 = .ok (.invokevirtual 51, 3) := dkAt dk18apub_cX5_read_40_a 37 rfl
theorem dX5_read_150 : decode cX5_read 150 = .ok (.ifCond .ne 8, 3) := dkAt dk18apub_cX5_read_40_a 38 rfl
theorem dX5_read_158 : decode cX5_read 158 = .ok (.iinc 3 1, 3) := dkAt dk18apub_cX5_read_40_a 39 rfl
noncomputable def dk18apub_cX5_read_80 : List (Nat × Instr × Nat) := [(161, .goto (-134), 3), (153, .aload_n 0, 1), (154, .getfield 34, 3), (157, .ireturn, 1), (142, .iconst (-1), 1), (143, .ireturn, 1), (109, .aload_n 0, 1), (110, .getfield 34, 3), (113, .ireturn, 1), (81, .aload_n 0, 1), (82, .aload_n 0, 1), (83, .getfield 48, 3), (86, .putfield 11, 3), (89, .goto 25, 3)]
set_option maxRecDepth 100000 in
theorem dk18apub_cX5_read_80_a : dkA cX5_read dk18apub_cX5_read_80 = true := by decide +kernel
theorem dX5_read_161 : decode cX5_read 161 = .ok (.goto (-134), 3) := dkAt dk18apub_cX5_read_80_a 0 rfl
theorem dX5_read_153 : decode cX5_read 153 = .ok (.aload_n 0, 1) := dkAt dk18apub_cX5_read_80_a 1 rfl
theorem dX5_read_154 : decode cX5_read 154 = .ok (.getfield 34, 3) := dkAt dk18apub_cX5_read_80_a 2 rfl
theorem dX5_read_157 : decode cX5_read 157 = .ok (.ireturn, 1) := dkAt dk18apub_cX5_read_80_a 3 rfl
theorem dX5_read_142 : decode cX5_read 142 = .ok (.iconst (-1), 1) := dkAt dk18apub_cX5_read_80_a 4 rfl
theorem dX5_read_143 : decode cX5_read 143 = .ok (.ireturn, 1) := dkAt dk18apub_cX5_read_80_a 5 rfl
theorem dX5_read_109 : decode cX5_read 109 = .ok (.aload_n 0, 1) := dkAt dk18apub_cX5_read_80_a 6 rfl
theorem dX5_read_110 : decode cX5_read 110 = .ok (.getfield 34, 3) := dkAt dk18apub_cX5_read_80_a 7 rfl
theorem dX5_read_113 : decode cX5_read 113 = .ok (.ireturn, 1) := dkAt dk18apub_cX5_read_80_a 8 rfl
theorem dX5_read_81 : decode cX5_read 81 = .ok (.aload_n 0, 1) := dkAt dk18apub_cX5_read_80_a 9 rfl
theorem dX5_read_82 : decode cX5_read 82 = .ok (.aload_n 0, 1) := dkAt dk18apub_cX5_read_80_a 10 rfl
theorem dX5_read_83 : decode cX5_read 83 = .ok (.getfield 48, 3) := dkAt dk18apub_cX5_read_80_a 11 rfl
theorem dX5_read_86 : decode cX5_read 86 = .ok (.putfield 11, 3) := dkAt dk18apub_cX5_read_80_a 12 rfl
theorem dX5_read_89 : decode cX5_read 89 = .ok (.goto 25, 3) := dkAt dk18apub_cX5_read_80_a 13 rfl
theorem sub50 {y : Int32} {n : Nat} (hn : n ≤ 1000) (h1 : ¬ y < 50) (h2 : ¬ nI n ≤ y - 50) : ∃ j : Nat, j < n ∧ y - 50 = nI j := by
  obtain ⟨k, hk, rfl⟩ := nI_of (x := y) (fun q => h1 (Int32.lt_trans q (by decide)))
  have h3 : 50 ≤ k := Nat.le_of_not_lt (fun q => h1 (nI_lt (b := 50) q (by omega)))
  have e : nI k - 50 = nI (k - 50) := pk_sub (a := k) (b := 50) h3
  rw [e] at h2 ⊢
  exact ⟨k - 50, Nat.lt_of_not_le (fun q => h2 (nI_le q (by omega))), rfl⟩
theorem one3 {z : Int32} (h1 : ¬ z < 1) (h2 : z ≤ 3) : z = 1 ∨ z = 2 ∨ z = 3 := by
  obtain ⟨j, hj, rfl⟩ := nI_of2 (n := 3) (M := 3) rfl (fun q => h1 (Int32.lt_trans q (by decide))) h2
  have h3 : ¬ j < 1 := fun q => h1 (nI_lt (b := 1) q (by omega))
  have : j = 1 ∨ j = 2 ∨ j = 3 := by omega
  rcases this with rfl | rfl | rfl
  · exact Or.inl rfl
  · exact Or.inr (Or.inl rfl)
  · exact Or.inr (Or.inr rfl)
theorem seven {k : Int32} (h1 : ¬ k < 0) (h2 : ¬ 7 ≤ k) : k = 0 ∨ k = 1 ∨ k = 2 ∨ k = 3 ∨ k = 4 ∨ k = 5 ∨ k = 6 := by
  obtain ⟨j, hj, rfl⟩ := lt_of (n := 7) (by omega) h1 h2
  have : j = 0 ∨ j = 1 ∨ j = 2 ∨ j = 3 ∨ j = 4 ∨ j = 5 ∨ j = 6 := by omega
  rcases this with rfl | rfl | rfl | rfl | rfl | rfl | rfl
  · exact Or.inl rfl
  · exact Or.inr (Or.inl rfl)
  · exact Or.inr (Or.inr (Or.inl rfl))
  · exact Or.inr (Or.inr (Or.inr (Or.inl rfl)))
  · exact Or.inr (Or.inr (Or.inr (Or.inr (Or.inl rfl))))
  · exact Or.inr (Or.inr (Or.inr (Or.inr (Or.inr (Or.inl rfl)))))
  · exact Or.inr (Or.inr (Or.inr (Or.inr (Or.inr (Or.inr rfl)))))
theorem wk_up {f : Nat → Int32} {k j : Nat} (h : ∀ k0, k0 < 6 → ∃ w0 : Nat, w0 < 8 ∧ f k0 = nI w0) (hj : j < 8) : ∀ k0, k0 < 6 → ∃ w0 : Nat, w0 < 8 ∧ upd f k (nI j) k0 = nI w0 := by
  intro k0 hk
  by_cases q : k0 = k
  · subst q; exact ⟨j, hj, pk_us⟩
  · rw [pk_un q]; exact h k0 hk
theorem bk_up2 {f : Nat → Int32} {k j : Nat} (h : ∀ k0, k0 < 12 → ∃ w0 : Nat, w0 < 8 ∧ f k0 = nI w0) (hj : j < 8) : ∀ k0, k0 < 12 → ∃ w0 : Nat, w0 < 8 ∧ upd f k (nI j) k0 = nI w0 := by
  intro k0 hk
  by_cases q : k0 = k
  · subst q; exact ⟨j, hj, pk_us⟩
  · rw [pk_un q]; exact h k0 hk
theorem wk_ans {k j : Nat} (hj : j < 8) (h6 : k < 6) : nI (k + 1) = wkR k (nI j) ∧ k + 1 = wkN k (nI j) := by
  have h1 : ¬ nI j = -1 := nI_nm1 (by omega)
  have h2 : ¬ nI j < 0 := nI_pos (by omega)
  have h3 : ¬ (7 : Int32) < nI j := nI_nlt (a := 7) (b := j) (by omega) (by omega)
  constructor
  · rw [wkR, if_neg h1, if_neg h2, if_neg h3, if_neg (by omega)]
  · rw [wkN, if_neg h1, if_neg h2, if_neg h3, if_neg (by omega)]
theorem wk_full {k j : Nat} (hj : j < 8) (h6 : k = 6) : (-4 : Int32) = wkR k (nI j) ∧ k = wkN k (nI j) := by
  have h1 : ¬ nI j = -1 := nI_nm1 (by omega)
  have h2 : ¬ nI j < 0 := nI_pos (by omega)
  have h3 : ¬ (7 : Int32) < nI j := nI_nlt (a := 7) (b := j) (by omega) (by omega)
  constructor
  · rw [wkR, if_neg h1, if_neg h2, if_neg h3, if_pos h6]
  · rw [wkN, if_neg h1, if_neg h2, if_neg h3, if_pos h6]
theorem wk_none {k : Nat} {x : Int32} (h1 : ¬ x = -1) (h : x < 0 ∨ ¬ x < 8) : (-1 : Int32) = wkR k x ∧ k = wkN k x := by
  by_cases h2 : x < 0
  · exact ⟨by rw [wkR, if_neg h1, if_pos h2], by rw [wkN, if_neg h1, if_pos h2]⟩
  · have h3 : 7 < x := by
      rcases h with q | q
      · exact absurd q h2
      · exact Int32.lt_of_lt_of_le (by decide) (Int32.not_lt.mp q)
    exact ⟨by rw [wkR, if_neg h1, if_neg h2, if_pos h3], by rw [wkN, if_neg h1, if_neg h2, if_pos h3]⟩

theorem kc_copyFrom_0 : ∀ w ∈ wsX80, w ∈ wsX8_copyFrom := fun w h => List.mem_cons_of_mem _ (gin_wsX80 w h)
theorem kc_copyFrom_1 : (.fieldLink RX8 9 "MistHeaps$Scene" "tape" "[I" : Cond) ∈ wsX8_copyFrom := kc_of 152 rfl rfl rfl
theorem kc_copyFrom_2 : (.methodLink RX8 37 arraycopyName : Cond) ∈ wsX8_copyFrom := kc_of 1126 rfl rfl rfl
theorem kc_copyFrom_3 : (.native arraycopyName : Cond) ∈ wsX8_copyFrom := kc_of 1010 rfl rfl rfl
theorem kc_copyFrom_4 : (.static arraycopyName : Cond) ∈ wsX8_copyFrom := kc_of 1009 rfl rfl rfl
theorem kc_copyFrom_5 : (.initialized "java/lang/System" : Cond) ∈ wsX8_copyFrom := kc_of 91 rfl rfl rfl
theorem kc_copyFrom_6 : (.fieldLink RX8 43 "MistHeaps$Scene" "tapeSize" "I" : Cond) ∈ wsX8_copyFrom := kc_of 155 rfl rfl rfl
theorem kc_copyFrom_7 : (.fieldLink RX8 18 "MistHeaps$Scene" "hill" "LMistHeaps$Hill;" : Cond) ∈ wsX8_copyFrom := kc_of 156 rfl rfl rfl
theorem kc_copyFrom_8 : (.fieldLink RX8 47 "MistHeaps$Scene" "hills" "I" : Cond) ∈ wsX8_copyFrom := kc_of 158 rfl rfl rfl
theorem kc_copyFrom_9 : (.fieldLink RX8 50 "MistHeaps$Scene" "edges" "J" : Cond) ∈ wsX8_copyFrom := kc_of 160 rfl rfl rfl
theorem kc_copyFrom_10 : (.fieldLink RX8 54 "MistHeaps$Scene" "mist" "I" : Cond) ∈ wsX8_copyFrom := kc_of 163 rfl rfl rfl
theorem kc_copyFrom_11 : (.fieldLink RX8 57 "MistHeaps$Scene" "snow" "I" : Cond) ∈ wsX8_copyFrom := kc_of 165 rfl rfl rfl
theorem kc_copyFrom_12 : (.fieldLink RX8 60 "MistHeaps$Scene" "heapCount" "I" : Cond) ∈ wsX8_copyFrom := kc_of 172 rfl rfl rfl
theorem kc_copyFrom_13 : (.fieldLink RX8 28 "MistHeaps$Scene" "walk" "[I" : Cond) ∈ wsX8_copyFrom := kc_of 174 rfl rfl rfl
theorem kc_copyFrom_14 : (.fieldLink RX8 63 "MistHeaps$Scene" "walkSize" "I" : Cond) ∈ wsX8_copyFrom := kc_of 177 rfl rfl rfl
theorem kc_copyFrom_15 : (.fieldLink RX8 31 "MistHeaps$Scene" "book" "[I" : Cond) ∈ wsX8_copyFrom := kc_of 180 rfl rfl rfl
theorem kc_copyFrom_16 : (.fieldLink RX8 66 "MistHeaps$Scene" "bookSize" "I" : Cond) ∈ wsX8_copyFrom := kc_of 182 rfl rfl rfl
theorem kc_copyFrom_17 : (.fieldLink RX8 24 "MistHeaps$Scene" "heaps" "[LMistHeaps$Heap;" : Cond) ∈ wsX8_copyFrom := kc_of 168 rfl rfl rfl
set_option maxHeartbeats 4000000 in
set_option maxRecDepth 100000 in
theorem c_copyFrom (l : Launch) (dC : Nat → ClassId) (dI : Nat → Nat → Nat) (bS : Nat)  (sc : Nat) (kp : Nat) (aTp : Nat) (aHl : Nat) (aHs : Nat) (aWk : Nat) (aBk : Nat) (aFc : Nat) (kTp : Nat) (kHl : Nat) (kHs : Nat) (kWk : Nat) (kBk : Nat) (kFc : Nat) (ts : Nat) (nh : Nat) (n : Nat) (wz : Nat) (bz : Nat) (kn : Nat) (kts : Nat) (knh : Nat) (kwz : Nat) (kbz : Nat) (mi : Int32) (sn : Int32) (kmi : Int32) (ksn : Int32) (ed : Int64) (ked : Int64) (cTp : ClassId) (cHs : ClassId) (cWk : ClassId) (cBk : ClassId) (kcTp : ClassId) (kcHs : ClassId) (kcWk : ClassId) (kcBk : ClassId) (fTp : Nat → Int32) (fWk : Nat → Int32) (fBk : Nat → Int32) (kfTp : Nat → Int32) (kfWk : Nat → Int32) (kfBk : Nat → Int32) (yk : Nat → Int32) (yv : Nat → Int32) (yc : Nat → Int32) (fHs : Nat → Option Nat) (kfHs : Nat → Option Nat) (yi : Nat → Nat) (ya : Nat → Nat) (sz : Nat) (zhs : ∀ k0, k0 < n → fHs k0 = some (ya k0)) (hn8 : n ≤ 8) (zhn : ∀ k0, n ≤ k0 → k0 < 8 → fHs k0 = none) : Met l yX8_copyFrom wsX8_copyFrom ({ frames := 1, cells := 0, slots := 0, locals := 60 } : Room) (va_Pc [.ref kp, .ref sc] (fun U => U.heap.size = sz ∧ va_P (dC, dI) vwCl [(zo10ririliiriririr kp kTp (nI kts) kHl (nI knh) ked kmi ksn kHs (nI kn) kWk (nI kwz) kBk (nI kbz) kFc), (zaI kTp kcTp 100 kfTp), (zaR kHs kcHs 8 kfHs), (zaI kWk kcWk 6 kfWk), (zaI kBk kcBk 12 kfBk), (zo10ririliiriririr sc aTp (nI ts) aHl (nI nh) ed mi sn aHs (nI n) aWk (nI wz) aBk (nI bz) aFc), (zaI aTp cTp 100 fTp), (zaR aHs cHs 8 fHs), (zaI aWk cWk 6 fWk), (zaI aBk cBk 12 fBk)] U.heap ∧ va_K (dC, dI) vwCl [(kcTp, .int), (kcHs, .object "MistHeaps$Heap"), (kcWk, .int), (kcBk, .int), (cTp, .int), (cHs, .object "MistHeaps$Heap"), (cWk, .int), (cBk, .int)] U ∧ va_D (fun _ => True) [(zo10ririliiriririr kp kTp (nI kts) kHl (nI knh) ked kmi ksn kHs (nI kn) kWk (nI kwz) kBk (nI kbz) kFc), (zaI kTp kcTp 100 kfTp), (zaR kHs kcHs 8 kfHs), (zaI kWk kcWk 6 kfWk), (zaI kBk kcBk 12 kfBk), (zo10ririliiriririr sc aTp (nI ts) aHl (nI nh) ed mi sn aHs (nI n) aWk (nI wz) aBk (nI bz) aFc), (zaI aTp cTp 100 fTp), (zaR aHs cHs 8 fHs), (zaI aWk cWk 6 fWk), (zaI aBk cBk 12 fBk)] ∧ Gc bS (va_A [(zo10ririliiriririr kp kTp (nI kts) kHl (nI knh) ked kmi ksn kHs (nI kn) kWk (nI kwz) kBk (nI kbz) kFc), (zaI kTp kcTp 100 kfTp), (zaR kHs kcHs 8 kfHs), (zaI kWk kcWk 6 kfWk), (zaI kBk kcBk 12 kfBk), (zo10ririliiriririr sc aTp (nI ts) aHl (nI nh) ed mi sn aHs (nI n) aWk (nI wz) aBk (nI bz) aFc), (zaI aTp cTp 100 fTp), (zaR aHs cHs 8 fHs), (zaI aWk cWk 6 fWk), (zaI aBk cBk 12 fBk)] sz) U ∧ Hs dC dI n yi ya yk yv yc (va_A [(zo10ririliiriririr kp kTp (nI kts) kHl (nI knh) ked kmi ksn kHs (nI kn) kWk (nI kwz) kBk (nI kbz) kFc), (zaI kTp kcTp 100 kfTp), (zaR kHs kcHs 8 kfHs), (zaI kWk kcWk 6 kfWk), (zaI kBk kcBk 12 kfBk), (zo10ririliiriririr sc aTp (nI ts) aHl (nI nh) ed mi sn aHs (nI n) aWk (nI wz) aBk (nI bz) aFc), (zaI aTp cTp 100 fTp), (zaR aHs cHs 8 fHs), (zaI aWk cWk 6 fWk), (zaI aBk cBk 12 fBk)] sz) U)) (va_Qv (fun (u : (Nat) × (Nat) × (Nat) × (Int64) × (Int32) × (Int32) × (Nat) × (Nat) × (Nat) × (Nat → Int32) × (Nat → Option Nat) × (Nat → Int32) × (Nat → Int32)) => match u with | (kts9, kHl9, knh9, ked9, kmi9, ksn9, kn9, kwz9, kbz9, kfTp9, kfHs9, kfWk9, kfBk9) => kts9 = ts ∧ kHl9 = aHl ∧ knh9 = nh ∧ ked9 = ed ∧ kmi9 = mi ∧ ksn9 = sn ∧ kn9 = n ∧ kwz9 = wz ∧ kbz9 = bz ∧ (∀ k0, k0 < 100 → kfTp9 k0 = fTp k0) ∧ (∀ k0, k0 < 8 → kfHs9 k0 = fHs k0) ∧ (∀ k0, k0 < 6 → kfWk9 k0 = fWk k0) ∧ ∀ k0, k0 < 12 → kfBk9 k0 = fBk k0) (fun (u : (Nat) × (Nat) × (Nat) × (Int64) × (Int32) × (Int32) × (Nat) × (Nat) × (Nat) × (Nat → Int32) × (Nat → Option Nat) × (Nat → Int32) × (Nat → Int32)) (t : State) => match u with | (kts9, kHl9, knh9, ked9, kmi9, ksn9, kn9, kwz9, kbz9, kfTp9, kfHs9, kfWk9, kfBk9) => va_P (dC, dI) vwCl [(zo10ririliiriririr kp kTp (nI kts9) kHl9 (nI knh9) ked9 kmi9 ksn9 kHs (nI kn9) kWk (nI kwz9) kBk (nI kbz9) kFc), (zaI kTp kcTp 100 kfTp9), (zaR kHs kcHs 8 kfHs9), (zaI kWk kcWk 6 kfWk9), (zaI kBk kcBk 12 kfBk9), (zo10ririliiriririr sc aTp (nI ts) aHl (nI nh) ed mi sn aHs (nI n) aWk (nI wz) aBk (nI bz) aFc), (zaI aTp cTp 100 fTp), (zaR aHs cHs 8 fHs), (zaI aWk cWk 6 fWk), (zaI aBk cBk 12 fBk)] t.heap ∧ va_K (dC, dI) vwCl [(kcTp, .int), (kcHs, .object "MistHeaps$Heap"), (kcWk, .int), (kcBk, .int), (cTp, .int), (cHs, .object "MistHeaps$Heap"), (cWk, .int), (cBk, .int)] t ∧ va_D (va_A [(zo10ririliiriririr kp kTp (nI kts) kHl (nI knh) ked kmi ksn kHs (nI kn) kWk (nI kwz) kBk (nI kbz) kFc), (zaI kTp kcTp 100 kfTp), (zaR kHs kcHs 8 kfHs), (zaI kWk kcWk 6 kfWk), (zaI kBk kcBk 12 kfBk), (zo10ririliiriririr sc aTp (nI ts) aHl (nI nh) ed mi sn aHs (nI n) aWk (nI wz) aBk (nI bz) aFc), (zaI aTp cTp 100 fTp), (zaR aHs cHs 8 fHs), (zaI aWk cWk 6 fWk), (zaI aBk cBk 12 fBk)] sz) [(zo10ririliiriririr kp kTp (nI kts9) kHl9 (nI knh9) ked9 kmi9 ksn9 kHs (nI kn9) kWk (nI kwz9) kBk (nI kbz9) kFc), (zaI kTp kcTp 100 kfTp9), (zaR kHs kcHs 8 kfHs9), (zaI kWk kcWk 6 kfWk9), (zaI kBk kcBk 12 kfBk9), (zo10ririliiriririr sc aTp (nI ts) aHl (nI nh) ed mi sn aHs (nI n) aWk (nI wz) aBk (nI bz) aFc), (zaI aTp cTp 100 fTp), (zaR aHs cHs 8 fHs), (zaI aWk cWk 6 fWk), (zaI aBk cBk 12 fBk)]) (va_A [(zo10ririliiriririr kp kTp (nI kts) kHl (nI knh) ked kmi ksn kHs (nI kn) kWk (nI kwz) kBk (nI kbz) kFc), (zaI kTp kcTp 100 kfTp), (zaR kHs kcHs 8 kfHs), (zaI kWk kcWk 6 kfWk), (zaI kBk kcBk 12 kfBk), (zo10ririliiriririr sc aTp (nI ts) aHl (nI nh) ed mi sn aHs (nI n) aWk (nI wz) aBk (nI bz) aFc), (zaI aTp cTp 100 fTp), (zaR aHs cHs 8 fHs), (zaI aWk cWk 6 fWk), (zaI aBk cBk 12 fBk)] sz)) 0 0 (va_A [(zo10ririliiriririr kp kTp (nI kts) kHl (nI knh) ked kmi ksn kHs (nI kn) kWk (nI kwz) kBk (nI kbz) kFc), (zaI kTp kcTp 100 kfTp), (zaR kHs kcHs 8 kfHs), (zaI kWk kcWk 6 kfWk), (zaI kBk kcBk 12 kfBk), (zo10ririliiriririr sc aTp (nI ts) aHl (nI nh) ed mi sn aHs (nI n) aWk (nI wz) aBk (nI bz) aFc), (zaI aTp cTp 100 fTp), (zaR aHs cHs 8 fHs), (zaI aWk cWk 6 fWk), (zaI aBk cBk 12 fBk)] sz) := by
  refine met_ofQ (cc := cX8_copyFrom) (maxL := 3) (ret := none) (by decide) rfl ?_
  intro p e s m args below meth c s₁ Q B hml hv hQ
  obtain ⟨rfl, hsz, hP, hK, hD0, hC, hH_⟩ := hv
  have hx := B.exec
  have hb := B.bytes
  have hr := B.returns
  have hts := atoms_spec (ws := wsX8_copyFrom) B.pre
  have hown : s.vm.findClass RX8 = some m.cls := findClass_of_methodNamed B.named
  have hlocks := B.notSynchronized
  subst hsz
  have hD := hD0.self (sz := s.heap.size)
  generalize hAe : va_A [(zo10ririliiriririr kp kTp (nI kts) kHl (nI knh) ked kmi ksn kHs (nI kn) kWk (nI kwz) kBk (nI kbz) kFc), (zaI kTp kcTp 100 kfTp), (zaR kHs kcHs 8 kfHs), (zaI kWk kcWk 6 kfWk), (zaI kBk kcBk 12 kfBk), (zo10ririliiriririr sc aTp (nI ts) aHl (nI nh) ed mi sn aHs (nI n) aWk (nI wz) aBk (nI bz) aFc), (zaI aTp cTp 100 fTp), (zaR aHs cHs 8 fHs), (zaI aWk cWk 6 fWk), (zaI aBk cBk 12 fBk)] s.heap.size = A at hD hQ hC hH_ ⊢
  have hA : ∀ q : Nat, s.heap.size ≤ q → A q := fun q h => by rw [← hAe]; exact Or.inr h
  have hS : va_S A s.heap s.heap [] := va_S.rf
  have hl := lv_entry [.ref kp, .ref sc] (n := 3) (Nat.le_of_ble_eq_true rfl)
  rw [lg_entry_eq]
  generalize (lg_sl [.ref kp, .ref sc] ++ List.replicate (3 - (lg_sl [.ref kp, .ref sc]).length) Slot.unset).toArray = ls at hl ⊢
  generalize hag : ([.ref kp, .ref sc] : List Value).toArray = args at hts hQ ⊢
  have hl : lv_has ls 3 [(0, .ref kp), (1, .ref sc)] := hl
  obtain ⟨H, hH⟩ : ∃ H : Heap, H = s.heap := ⟨_, rfl⟩
  rw [← hH] at hP
  rw [← hH]
  have hS : va_S A s.heap H [] := by rw [hH]; exact hS
  obtain ⟨locs, hlo⟩ : ∃ L : List Loc, L = [] := ⟨_, rfl⟩
  rw [← hlo] at hS
  rw [← hlo]
  clear hH hlo
  refine lv_aload_n hx hb dX8_copyFrom_0 rfl (lv_at hl 1 rfl) ?_
  refine va_get (D := (dC, dI)) (ci := 10) (v := .ref aTp) (C := RX8) (T := TX8) (N := 14) hx hb hts kc_copyFrom_0 hown hK hP 5 rfl rfl 0 (by decide) (hts (.fieldLink RX8 9 "MistHeaps$Scene" "tape" "[I") kc_copyFrom_1) (fun _ h9 => h9) rfl dX8_copyFrom_1 ?_
  refine lv_iconst (v := 0) hx hb dX8_copyFrom_4 (by decide) ?_
  refine lv_aload_n hx hb dX8_copyFrom_5 rfl (lv_at hl 0 rfl) ?_
  refine va_get (D := (dC, dI)) (ci := 10) (v := .ref kTp) (C := RX8) (T := TX8) (N := 14) hx hb hts kc_copyFrom_0 hown hK hP 0 rfl rfl 0 (by decide) (hts (.fieldLink RX8 9 "MistHeaps$Scene" "tape" "[I") kc_copyFrom_1) (fun _ h9 => h9) rfl dX8_copyFrom_6 ?_
  refine lv_iconst (v := 0) hx hb dX8_copyFrom_9 (by decide) ?_
  refine lv_bipush (v := 100) hx hb dX8_copyFrom_10 (by decide) ?_
  refine va_copyi hx hb (by rw [hml]; exact hl.1.symm) hown (hts (.methodLink RX8 37 arraycopyName) kc_copyFrom_2) (hts (.native arraycopyName) kc_copyFrom_3) (hts (.static arraycopyName) kc_copyFrom_4) (hts (.initialized "java/lang/System") kc_copyFrom_5) hK hP hD hS 6 1 4 0 rfl rfl rfl rfl rfl (by decide) (by decide) (by decide) (by decide) (by decide) (fun _ _ => rfl) (Nat.le_of_ble_eq_true rfl) (Nat.le_of_ble_eq_true rfl) dX8_copyFrom_12 (fun H locs hP hD hS => ?_)
  have hP : va_P (dC, dI) vwCl [(zo10ririliiriririr kp kTp (nI kts) kHl (nI knh) ked kmi ksn kHs (nI kn) kWk (nI kwz) kBk (nI kbz) kFc), (zaI kTp kcTp 100 (va_cpy fTp kfTp 0 0 100)), (zaR kHs kcHs 8 kfHs), (zaI kWk kcWk 6 kfWk), (zaI kBk kcBk 12 kfBk), (zo10ririliiriririr sc aTp (nI ts) aHl (nI nh) ed mi sn aHs (nI n) aWk (nI wz) aBk (nI bz) aFc), (zaI aTp cTp 100 fTp), (zaR aHs cHs 8 fHs), (zaI aWk cWk 6 fWk), (zaI aBk cBk 12 fBk)] H := hP
  have hD : va_D A [(zo10ririliiriririr kp kTp (nI kts) kHl (nI knh) ked kmi ksn kHs (nI kn) kWk (nI kwz) kBk (nI kbz) kFc), (zaI kTp kcTp 100 (va_cpy fTp kfTp 0 0 100)), (zaR kHs kcHs 8 kfHs), (zaI kWk kcWk 6 kfWk), (zaI kBk kcBk 12 kfBk), (zo10ririliiriririr sc aTp (nI ts) aHl (nI nh) ed mi sn aHs (nI n) aWk (nI wz) aBk (nI bz) aFc), (zaI aTp cTp 100 fTp), (zaR aHs cHs 8 fHs), (zaI aWk cWk 6 fWk), (zaI aBk cBk 12 fBk)] := hD
  refine lv_aload_n hx hb dX8_copyFrom_15 rfl (lv_at hl 0 rfl) ?_
  refine lv_aload_n hx hb dX8_copyFrom_16 rfl (lv_at hl 1 rfl) ?_
  refine va_get (D := (dC, dI)) (ci := 10) (v := .int (nI ts)) (C := RX8) (T := TX8) (N := 14) hx hb hts kc_copyFrom_0 hown hK hP 5 rfl rfl 1 (by decide) (hts (.fieldLink RX8 43 "MistHeaps$Scene" "tapeSize" "I") kc_copyFrom_6) (fun _ h9 => h9) rfl dX8_copyFrom_17 ?_
  refine va_put (D := (dC, dI)) (ci := 10) (v := .int (nI ts)) (ty := .int) (C := RX8) (T := TX8) (N := 14) hx hb hts kc_copyFrom_0 tyX8 tyX8_ok nmX8 hown hK hP hD hS 0 rfl rfl 1 (by decide) (hts (.fieldLink RX8 43 "MistHeaps$Scene" "tapeSize" "I") kc_copyFrom_6) (fun _ h9 => h9) rfl (by decide +kernel) rfl rfl (Nat.le_of_ble_eq_true rfl) dX8_copyFrom_20 (fun H locs hP hD hS => ?_)
  have hP : va_P (dC, dI) vwCl [(zo10ririliiriririr kp kTp (nI ts) kHl (nI knh) ked kmi ksn kHs (nI kn) kWk (nI kwz) kBk (nI kbz) kFc), (zaI kTp kcTp 100 (va_cpy fTp kfTp 0 0 100)), (zaR kHs kcHs 8 kfHs), (zaI kWk kcWk 6 kfWk), (zaI kBk kcBk 12 kfBk), (zo10ririliiriririr sc aTp (nI ts) aHl (nI nh) ed mi sn aHs (nI n) aWk (nI wz) aBk (nI bz) aFc), (zaI aTp cTp 100 fTp), (zaR aHs cHs 8 fHs), (zaI aWk cWk 6 fWk), (zaI aBk cBk 12 fBk)] H := hP
  have hD : va_D A [(zo10ririliiriririr kp kTp (nI ts) kHl (nI knh) ked kmi ksn kHs (nI kn) kWk (nI kwz) kBk (nI kbz) kFc), (zaI kTp kcTp 100 (va_cpy fTp kfTp 0 0 100)), (zaR kHs kcHs 8 kfHs), (zaI kWk kcWk 6 kfWk), (zaI kBk kcBk 12 kfBk), (zo10ririliiriririr sc aTp (nI ts) aHl (nI nh) ed mi sn aHs (nI n) aWk (nI wz) aBk (nI bz) aFc), (zaI aTp cTp 100 fTp), (zaR aHs cHs 8 fHs), (zaI aWk cWk 6 fWk), (zaI aBk cBk 12 fBk)] := hD
  refine lv_aload_n hx hb dX8_copyFrom_23 rfl (lv_at hl 0 rfl) ?_
  refine lv_aload_n hx hb dX8_copyFrom_24 rfl (lv_at hl 1 rfl) ?_
  refine va_get (D := (dC, dI)) (ci := 10) (v := .ref aHl) (C := RX8) (T := TX8) (N := 14) hx hb hts kc_copyFrom_0 hown hK hP 5 rfl rfl 2 (by decide) (hts (.fieldLink RX8 18 "MistHeaps$Scene" "hill" "LMistHeaps$Hill;") kc_copyFrom_7) (fun _ h9 => h9) rfl dX8_copyFrom_25 ?_
  refine va_put (D := (dC, dI)) (ci := 10) (v := .ref aHl) (ty := .object "MistHeaps$Hill") (C := RX8) (T := TX8) (N := 14) hx hb hts kc_copyFrom_0 tyX8 tyX8_ok nmX8 hown hK hP hD hS 0 rfl rfl 2 (by decide) (hts (.fieldLink RX8 18 "MistHeaps$Scene" "hill" "LMistHeaps$Hill;") kc_copyFrom_7) (fun _ h9 => h9) rfl (by decide +kernel) rfl rfl (Nat.le_of_ble_eq_true rfl) dX8_copyFrom_28 (fun H locs hP hD hS => ?_)
  have hP : va_P (dC, dI) vwCl [(zo10ririliiriririr kp kTp (nI ts) aHl (nI knh) ked kmi ksn kHs (nI kn) kWk (nI kwz) kBk (nI kbz) kFc), (zaI kTp kcTp 100 (va_cpy fTp kfTp 0 0 100)), (zaR kHs kcHs 8 kfHs), (zaI kWk kcWk 6 kfWk), (zaI kBk kcBk 12 kfBk), (zo10ririliiriririr sc aTp (nI ts) aHl (nI nh) ed mi sn aHs (nI n) aWk (nI wz) aBk (nI bz) aFc), (zaI aTp cTp 100 fTp), (zaR aHs cHs 8 fHs), (zaI aWk cWk 6 fWk), (zaI aBk cBk 12 fBk)] H := hP
  have hD : va_D A [(zo10ririliiriririr kp kTp (nI ts) aHl (nI knh) ked kmi ksn kHs (nI kn) kWk (nI kwz) kBk (nI kbz) kFc), (zaI kTp kcTp 100 (va_cpy fTp kfTp 0 0 100)), (zaR kHs kcHs 8 kfHs), (zaI kWk kcWk 6 kfWk), (zaI kBk kcBk 12 kfBk), (zo10ririliiriririr sc aTp (nI ts) aHl (nI nh) ed mi sn aHs (nI n) aWk (nI wz) aBk (nI bz) aFc), (zaI aTp cTp 100 fTp), (zaR aHs cHs 8 fHs), (zaI aWk cWk 6 fWk), (zaI aBk cBk 12 fBk)] := hD
  refine lv_aload_n hx hb dX8_copyFrom_31 rfl (lv_at hl 0 rfl) ?_
  refine lv_aload_n hx hb dX8_copyFrom_32 rfl (lv_at hl 1 rfl) ?_
  refine va_get (D := (dC, dI)) (ci := 10) (v := .int (nI nh)) (C := RX8) (T := TX8) (N := 14) hx hb hts kc_copyFrom_0 hown hK hP 5 rfl rfl 3 (by decide) (hts (.fieldLink RX8 47 "MistHeaps$Scene" "hills" "I") kc_copyFrom_8) (fun _ h9 => h9) rfl dX8_copyFrom_33 ?_
  refine va_put (D := (dC, dI)) (ci := 10) (v := .int (nI nh)) (ty := .int) (C := RX8) (T := TX8) (N := 14) hx hb hts kc_copyFrom_0 tyX8 tyX8_ok nmX8 hown hK hP hD hS 0 rfl rfl 3 (by decide) (hts (.fieldLink RX8 47 "MistHeaps$Scene" "hills" "I") kc_copyFrom_8) (fun _ h9 => h9) rfl (by decide +kernel) rfl rfl (Nat.le_of_ble_eq_true rfl) dX8_copyFrom_36 (fun H locs hP hD hS => ?_)
  have hP : va_P (dC, dI) vwCl [(zo10ririliiriririr kp kTp (nI ts) aHl (nI nh) ked kmi ksn kHs (nI kn) kWk (nI kwz) kBk (nI kbz) kFc), (zaI kTp kcTp 100 (va_cpy fTp kfTp 0 0 100)), (zaR kHs kcHs 8 kfHs), (zaI kWk kcWk 6 kfWk), (zaI kBk kcBk 12 kfBk), (zo10ririliiriririr sc aTp (nI ts) aHl (nI nh) ed mi sn aHs (nI n) aWk (nI wz) aBk (nI bz) aFc), (zaI aTp cTp 100 fTp), (zaR aHs cHs 8 fHs), (zaI aWk cWk 6 fWk), (zaI aBk cBk 12 fBk)] H := hP
  have hD : va_D A [(zo10ririliiriririr kp kTp (nI ts) aHl (nI nh) ked kmi ksn kHs (nI kn) kWk (nI kwz) kBk (nI kbz) kFc), (zaI kTp kcTp 100 (va_cpy fTp kfTp 0 0 100)), (zaR kHs kcHs 8 kfHs), (zaI kWk kcWk 6 kfWk), (zaI kBk kcBk 12 kfBk), (zo10ririliiriririr sc aTp (nI ts) aHl (nI nh) ed mi sn aHs (nI n) aWk (nI wz) aBk (nI bz) aFc), (zaI aTp cTp 100 fTp), (zaR aHs cHs 8 fHs), (zaI aWk cWk 6 fWk), (zaI aBk cBk 12 fBk)] := hD
  refine lv_aload_n hx hb dX8_copyFrom_39 rfl (lv_at hl 0 rfl) ?_
  refine lv_aload_n hx hb dX8_copyFrom_40 rfl (lv_at hl 1 rfl) ?_
  refine va_get (D := (dC, dI)) (ci := 10) (v := .long ed) (C := RX8) (T := TX8) (N := 14) hx hb hts kc_copyFrom_0 hown hK hP 5 rfl rfl 4 (by decide) (hts (.fieldLink RX8 50 "MistHeaps$Scene" "edges" "J") kc_copyFrom_9) (fun _ h9 => h9) rfl dX8_copyFrom_41 ?_
  refine va_put (D := (dC, dI)) (ci := 10) (v := .long ed) (ty := .long) (C := RX8) (T := TX8) (N := 14) hx hb hts kc_copyFrom_0 tyX8 tyX8_ok nmX8 hown hK hP hD hS 0 rfl rfl 4 (by decide) (hts (.fieldLink RX8 50 "MistHeaps$Scene" "edges" "J") kc_copyFrom_9) (fun _ h9 => h9) rfl (by decide +kernel) rfl rfl (Nat.le_of_ble_eq_true rfl) dX8_copyFrom_44 (fun H locs hP hD hS => ?_)
  have hP : va_P (dC, dI) vwCl [(zo10ririliiriririr kp kTp (nI ts) aHl (nI nh) ed kmi ksn kHs (nI kn) kWk (nI kwz) kBk (nI kbz) kFc), (zaI kTp kcTp 100 (va_cpy fTp kfTp 0 0 100)), (zaR kHs kcHs 8 kfHs), (zaI kWk kcWk 6 kfWk), (zaI kBk kcBk 12 kfBk), (zo10ririliiriririr sc aTp (nI ts) aHl (nI nh) ed mi sn aHs (nI n) aWk (nI wz) aBk (nI bz) aFc), (zaI aTp cTp 100 fTp), (zaR aHs cHs 8 fHs), (zaI aWk cWk 6 fWk), (zaI aBk cBk 12 fBk)] H := hP
  have hD : va_D A [(zo10ririliiriririr kp kTp (nI ts) aHl (nI nh) ed kmi ksn kHs (nI kn) kWk (nI kwz) kBk (nI kbz) kFc), (zaI kTp kcTp 100 (va_cpy fTp kfTp 0 0 100)), (zaR kHs kcHs 8 kfHs), (zaI kWk kcWk 6 kfWk), (zaI kBk kcBk 12 kfBk), (zo10ririliiriririr sc aTp (nI ts) aHl (nI nh) ed mi sn aHs (nI n) aWk (nI wz) aBk (nI bz) aFc), (zaI aTp cTp 100 fTp), (zaR aHs cHs 8 fHs), (zaI aWk cWk 6 fWk), (zaI aBk cBk 12 fBk)] := hD
  refine lv_aload_n hx hb dX8_copyFrom_47 rfl (lv_at hl 0 rfl) ?_
  refine lv_aload_n hx hb dX8_copyFrom_48 rfl (lv_at hl 1 rfl) ?_
  refine va_get (D := (dC, dI)) (ci := 10) (v := .int mi) (C := RX8) (T := TX8) (N := 14) hx hb hts kc_copyFrom_0 hown hK hP 5 rfl rfl 5 (by decide) (hts (.fieldLink RX8 54 "MistHeaps$Scene" "mist" "I") kc_copyFrom_10) (fun _ h9 => h9) rfl dX8_copyFrom_49 ?_
  refine va_put (D := (dC, dI)) (ci := 10) (v := .int mi) (ty := .int) (C := RX8) (T := TX8) (N := 14) hx hb hts kc_copyFrom_0 tyX8 tyX8_ok nmX8 hown hK hP hD hS 0 rfl rfl 5 (by decide) (hts (.fieldLink RX8 54 "MistHeaps$Scene" "mist" "I") kc_copyFrom_10) (fun _ h9 => h9) rfl (by decide +kernel) rfl rfl (Nat.le_of_ble_eq_true rfl) dX8_copyFrom_52 (fun H locs hP hD hS => ?_)
  have hP : va_P (dC, dI) vwCl [(zo10ririliiriririr kp kTp (nI ts) aHl (nI nh) ed mi ksn kHs (nI kn) kWk (nI kwz) kBk (nI kbz) kFc), (zaI kTp kcTp 100 (va_cpy fTp kfTp 0 0 100)), (zaR kHs kcHs 8 kfHs), (zaI kWk kcWk 6 kfWk), (zaI kBk kcBk 12 kfBk), (zo10ririliiriririr sc aTp (nI ts) aHl (nI nh) ed mi sn aHs (nI n) aWk (nI wz) aBk (nI bz) aFc), (zaI aTp cTp 100 fTp), (zaR aHs cHs 8 fHs), (zaI aWk cWk 6 fWk), (zaI aBk cBk 12 fBk)] H := hP
  have hD : va_D A [(zo10ririliiriririr kp kTp (nI ts) aHl (nI nh) ed mi ksn kHs (nI kn) kWk (nI kwz) kBk (nI kbz) kFc), (zaI kTp kcTp 100 (va_cpy fTp kfTp 0 0 100)), (zaR kHs kcHs 8 kfHs), (zaI kWk kcWk 6 kfWk), (zaI kBk kcBk 12 kfBk), (zo10ririliiriririr sc aTp (nI ts) aHl (nI nh) ed mi sn aHs (nI n) aWk (nI wz) aBk (nI bz) aFc), (zaI aTp cTp 100 fTp), (zaR aHs cHs 8 fHs), (zaI aWk cWk 6 fWk), (zaI aBk cBk 12 fBk)] := hD
  refine lv_aload_n hx hb dX8_copyFrom_55 rfl (lv_at hl 0 rfl) ?_
  refine lv_aload_n hx hb dX8_copyFrom_56 rfl (lv_at hl 1 rfl) ?_
  refine va_get (D := (dC, dI)) (ci := 10) (v := .int sn) (C := RX8) (T := TX8) (N := 14) hx hb hts kc_copyFrom_0 hown hK hP 5 rfl rfl 6 (by decide) (hts (.fieldLink RX8 57 "MistHeaps$Scene" "snow" "I") kc_copyFrom_11) (fun _ h9 => h9) rfl dX8_copyFrom_57 ?_
  refine va_put (D := (dC, dI)) (ci := 10) (v := .int sn) (ty := .int) (C := RX8) (T := TX8) (N := 14) hx hb hts kc_copyFrom_0 tyX8 tyX8_ok nmX8 hown hK hP hD hS 0 rfl rfl 6 (by decide) (hts (.fieldLink RX8 57 "MistHeaps$Scene" "snow" "I") kc_copyFrom_11) (fun _ h9 => h9) rfl (by decide +kernel) rfl rfl (Nat.le_of_ble_eq_true rfl) dX8_copyFrom_60 (fun H locs hP hD hS => ?_)
  have hP : va_P (dC, dI) vwCl [(zo10ririliiriririr kp kTp (nI ts) aHl (nI nh) ed mi sn kHs (nI kn) kWk (nI kwz) kBk (nI kbz) kFc), (zaI kTp kcTp 100 (va_cpy fTp kfTp 0 0 100)), (zaR kHs kcHs 8 kfHs), (zaI kWk kcWk 6 kfWk), (zaI kBk kcBk 12 kfBk), (zo10ririliiriririr sc aTp (nI ts) aHl (nI nh) ed mi sn aHs (nI n) aWk (nI wz) aBk (nI bz) aFc), (zaI aTp cTp 100 fTp), (zaR aHs cHs 8 fHs), (zaI aWk cWk 6 fWk), (zaI aBk cBk 12 fBk)] H := hP
  have hD : va_D A [(zo10ririliiriririr kp kTp (nI ts) aHl (nI nh) ed mi sn kHs (nI kn) kWk (nI kwz) kBk (nI kbz) kFc), (zaI kTp kcTp 100 (va_cpy fTp kfTp 0 0 100)), (zaR kHs kcHs 8 kfHs), (zaI kWk kcWk 6 kfWk), (zaI kBk kcBk 12 kfBk), (zo10ririliiriririr sc aTp (nI ts) aHl (nI nh) ed mi sn aHs (nI n) aWk (nI wz) aBk (nI bz) aFc), (zaI aTp cTp 100 fTp), (zaR aHs cHs 8 fHs), (zaI aWk cWk 6 fWk), (zaI aBk cBk 12 fBk)] := hD
  refine lv_iconst (v := 0) hx hb dX8_copyFrom_63 (by decide) ?_
  refine lv_istore_n (lv' := [(2, .int 0), (0, .ref kp), (1, .ref sc)]) hx hb dX8_copyFrom_64 rfl hl (by decide) rfl (fun ls hl => ?_)
  have L65 : ∀ (nF : Nat) (i : Nat) (f2 : Nat → Option Nat), 8 - i < nF → (i ≤ 8) → (∀ k0, k0 < i → f2 k0 = fHs k0) → ∀ (H : Heap) (locs : List Loc), va_K (dC, dI) vwCl [(kcTp, .int), (kcHs, .object "MistHeaps$Heap"), (kcWk, .int), (kcBk, .int), (cTp, .int), (cHs, .object "MistHeaps$Heap"), (cWk, .int), (cBk, .int)] s → va_P (dC, dI) vwCl [(zo10ririliiriririr kp kTp (nI ts) aHl (nI nh) ed mi sn kHs (nI kn) kWk (nI kwz) kBk (nI kbz) kFc), (zaI kTp kcTp 100 (va_cpy fTp kfTp 0 0 100)), (zaR kHs kcHs 8 f2), (zaI kWk kcWk 6 kfWk), (zaI kBk kcBk 12 kfBk), (zo10ririliiriririr sc aTp (nI ts) aHl (nI nh) ed mi sn aHs (nI n) aWk (nI wz) aBk (nI bz) aFc), (zaI aTp cTp 100 fTp), (zaR aHs cHs 8 fHs), (zaI aWk cWk 6 fWk), (zaI aBk cBk 12 fBk)] H → va_D A [(zo10ririliiriririr kp kTp (nI ts) aHl (nI nh) ed mi sn kHs (nI kn) kWk (nI kwz) kBk (nI kbz) kFc), (zaI kTp kcTp 100 (va_cpy fTp kfTp 0 0 100)), (zaR kHs kcHs 8 f2), (zaI kWk kcWk 6 kfWk), (zaI kBk kcBk 12 kfBk), (zo10ririliiriririr sc aTp (nI ts) aHl (nI nh) ed mi sn aHs (nI n) aWk (nI wz) aBk (nI bz) aFc), (zaI aTp cTp 100 fTp), (zaR aHs cHs 8 fHs), (zaI aWk cWk 6 fWk), (zaI aBk cBk 12 fBk)] → va_S A s.heap H locs → ∀ (ls : Array Slot), lv_has ls 3 [(0, .ref kp), (1, .ref sc), (2, .int (nI i))] → W p l e ({ frames := 1, cells := 0, slots := 0, locals := 60 } : Room) s m args below meth c H locs 0 0 Q (F0 m 65 ls []) := by
    intro nF
    induction nF with
    | zero => intro i f2 hm; exact absurd hm (Nat.not_lt_zero _)
    | succ nF ih65 =>
      intro i f2 hm hi hf2 H locs hK hP hD hS ls hl
      refine lv_iload_n hx hb dX8_copyFrom_65 rfl (lv_at hl 2 rfl) ?_
      refine lv_bipush (v := 8) hx hb dX8_copyFrom_66 (by decide) ?_
      refine lv_icmp_ge (tgt := 89) hx hb dX8_copyFrom_68 (by decide) (fun c_1 => ?_) (fun c_1 => ?_)
      · skip
        have c_1 : 8 ≤ i := (nI_leI (a := 8) (b := i) (by omega) (by omega)).mp c_1
        refine lv_aload_n hx hb dX8_copyFrom_89 rfl (lv_at hl 0 rfl) ?_
        refine lv_aload_n hx hb dX8_copyFrom_90 rfl (lv_at hl 1 rfl) ?_
        refine va_get (D := (dC, dI)) (ci := 10) (v := .int (nI n)) (C := RX8) (T := TX8) (N := 14) hx hb hts kc_copyFrom_0 hown hK hP 5 rfl rfl 8 (by decide) (hts (.fieldLink RX8 60 "MistHeaps$Scene" "heapCount" "I") kc_copyFrom_12) (fun _ h9 => h9) rfl dX8_copyFrom_91 ?_
        refine va_put (D := (dC, dI)) (ci := 10) (v := .int (nI n)) (ty := .int) (C := RX8) (T := TX8) (N := 14) hx hb hts kc_copyFrom_0 tyX8 tyX8_ok nmX8 hown hK hP hD hS 0 rfl rfl 8 (by decide) (hts (.fieldLink RX8 60 "MistHeaps$Scene" "heapCount" "I") kc_copyFrom_12) (fun _ h9 => h9) rfl (by decide +kernel) rfl rfl (Nat.le_of_ble_eq_true rfl) dX8_copyFrom_94 (fun H locs hP hD hS => ?_)
        have hP : va_P (dC, dI) vwCl [(zo10ririliiriririr kp kTp (nI ts) aHl (nI nh) ed mi sn kHs (nI n) kWk (nI kwz) kBk (nI kbz) kFc), (zaI kTp kcTp 100 (va_cpy fTp kfTp 0 0 100)), (zaR kHs kcHs 8 f2), (zaI kWk kcWk 6 kfWk), (zaI kBk kcBk 12 kfBk), (zo10ririliiriririr sc aTp (nI ts) aHl (nI nh) ed mi sn aHs (nI n) aWk (nI wz) aBk (nI bz) aFc), (zaI aTp cTp 100 fTp), (zaR aHs cHs 8 fHs), (zaI aWk cWk 6 fWk), (zaI aBk cBk 12 fBk)] H := hP
        have hD : va_D A [(zo10ririliiriririr kp kTp (nI ts) aHl (nI nh) ed mi sn kHs (nI n) kWk (nI kwz) kBk (nI kbz) kFc), (zaI kTp kcTp 100 (va_cpy fTp kfTp 0 0 100)), (zaR kHs kcHs 8 f2), (zaI kWk kcWk 6 kfWk), (zaI kBk kcBk 12 kfBk), (zo10ririliiriririr sc aTp (nI ts) aHl (nI nh) ed mi sn aHs (nI n) aWk (nI wz) aBk (nI bz) aFc), (zaI aTp cTp 100 fTp), (zaR aHs cHs 8 fHs), (zaI aWk cWk 6 fWk), (zaI aBk cBk 12 fBk)] := hD
        refine lv_aload_n hx hb dX8_copyFrom_97 rfl (lv_at hl 1 rfl) ?_
        refine va_get (D := (dC, dI)) (ci := 10) (v := .ref aWk) (C := RX8) (T := TX8) (N := 14) hx hb hts kc_copyFrom_0 hown hK hP 5 rfl rfl 9 (by decide) (hts (.fieldLink RX8 28 "MistHeaps$Scene" "walk" "[I") kc_copyFrom_13) (fun _ h9 => h9) rfl dX8_copyFrom_98 ?_
        refine lv_iconst (v := 0) hx hb dX8_copyFrom_101 (by decide) ?_
        refine lv_aload_n hx hb dX8_copyFrom_102 rfl (lv_at hl 0 rfl) ?_
        refine va_get (D := (dC, dI)) (ci := 10) (v := .ref kWk) (C := RX8) (T := TX8) (N := 14) hx hb hts kc_copyFrom_0 hown hK hP 0 rfl rfl 9 (by decide) (hts (.fieldLink RX8 28 "MistHeaps$Scene" "walk" "[I") kc_copyFrom_13) (fun _ h9 => h9) rfl dX8_copyFrom_103 ?_
        refine lv_iconst (v := 0) hx hb dX8_copyFrom_106 (by decide) ?_
        refine lv_bipush (v := 6) hx hb dX8_copyFrom_107 (by decide) ?_
        refine va_copyi hx hb (by rw [hml]; exact hl.1.symm) hown (hts (.methodLink RX8 37 arraycopyName) kc_copyFrom_2) (hts (.native arraycopyName) kc_copyFrom_3) (hts (.static arraycopyName) kc_copyFrom_4) (hts (.initialized "java/lang/System") kc_copyFrom_5) hK hP hD hS 8 3 6 2 rfl rfl rfl rfl rfl (by decide) (by decide) (by decide) (by decide) (by decide) (fun _ _ => rfl) (Nat.le_of_ble_eq_true rfl) (Nat.le_of_ble_eq_true rfl) dX8_copyFrom_109 (fun H locs hP hD hS => ?_)
        have hP : va_P (dC, dI) vwCl [(zo10ririliiriririr kp kTp (nI ts) aHl (nI nh) ed mi sn kHs (nI n) kWk (nI kwz) kBk (nI kbz) kFc), (zaI kTp kcTp 100 (va_cpy fTp kfTp 0 0 100)), (zaR kHs kcHs 8 f2), (zaI kWk kcWk 6 (va_cpy fWk kfWk 0 0 6)), (zaI kBk kcBk 12 kfBk), (zo10ririliiriririr sc aTp (nI ts) aHl (nI nh) ed mi sn aHs (nI n) aWk (nI wz) aBk (nI bz) aFc), (zaI aTp cTp 100 fTp), (zaR aHs cHs 8 fHs), (zaI aWk cWk 6 fWk), (zaI aBk cBk 12 fBk)] H := hP
        have hD : va_D A [(zo10ririliiriririr kp kTp (nI ts) aHl (nI nh) ed mi sn kHs (nI n) kWk (nI kwz) kBk (nI kbz) kFc), (zaI kTp kcTp 100 (va_cpy fTp kfTp 0 0 100)), (zaR kHs kcHs 8 f2), (zaI kWk kcWk 6 (va_cpy fWk kfWk 0 0 6)), (zaI kBk kcBk 12 kfBk), (zo10ririliiriririr sc aTp (nI ts) aHl (nI nh) ed mi sn aHs (nI n) aWk (nI wz) aBk (nI bz) aFc), (zaI aTp cTp 100 fTp), (zaR aHs cHs 8 fHs), (zaI aWk cWk 6 fWk), (zaI aBk cBk 12 fBk)] := hD
        refine lv_aload_n hx hb dX8_copyFrom_112 rfl (lv_at hl 0 rfl) ?_
        refine lv_aload_n hx hb dX8_copyFrom_113 rfl (lv_at hl 1 rfl) ?_
        refine va_get (D := (dC, dI)) (ci := 10) (v := .int (nI wz)) (C := RX8) (T := TX8) (N := 14) hx hb hts kc_copyFrom_0 hown hK hP 5 rfl rfl 10 (by decide) (hts (.fieldLink RX8 63 "MistHeaps$Scene" "walkSize" "I") kc_copyFrom_14) (fun _ h9 => h9) rfl dX8_copyFrom_114 ?_
        refine va_put (D := (dC, dI)) (ci := 10) (v := .int (nI wz)) (ty := .int) (C := RX8) (T := TX8) (N := 14) hx hb hts kc_copyFrom_0 tyX8 tyX8_ok nmX8 hown hK hP hD hS 0 rfl rfl 10 (by decide) (hts (.fieldLink RX8 63 "MistHeaps$Scene" "walkSize" "I") kc_copyFrom_14) (fun _ h9 => h9) rfl (by decide +kernel) rfl rfl (Nat.le_of_ble_eq_true rfl) dX8_copyFrom_117 (fun H locs hP hD hS => ?_)
        have hP : va_P (dC, dI) vwCl [(zo10ririliiriririr kp kTp (nI ts) aHl (nI nh) ed mi sn kHs (nI n) kWk (nI wz) kBk (nI kbz) kFc), (zaI kTp kcTp 100 (va_cpy fTp kfTp 0 0 100)), (zaR kHs kcHs 8 f2), (zaI kWk kcWk 6 (va_cpy fWk kfWk 0 0 6)), (zaI kBk kcBk 12 kfBk), (zo10ririliiriririr sc aTp (nI ts) aHl (nI nh) ed mi sn aHs (nI n) aWk (nI wz) aBk (nI bz) aFc), (zaI aTp cTp 100 fTp), (zaR aHs cHs 8 fHs), (zaI aWk cWk 6 fWk), (zaI aBk cBk 12 fBk)] H := hP
        have hD : va_D A [(zo10ririliiriririr kp kTp (nI ts) aHl (nI nh) ed mi sn kHs (nI n) kWk (nI wz) kBk (nI kbz) kFc), (zaI kTp kcTp 100 (va_cpy fTp kfTp 0 0 100)), (zaR kHs kcHs 8 f2), (zaI kWk kcWk 6 (va_cpy fWk kfWk 0 0 6)), (zaI kBk kcBk 12 kfBk), (zo10ririliiriririr sc aTp (nI ts) aHl (nI nh) ed mi sn aHs (nI n) aWk (nI wz) aBk (nI bz) aFc), (zaI aTp cTp 100 fTp), (zaR aHs cHs 8 fHs), (zaI aWk cWk 6 fWk), (zaI aBk cBk 12 fBk)] := hD
        refine lv_aload_n hx hb dX8_copyFrom_120 rfl (lv_at hl 1 rfl) ?_
        refine va_get (D := (dC, dI)) (ci := 10) (v := .ref aBk) (C := RX8) (T := TX8) (N := 14) hx hb hts kc_copyFrom_0 hown hK hP 5 rfl rfl 11 (by decide) (hts (.fieldLink RX8 31 "MistHeaps$Scene" "book" "[I") kc_copyFrom_15) (fun _ h9 => h9) rfl dX8_copyFrom_121 ?_
        refine lv_iconst (v := 0) hx hb dX8_copyFrom_124 (by decide) ?_
        refine lv_aload_n hx hb dX8_copyFrom_125 rfl (lv_at hl 0 rfl) ?_
        refine va_get (D := (dC, dI)) (ci := 10) (v := .ref kBk) (C := RX8) (T := TX8) (N := 14) hx hb hts kc_copyFrom_0 hown hK hP 0 rfl rfl 11 (by decide) (hts (.fieldLink RX8 31 "MistHeaps$Scene" "book" "[I") kc_copyFrom_15) (fun _ h9 => h9) rfl dX8_copyFrom_126 ?_
        refine lv_iconst (v := 0) hx hb dX8_copyFrom_129 (by decide) ?_
        refine lv_bipush (v := 12) hx hb dX8_copyFrom_130 (by decide) ?_
        refine va_copyi hx hb (by rw [hml]; exact hl.1.symm) hown (hts (.methodLink RX8 37 arraycopyName) kc_copyFrom_2) (hts (.native arraycopyName) kc_copyFrom_3) (hts (.static arraycopyName) kc_copyFrom_4) (hts (.initialized "java/lang/System") kc_copyFrom_5) hK hP hD hS 9 4 7 3 rfl rfl rfl rfl rfl (by decide) (by decide) (by decide) (by decide) (by decide) (fun _ _ => rfl) (Nat.le_of_ble_eq_true rfl) (Nat.le_of_ble_eq_true rfl) dX8_copyFrom_132 (fun H locs hP hD hS => ?_)
        have hP : va_P (dC, dI) vwCl [(zo10ririliiriririr kp kTp (nI ts) aHl (nI nh) ed mi sn kHs (nI n) kWk (nI wz) kBk (nI kbz) kFc), (zaI kTp kcTp 100 (va_cpy fTp kfTp 0 0 100)), (zaR kHs kcHs 8 f2), (zaI kWk kcWk 6 (va_cpy fWk kfWk 0 0 6)), (zaI kBk kcBk 12 (va_cpy fBk kfBk 0 0 12)), (zo10ririliiriririr sc aTp (nI ts) aHl (nI nh) ed mi sn aHs (nI n) aWk (nI wz) aBk (nI bz) aFc), (zaI aTp cTp 100 fTp), (zaR aHs cHs 8 fHs), (zaI aWk cWk 6 fWk), (zaI aBk cBk 12 fBk)] H := hP
        have hD : va_D A [(zo10ririliiriririr kp kTp (nI ts) aHl (nI nh) ed mi sn kHs (nI n) kWk (nI wz) kBk (nI kbz) kFc), (zaI kTp kcTp 100 (va_cpy fTp kfTp 0 0 100)), (zaR kHs kcHs 8 f2), (zaI kWk kcWk 6 (va_cpy fWk kfWk 0 0 6)), (zaI kBk kcBk 12 (va_cpy fBk kfBk 0 0 12)), (zo10ririliiriririr sc aTp (nI ts) aHl (nI nh) ed mi sn aHs (nI n) aWk (nI wz) aBk (nI bz) aFc), (zaI aTp cTp 100 fTp), (zaR aHs cHs 8 fHs), (zaI aWk cWk 6 fWk), (zaI aBk cBk 12 fBk)] := hD
        refine lv_aload_n hx hb dX8_copyFrom_135 rfl (lv_at hl 0 rfl) ?_
        refine lv_aload_n hx hb dX8_copyFrom_136 rfl (lv_at hl 1 rfl) ?_
        refine va_get (D := (dC, dI)) (ci := 10) (v := .int (nI bz)) (C := RX8) (T := TX8) (N := 14) hx hb hts kc_copyFrom_0 hown hK hP 5 rfl rfl 12 (by decide) (hts (.fieldLink RX8 66 "MistHeaps$Scene" "bookSize" "I") kc_copyFrom_16) (fun _ h9 => h9) rfl dX8_copyFrom_137 ?_
        refine va_put (D := (dC, dI)) (ci := 10) (v := .int (nI bz)) (ty := .int) (C := RX8) (T := TX8) (N := 14) hx hb hts kc_copyFrom_0 tyX8 tyX8_ok nmX8 hown hK hP hD hS 0 rfl rfl 12 (by decide) (hts (.fieldLink RX8 66 "MistHeaps$Scene" "bookSize" "I") kc_copyFrom_16) (fun _ h9 => h9) rfl (by decide +kernel) rfl rfl (Nat.le_of_ble_eq_true rfl) dX8_copyFrom_140 (fun H locs hP hD hS => ?_)
        have hP : va_P (dC, dI) vwCl [(zo10ririliiriririr kp kTp (nI ts) aHl (nI nh) ed mi sn kHs (nI n) kWk (nI wz) kBk (nI bz) kFc), (zaI kTp kcTp 100 (va_cpy fTp kfTp 0 0 100)), (zaR kHs kcHs 8 f2), (zaI kWk kcWk 6 (va_cpy fWk kfWk 0 0 6)), (zaI kBk kcBk 12 (va_cpy fBk kfBk 0 0 12)), (zo10ririliiriririr sc aTp (nI ts) aHl (nI nh) ed mi sn aHs (nI n) aWk (nI wz) aBk (nI bz) aFc), (zaI aTp cTp 100 fTp), (zaR aHs cHs 8 fHs), (zaI aWk cWk 6 fWk), (zaI aBk cBk 12 fBk)] H := hP
        have hD : va_D A [(zo10ririliiriririr kp kTp (nI ts) aHl (nI nh) ed mi sn kHs (nI n) kWk (nI wz) kBk (nI bz) kFc), (zaI kTp kcTp 100 (va_cpy fTp kfTp 0 0 100)), (zaR kHs kcHs 8 f2), (zaI kWk kcWk 6 (va_cpy fWk kfWk 0 0 6)), (zaI kBk kcBk 12 (va_cpy fBk kfBk 0 0 12)), (zo10ririliiriririr sc aTp (nI ts) aHl (nI nh) ed mi sn aHs (nI n) aWk (nI wz) aBk (nI bz) aFc), (zaI aTp cTp 100 fTp), (zaR aHs cHs 8 fHs), (zaI aWk cWk 6 fWk), (zaI aBk cBk 12 fBk)] := hD
        rw [hQ]
        have hP9 := hP.sub (ws' := [(zo10ririliiriririr kp kTp (nI ts) aHl (nI nh) ed mi sn kHs (nI n) kWk (nI wz) kBk (nI bz) kFc), (zaI kTp kcTp 100 (va_cpy fTp kfTp 0 0 100)), (zaR kHs kcHs 8 f2), (zaI kWk kcWk 6 (va_cpy fWk kfWk 0 0 6)), (zaI kBk kcBk 12 (va_cpy fBk kfBk 0 0 12)), (zo10ririliiriririr sc aTp (nI ts) aHl (nI nh) ed mi sn aHs (nI n) aWk (nI wz) aBk (nI bz) aFc), (zaI aTp cTp 100 fTp), (zaR aHs cHs 8 fHs), (zaI aWk cWk 6 fWk), (zaI aBk cBk 12 fBk)]) [0, 1, 2, 3, 4, 5, 6, 7, 8, 9] rfl
        have hD9 := hD.sub (ws' := [(zo10ririliiriririr kp kTp (nI ts) aHl (nI nh) ed mi sn kHs (nI n) kWk (nI wz) kBk (nI bz) kFc), (zaI kTp kcTp 100 (va_cpy fTp kfTp 0 0 100)), (zaR kHs kcHs 8 f2), (zaI kWk kcWk 6 (va_cpy fWk kfWk 0 0 6)), (zaI kBk kcBk 12 (va_cpy fBk kfBk 0 0 12)), (zo10ririliiriririr sc aTp (nI ts) aHl (nI nh) ed mi sn aHs (nI n) aWk (nI wz) aBk (nI bz) aFc), (zaI aTp cTp 100 fTp), (zaR aHs cHs 8 fHs), (zaI aWk cWk 6 fWk), (zaI aBk cBk 12 fBk)]) [0, 1, 2, 3, 4, 5, 6, 7, 8, 9] (by decide) rfl
        have hK9 := hK.sub (tys' := [(kcTp, .int), (kcHs, .object "MistHeaps$Heap"), (kcWk, .int), (kcBk, .int), (cTp, .int), (cHs, .object "MistHeaps$Heap"), (cWk, .int), (cBk, .int)]) [0, 1, 2, 3, 4, 5, 6, 7] rfl
        exact W.vret hx hb hr (fun tQ htQ hWQ => ⟨⟨(ts, aHl, nh, ed, mi, sn, n, wz, bz, (va_cpy fTp kfTp 0 0 100), f2, (va_cpy fWk kfWk 0 0 6), (va_cpy fBk kfBk 0 0 12)), rfl, ⟨rfl, rfl, rfl, rfl, rfl, rfl, rfl, rfl, rfl, cpy0, fun k0 h0 => hf2 k0 (by omega), cpy0, cpy0⟩, by rw [htQ]; exact hP9, va_K.moved hWQ.alike hK9, hD9⟩, hS.F htQ⟩) hS.2.2 dX8_copyFrom_143
      · skip
        have c_1 : ¬ 8 ≤ i := fun q => c_1 ((nI_leI (a := 8) (b := i) (by omega) (by omega)).mpr q)
        rcases Nat.lt_or_ge i n with hin | hin
        · skip
          refine lv_aload_n hx hb dX8_copyFrom_71 rfl (lv_at hl 0 rfl) ?_
          refine va_get (D := (dC, dI)) (ci := 10) (v := .ref kHs) (C := RX8) (T := TX8) (N := 14) hx hb hts kc_copyFrom_0 hown hK hP 0 rfl rfl 7 (by decide) (hts (.fieldLink RX8 24 "MistHeaps$Scene" "heaps" "[LMistHeaps$Heap;") kc_copyFrom_17) (fun _ h9 => h9) rfl dX8_copyFrom_72 ?_
          refine lv_iload_n hx hb dX8_copyFrom_75 rfl (lv_at hl 2 rfl) ?_
          refine lv_aload_n hx hb dX8_copyFrom_76 rfl (lv_at hl 1 rfl) ?_
          refine va_get (D := (dC, dI)) (ci := 10) (v := .ref aHs) (C := RX8) (T := TX8) (N := 14) hx hb hts kc_copyFrom_0 hown hK hP 5 rfl rfl 7 (by decide) (hts (.fieldLink RX8 24 "MistHeaps$Scene" "heaps" "[LMistHeaps$Heap;") kc_copyFrom_17) (fun _ h9 => h9) rfl dX8_copyFrom_77 ?_
          refine lv_iload_n hx hb dX8_copyFrom_80 rfl (lv_at hl 2 rfl) ?_
          refine va_aldq hx hb hK hP 7 5 rfl rfl (vp_in_nI (n := i) (N := 8) (by omega) (by omega)) dX8_copyFrom_81 ?_
          refine qq_as (v := .ref (ya i)) (by rw [nI_clamp (by omega), zhs i hin]; rfl) ?_
          refine va_astH (v := (ya i)) hx hb hK hP hD hS 2 1 rfl rfl hC (hH_ i (by omega)).1 (hH_ i (by omega)).2 (vp_in_nI (n := i) (N := 8) (by omega) (by omega)) dX8_copyFrom_82 (fun H locs hP hD hS => ?_)
          rw [nI_clamp (n := i) (by omega)] at hP hD
          have hP : va_P (dC, dI) vwCl [(zo10ririliiriririr kp kTp (nI ts) aHl (nI nh) ed mi sn kHs (nI kn) kWk (nI kwz) kBk (nI kbz) kFc), (zaI kTp kcTp 100 (va_cpy fTp kfTp 0 0 100)), (zaR kHs kcHs 8 (va_up f2 i (some (ya i)))), (zaI kWk kcWk 6 kfWk), (zaI kBk kcBk 12 kfBk), (zo10ririliiriririr sc aTp (nI ts) aHl (nI nh) ed mi sn aHs (nI n) aWk (nI wz) aBk (nI bz) aFc), (zaI aTp cTp 100 fTp), (zaR aHs cHs 8 fHs), (zaI aWk cWk 6 fWk), (zaI aBk cBk 12 fBk)] H := hP
          have hD : va_D A [(zo10ririliiriririr kp kTp (nI ts) aHl (nI nh) ed mi sn kHs (nI kn) kWk (nI kwz) kBk (nI kbz) kFc), (zaI kTp kcTp 100 (va_cpy fTp kfTp 0 0 100)), (zaR kHs kcHs 8 (va_up f2 i (some (ya i)))), (zaI kWk kcWk 6 kfWk), (zaI kBk kcBk 12 kfBk), (zo10ririliiriririr sc aTp (nI ts) aHl (nI nh) ed mi sn aHs (nI n) aWk (nI wz) aBk (nI bz) aFc), (zaI aTp cTp 100 fTp), (zaR aHs cHs 8 fHs), (zaI aWk cWk 6 fWk), (zaI aBk cBk 12 fBk)] := hD
          refine lv_iinc (v := nI (i + 1)) (lv' := [(2, .int (nI (i + 1))), (0, .ref kp), (1, .ref sc)]) hx hb dX8_copyFrom_83 hl (k := 2) rfl (nI_add i 1) (by decide) rfl (fun ls hl => ?_)
          refine lv_goto (tgt := 65) hx hb dX8_copyFrom_86 (by decide) ?_
          exact ih65 (i + 1) _ (by omega) (by omega) (up_cp hf2 (zhs i hin)) _ _ (hK.sub [0, 1, 2, 3, 4, 5, 6, 7] rfl) (hP.sub [0, 1, 2, 3, 4, 5, 6, 7, 8, 9] rfl) (hD.sub [0, 1, 2, 3, 4, 5, 6, 7, 8, 9] (by decide) rfl) hS ls (lv_sub hl [1, 2, 0] rfl)
        · skip
          refine lv_aload_n hx hb dX8_copyFrom_71 rfl (lv_at hl 0 rfl) ?_
          refine va_get (D := (dC, dI)) (ci := 10) (v := .ref kHs) (C := RX8) (T := TX8) (N := 14) hx hb hts kc_copyFrom_0 hown hK hP 0 rfl rfl 7 (by decide) (hts (.fieldLink RX8 24 "MistHeaps$Scene" "heaps" "[LMistHeaps$Heap;") kc_copyFrom_17) (fun _ h9 => h9) rfl dX8_copyFrom_72 ?_
          refine lv_iload_n hx hb dX8_copyFrom_75 rfl (lv_at hl 2 rfl) ?_
          refine lv_aload_n hx hb dX8_copyFrom_76 rfl (lv_at hl 1 rfl) ?_
          refine va_get (D := (dC, dI)) (ci := 10) (v := .ref aHs) (C := RX8) (T := TX8) (N := 14) hx hb hts kc_copyFrom_0 hown hK hP 5 rfl rfl 7 (by decide) (hts (.fieldLink RX8 24 "MistHeaps$Scene" "heaps" "[LMistHeaps$Heap;") kc_copyFrom_17) (fun _ h9 => h9) rfl dX8_copyFrom_77 ?_
          refine lv_iload_n hx hb dX8_copyFrom_80 rfl (lv_at hl 2 rfl) ?_
          refine va_aldq hx hb hK hP 7 5 rfl rfl (vp_in_nI (n := i) (N := 8) (by omega) (by omega)) dX8_copyFrom_81 ?_
          refine qq_as (v := .null) (by rw [nI_clamp (by omega), zhn i hin (by omega)]; rfl) ?_
          refine va_astqN hx hb hK hP hD hS 2 1 rfl rfl (vp_in_nI (n := i) (N := 8) (by omega) (by omega)) dX8_copyFrom_82 (fun H locs hP hD hS => ?_)
          rw [nI_clamp (n := i) (by omega)] at hP hD
          have hP : va_P (dC, dI) vwCl [(zo10ririliiriririr kp kTp (nI ts) aHl (nI nh) ed mi sn kHs (nI kn) kWk (nI kwz) kBk (nI kbz) kFc), (zaI kTp kcTp 100 (va_cpy fTp kfTp 0 0 100)), (zaR kHs kcHs 8 (va_up f2 i none)), (zaI kWk kcWk 6 kfWk), (zaI kBk kcBk 12 kfBk), (zo10ririliiriririr sc aTp (nI ts) aHl (nI nh) ed mi sn aHs (nI n) aWk (nI wz) aBk (nI bz) aFc), (zaI aTp cTp 100 fTp), (zaR aHs cHs 8 fHs), (zaI aWk cWk 6 fWk), (zaI aBk cBk 12 fBk)] H := hP
          have hD : va_D A [(zo10ririliiriririr kp kTp (nI ts) aHl (nI nh) ed mi sn kHs (nI kn) kWk (nI kwz) kBk (nI kbz) kFc), (zaI kTp kcTp 100 (va_cpy fTp kfTp 0 0 100)), (zaR kHs kcHs 8 (va_up f2 i none)), (zaI kWk kcWk 6 kfWk), (zaI kBk kcBk 12 kfBk), (zo10ririliiriririr sc aTp (nI ts) aHl (nI nh) ed mi sn aHs (nI n) aWk (nI wz) aBk (nI bz) aFc), (zaI aTp cTp 100 fTp), (zaR aHs cHs 8 fHs), (zaI aWk cWk 6 fWk), (zaI aBk cBk 12 fBk)] := hD
          refine lv_iinc (v := nI (i + 1)) (lv' := [(2, .int (nI (i + 1))), (0, .ref kp), (1, .ref sc)]) hx hb dX8_copyFrom_83 hl (k := 2) rfl (nI_add i 1) (by decide) rfl (fun ls hl => ?_)
          refine lv_goto (tgt := 65) hx hb dX8_copyFrom_86 (by decide) ?_
          exact ih65 (i + 1) _ (by omega) (by omega) (up_cp hf2 (zhn i hin (by omega))) _ _ (hK.sub [0, 1, 2, 3, 4, 5, 6, 7] rfl) (hP.sub [0, 1, 2, 3, 4, 5, 6, 7, 8, 9] rfl) (hD.sub [0, 1, 2, 3, 4, 5, 6, 7, 8, 9] (by decide) rfl) hS ls (lv_sub hl [1, 2, 0] rfl)
  exact L65 _ (0) _ (Nat.lt_succ_self _) (by omega) (fun k0 h0 => absurd h0 (Nat.not_lt_zero k0)) _ _ (hK.sub [0, 1, 2, 3, 4, 5, 6, 7] rfl) (hP.sub [0, 1, 2, 3, 4, 5, 6, 7, 8, 9] rfl) (hD.sub [0, 1, 2, 3, 4, 5, 6, 7, 8, 9] (by decide) rfl) hS ls (lv_sub hl [1, 2, 0] rfl)

/-- one clause more: its word, its number, its end -/
noncomputable def RW (i : Nat) (fW fA fE : Nat → Int32) (C : List pCla) : Prop := C.length = i ∧ ∀ k, k < i → fW k = nI (C.getD k dfC).1 ∧ fA k = nI (C.getD k dfC).2.1 ∧ fE k = nI (tkC (C.take (k + 1))).length
theorem RW.add {i w v n : Nat} {fW fA fE : Nat → Int32} {C : List pCla} {L : List Nat} (h : RW i fW fA fE C) (hn : (tkC C ++ L).length = n) : RW (i + 1) (upd fW i (nI w)) (upd fA i (nI v)) (upd fE i (nI n)) (C ++ [(w, v, L)]) := by
  obtain ⟨h1, h2⟩ := h
  refine ⟨by rw [List.length_append, h1]; rfl, fun k hk => ?_⟩
  by_cases q : k = i
  · subst q
    rw [pk_us, pk_us, pk_us, ← h1, gC_r, List.take_of_length_le (by rw [List.length_append]; exact Nat.le_refl _), tkC_add]
    exact ⟨rfl, rfl, by rw [← hn]⟩
  · rw [pk_un q, pk_un q, pk_un q, gC_l (by omega), List.take_append_of_le_length (by omega)]
    exact h2 k (by omega)
theorem RW.hc {i n p : Nat} {sg : Int32} {fW fA fE fC : Nat → Int32} {C : List pCla} (h : RW i fW fA fE C) (h2 : XT fC n (tkC C) p) (h3 : sg = nI (sgC C)) (h4 : p ≤ 100) : HC i sg fW fA fE fC C := by
  obtain ⟨a1, a2, a3⟩ := h2
  exact ⟨h.1, h3, h.2, by omega, fun i hi => a3 i (by omega)⟩
theorem sg_ad {C : List pCla} {w v : Nat} {L : List Nat} (hw : ¬ w = 2) : nI (sgC C) = nI (sgC (C ++ [(w, v, L)])) := by rw [sgC_add, if_neg hw]
theorem sg_a2 {C : List pCla} {w v : Nat} (hw : w = 2) : nI v = nI (sgC (C ++ [(w, v, [])])) := by rw [sgC_add, if_pos hw]

theorem kc_xRead_0 : ∀ w ∈ wsX50, w ∈ wsX5_read := fun w h => List.mem_cons_of_mem _ (gin_wsX50 w h)
theorem kc_xRead_1 : (.fieldLink RX5 28 "MistHeaps$Hill" "tape" "[I" : Cond) ∈ wsX5_read := kc_of 122 rfl rfl rfl
theorem kc_xRead_2 : (.fieldLink RX5 31 "MistHeaps$Hill" "size" "I" : Cond) ∈ wsX5_read := kc_of 123 rfl rfl rfl
theorem kc_xRead_3 : (.fieldLink RX5 34 "MistHeaps$Hill" "at" "I" : Cond) ∈ wsX5_read := kc_of 124 rfl rfl rfl
theorem kc_xRead_4 : (.fieldLink RX5 37 "MistHeaps$Hill" "coded" "I" : Cond) ∈ wsX5_read := kc_of 121 rfl rfl rfl
theorem kc_xRead_5 : (.fieldLink RX5 11 "MistHeaps$Hill" "sight" "I" : Cond) ∈ wsX5_read := kc_of 113 rfl rfl rfl
theorem kc_xRead_6 : (.fieldLink RX5 15 "MistHeaps$Hill" "words" "[I" : Cond) ∈ wsX5_read := kc_of 117 rfl rfl rfl
theorem kc_xRead_7 : (.fieldLink RX5 19 "MistHeaps$Hill" "amounts" "[I" : Cond) ∈ wsX5_read := kc_of 118 rfl rfl rfl
theorem kc_xRead_8 : (.fieldLink RX5 48 "MistHeaps$Hill" "number" "I" : Cond) ∈ wsX5_read := kc_of 125 rfl rfl rfl
theorem kc_xRead_9 : (.fieldLink RX5 22 "MistHeaps$Hill" "ends" "[I" : Cond) ∈ wsX5_read := kc_of 119 rfl rfl rfl
theorem kc_xRead_10 : (.fieldLink RX5 59 "MistHeaps$Hill" "clauses" "I" : Cond) ∈ wsX5_read := kc_of 116 rfl rfl rfl
set_option maxHeartbeats 4000000 in
set_option maxRecDepth 100000 in
theorem c_xRead (l : Launch) (dC : Nat → ClassId) (dI : Nat → Nat → Nat) (sK sV : Nat → Nat) (bl : Nat) (aTp : Nat) (eW : Nat) (eA : Nat) (eE : Nat) (eC : Nat) (ecl : Nat) (cdd : Int32) (szz : Int32) (att : Int32) (esg : Int32) (cTp : ClassId) (ceW : ClassId) (ceA : ClassId) (ceE : ClassId) (ceC : ClassId) (fTp : Nat → Int32) (feW : Nat → Int32) (feA : Nat → Int32) (feE : Nat → Int32) (feC : Nat → Int32) (etv : Value) (ez : Nat) (em : Nat) (ss : Nat → Nat) (sz : Nat) (hez : ez ≤ 100) (hcl : ecl ≤ 10) (hem : em ≤ 99) (zeE : ∀ k0, k0 < 10 → ∃ e0 : Nat, e0 ≤ 100 ∧ feE k0 = nI e0) (zeC : ∀ k0, k0 < 100 → okC (feC k0)) (gX : TX fTp ez ss) : Met l yX5_read wsX5_read ({ frames := 23, cells := 0, slots := 0, locals := 509 } : Room) (va_Pc [.ref bl, .ref aTp, .int (nI ez)] (fun U => U.heap.size = sz ∧ va_P (dC, dI) vwCl [(zo7iirrrriviii bl esg (nI ecl) eW eA eE eC cdd etv szz att (nI em)), (zaI aTp cTp 100 fTp), (zaI eW ceW 10 feW), (zaI eA ceA 10 feA), (zaI eE ceE 10 feE), (zaI eC ceC 100 feC)] U.heap ∧ va_K (dC, dI) vwCl [(cTp, .int), (ceW, .int), (ceA, .int), (ceE, .int), (ceC, .int)] U ∧ va_D (fun _ => True) [(zo7iirrrriviii bl esg (nI ecl) eW eA eE eC cdd etv szz att (nI em)), (zaI aTp cTp 100 fTp), (zaI eW ceW 10 feW), (zaI eA ceA 10 feA), (zaI eE ceE 10 feE), (zaI eC ceC 100 feC)] ∧ Gs sK sV (va_A [(zo7iirrrriviii bl esg (nI ecl) eW eA eE eC cdd etv szz att (nI em)), (zaI aTp cTp 100 fTp), (zaI eW ceW 10 feW), (zaI eA ceA 10 feA), (zaI eE ceE 10 feE), (zaI eC ceC 100 feC)] sz) U)) (va_Qi (fun (r : Int32) (u : (Int32) × (Nat) × (Nat) × (Nat) × (Nat) × (Nat → Int32) × (Nat → Int32) × (Nat → Int32) × (Nat → Int32)) => match u with | (esg9, ecl9, ecd9, ep9, em9, feW9, feA9, feE9, feC9) => (ecl9 ≤ 10 ∧ em9 ≤ 99 ∧ (∀ k0, k0 < 10 → ∃ e0 : Nat, e0 ≤ 100 ∧ feE9 k0 = nI e0) ∧ ∀ k0, k0 < 100 → okC (feC9 k0)) ∧ ((r = -1 ∧ ∃ C : List pCla, pHl ss ez = (some C, ez) ∧ HC ecl9 esg9 feW9 feA9 feE9 feC9 C) ∨ (∃ q : Nat, q ≤ 200 ∧ r = nI q ∧ pHl ss ez = (none, q)))) (fun (u : (Int32) × (Nat) × (Nat) × (Nat) × (Nat) × (Nat → Int32) × (Nat → Int32) × (Nat → Int32) × (Nat → Int32)) (t : State) => match u with | (esg9, ecl9, ecd9, ep9, em9, feW9, feA9, feE9, feC9) => va_P (dC, dI) vwCl [(zo7iirrrririii bl esg9 (nI ecl9) eW eA eE eC (nI ecd9) aTp (nI ez) (nI ep9) (nI em9)), (zaI aTp cTp 100 fTp), (zaI eW ceW 10 feW9), (zaI eA ceA 10 feA9), (zaI eE ceE 10 feE9), (zaI eC ceC 100 feC9)] t.heap ∧ va_K (dC, dI) vwCl [(cTp, .int), (ceW, .int), (ceA, .int), (ceE, .int), (ceC, .int)] t ∧ va_D (va_A [(zo7iirrrriviii bl esg (nI ecl) eW eA eE eC cdd etv szz att (nI em)), (zaI aTp cTp 100 fTp), (zaI eW ceW 10 feW), (zaI eA ceA 10 feA), (zaI eE ceE 10 feE), (zaI eC ceC 100 feC)] sz) [(zo7iirrrririii bl esg9 (nI ecl9) eW eA eE eC (nI ecd9) aTp (nI ez) (nI ep9) (nI em9)), (zaI aTp cTp 100 fTp), (zaI eW ceW 10 feW9), (zaI eA ceA 10 feA9), (zaI eE ceE 10 feE9), (zaI eC ceC 100 feC9)]) (va_A [(zo7iirrrriviii bl esg (nI ecl) eW eA eE eC cdd etv szz att (nI em)), (zaI aTp cTp 100 fTp), (zaI eW ceW 10 feW), (zaI eA ceA 10 feA), (zaI eE ceE 10 feE), (zaI eC ceC 100 feC)] sz)) 0 0 (va_A [(zo7iirrrriviii bl esg (nI ecl) eW eA eE eC cdd etv szz att (nI em)), (zaI aTp cTp 100 fTp), (zaI eW ceW 10 feW), (zaI eA ceA 10 feA), (zaI eE ceE 10 feE), (zaI eC ceC 100 feC)] sz) := by
  refine met_ofQ (cc := cX5_read) (maxL := 5) (ret := (some .int)) (by decide) rfl ?_
  intro p e s m args below meth c s₁ Q B hml hv hQ
  obtain ⟨rfl, hsz, hP, hK, hD0, hE⟩ := hv
  have hx := B.exec
  have hb := B.bytes
  have hr := B.returns
  have hts := atoms_spec (ws := wsX5_read) B.pre
  have hown : s.vm.findClass RX5 = some m.cls := findClass_of_methodNamed B.named
  have hlocks := B.notSynchronized
  subst hsz
  have hD := hD0.self (sz := s.heap.size)
  generalize hAe : va_A [(zo7iirrrriviii bl esg (nI ecl) eW eA eE eC cdd etv szz att (nI em)), (zaI aTp cTp 100 fTp), (zaI eW ceW 10 feW), (zaI eA ceA 10 feA), (zaI eE ceE 10 feE), (zaI eC ceC 100 feC)] s.heap.size = A at hD hQ hE ⊢
  have hA : ∀ q : Nat, s.heap.size ≤ q → A q := fun q h => by rw [← hAe]; exact Or.inr h
  have hS : va_S A s.heap s.heap [] := va_S.rf
  have hl := lv_entry [.ref bl, .ref aTp, .int (nI ez)] (n := 5) (Nat.le_of_ble_eq_true rfl)
  rw [lg_entry_eq]
  generalize (lg_sl [.ref bl, .ref aTp, .int (nI ez)] ++ List.replicate (5 - (lg_sl [.ref bl, .ref aTp, .int (nI ez)]).length) Slot.unset).toArray = ls at hl ⊢
  generalize hag : ([.ref bl, .ref aTp, .int (nI ez)] : List Value).toArray = args at hts hQ ⊢
  have hl : lv_has ls 5 [(0, .ref bl), (1, .ref aTp), (2, .int (nI ez))] := hl
  obtain ⟨H, hH⟩ : ∃ H : Heap, H = s.heap := ⟨_, rfl⟩
  rw [← hH] at hP
  rw [← hH]
  have hS : va_S A s.heap H [] := by rw [hH]; exact hS
  obtain ⟨locs, hlo⟩ : ∃ L : List Loc, L = [] := ⟨_, rfl⟩
  rw [← hlo] at hS
  rw [← hlo]
  clear hH hlo
  refine lv_aload_n hx hb dX5_read_0 rfl (lv_at hl 0 rfl) ?_
  refine lv_aload_n hx hb dX5_read_1 rfl (lv_at hl 1 rfl) ?_
  refine va_put (D := (dC, dI)) (ci := 7) (v := .ref aTp) (ty := .array .int) (C := RX5) (T := TX5) (N := 11) hx hb hts kc_xRead_0 tyX5 tyX5_ok nmX5 hown hK hP hD hS 0 rfl rfl 7 (by decide) (hts (.fieldLink RX5 28 "MistHeaps$Hill" "tape" "[I") kc_xRead_1) (fun _ h9 => h9) rfl (by decide +kernel) rfl rfl (Nat.le_of_ble_eq_true rfl) dX5_read_2 (fun H locs hP hD hS => ?_)
  have hP : va_P (dC, dI) vwCl [(zo7iirrrririii bl esg (nI ecl) eW eA eE eC cdd aTp szz att (nI em)), (zaI aTp cTp 100 fTp), (zaI eW ceW 10 feW), (zaI eA ceA 10 feA), (zaI eE ceE 10 feE), (zaI eC ceC 100 feC)] H := hP
  have hD : va_D A [(zo7iirrrririii bl esg (nI ecl) eW eA eE eC cdd aTp szz att (nI em)), (zaI aTp cTp 100 fTp), (zaI eW ceW 10 feW), (zaI eA ceA 10 feA), (zaI eE ceE 10 feE), (zaI eC ceC 100 feC)] := hD
  refine lv_aload_n hx hb dX5_read_5 rfl (lv_at hl 0 rfl) ?_
  refine lv_iload_n hx hb dX5_read_6 rfl (lv_at hl 2 rfl) ?_
  refine va_put (D := (dC, dI)) (ci := 7) (v := .int (nI ez)) (ty := .int) (C := RX5) (T := TX5) (N := 11) hx hb hts kc_xRead_0 tyX5 tyX5_ok nmX5 hown hK hP hD hS 0 rfl rfl 8 (by decide) (hts (.fieldLink RX5 31 "MistHeaps$Hill" "size" "I") kc_xRead_2) (fun _ h9 => h9) rfl (by decide +kernel) rfl rfl (Nat.le_of_ble_eq_true rfl) dX5_read_7 (fun H locs hP hD hS => ?_)
  have hP : va_P (dC, dI) vwCl [(zo7iirrrririii bl esg (nI ecl) eW eA eE eC cdd aTp (nI ez) att (nI em)), (zaI aTp cTp 100 fTp), (zaI eW ceW 10 feW), (zaI eA ceA 10 feA), (zaI eE ceE 10 feE), (zaI eC ceC 100 feC)] H := hP
  have hD : va_D A [(zo7iirrrririii bl esg (nI ecl) eW eA eE eC cdd aTp (nI ez) att (nI em)), (zaI aTp cTp 100 fTp), (zaI eW ceW 10 feW), (zaI eA ceA 10 feA), (zaI eE ceE 10 feE), (zaI eC ceC 100 feC)] := hD
  refine lv_aload_n hx hb dX5_read_10 rfl (lv_at hl 0 rfl) ?_
  refine lv_iconst (v := 0) hx hb dX5_read_11 (by decide) ?_
  refine va_put (D := (dC, dI)) (ci := 7) (v := .int 0) (ty := .int) (C := RX5) (T := TX5) (N := 11) hx hb hts kc_xRead_0 tyX5 tyX5_ok nmX5 hown hK hP hD hS 0 rfl rfl 9 (by decide) (hts (.fieldLink RX5 34 "MistHeaps$Hill" "at" "I") kc_xRead_3) (fun _ h9 => h9) rfl (by decide +kernel) rfl rfl (Nat.le_of_ble_eq_true rfl) dX5_read_12 (fun H locs hP hD hS => ?_)
  have hP : va_P (dC, dI) vwCl [(zo7iirrrririii bl esg (nI ecl) eW eA eE eC cdd aTp (nI ez) 0 (nI em)), (zaI aTp cTp 100 fTp), (zaI eW ceW 10 feW), (zaI eA ceA 10 feA), (zaI eE ceE 10 feE), (zaI eC ceC 100 feC)] H := hP
  have hD : va_D A [(zo7iirrrririii bl esg (nI ecl) eW eA eE eC cdd aTp (nI ez) 0 (nI em)), (zaI aTp cTp 100 fTp), (zaI eW ceW 10 feW), (zaI eA ceA 10 feA), (zaI eE ceE 10 feE), (zaI eC ceC 100 feC)] := hD
  refine lv_aload_n hx hb dX5_read_15 rfl (lv_at hl 0 rfl) ?_
  refine lv_iconst (v := 0) hx hb dX5_read_16 (by decide) ?_
  refine va_put (D := (dC, dI)) (ci := 7) (v := .int 0) (ty := .int) (C := RX5) (T := TX5) (N := 11) hx hb hts kc_xRead_0 tyX5 tyX5_ok nmX5 hown hK hP hD hS 0 rfl rfl 6 (by decide) (hts (.fieldLink RX5 37 "MistHeaps$Hill" "coded" "I") kc_xRead_4) (fun _ h9 => h9) rfl (by decide +kernel) rfl rfl (Nat.le_of_ble_eq_true rfl) dX5_read_17 (fun H locs hP hD hS => ?_)
  have hP : va_P (dC, dI) vwCl [(zo7iirrrririii bl esg (nI ecl) eW eA eE eC 0 aTp (nI ez) 0 (nI em)), (zaI aTp cTp 100 fTp), (zaI eW ceW 10 feW), (zaI eA ceA 10 feA), (zaI eE ceE 10 feE), (zaI eC ceC 100 feC)] H := hP
  have hD : va_D A [(zo7iirrrririii bl esg (nI ecl) eW eA eE eC 0 aTp (nI ez) 0 (nI em)), (zaI aTp cTp 100 fTp), (zaI eW ceW 10 feW), (zaI eA ceA 10 feA), (zaI eE ceE 10 feE), (zaI eC ceC 100 feC)] := hD
  refine lv_aload_n hx hb dX5_read_20 rfl (lv_at hl 0 rfl) ?_
  refine lv_iconst (v := 3) hx hb dX5_read_21 (by decide) ?_
  refine va_put (D := (dC, dI)) (ci := 7) (v := .int 3) (ty := .int) (C := RX5) (T := TX5) (N := 11) hx hb hts kc_xRead_0 tyX5 tyX5_ok nmX5 hown hK hP hD hS 0 rfl rfl 0 (by decide) (hts (.fieldLink RX5 11 "MistHeaps$Hill" "sight" "I") kc_xRead_5) (fun _ h9 => h9) rfl (by decide +kernel) rfl rfl (Nat.le_of_ble_eq_true rfl) dX5_read_22 (fun H locs hP hD hS => ?_)
  have hP : va_P (dC, dI) vwCl [(zo7iirrrririii bl 3 (nI ecl) eW eA eE eC 0 aTp (nI ez) 0 (nI em)), (zaI aTp cTp 100 fTp), (zaI eW ceW 10 feW), (zaI eA ceA 10 feA), (zaI eE ceE 10 feE), (zaI eC ceC 100 feC)] H := hP
  have hD : va_D A [(zo7iirrrririii bl 3 (nI ecl) eW eA eE eC 0 aTp (nI ez) 0 (nI em)), (zaI aTp cTp 100 fTp), (zaI eW ceW 10 feW), (zaI eA ceA 10 feA), (zaI eE ceE 10 feE), (zaI eC ceC 100 feC)] := hD
  refine lv_iconst (v := 0) hx hb dX5_read_25 (by decide) ?_
  refine lv_istore_n (lv' := [(3, .int 0), (0, .ref bl), (1, .ref aTp), (2, .int (nI ez))]) hx hb dX5_read_26 rfl hl (by decide) rfl (fun ls hl => ?_)
  have L27 : ∀ (nF : Nat) (i : Nat) (sg2 : Int32) (cl2 : Nat) (cd2 : Nat) (p2 : Nat) (m2 : Nat) (feW2 : Nat → Int32) (feA2 : Nat → Int32) (feE2 : Nat → Int32) (feC2 : Nat → Int32) (C1 : List pCla), 10 - i < nF → (i ≤ 10) → (p2 ≤ ez ∧ cl2 ≤ 10) → (cd2 ≤ 100 ∧ m2 ≤ 99) → (∀ k0, k0 < 10 → ∃ e0 : Nat, e0 ≤ 100 ∧ feE2 k0 = nI e0) → (∀ k0, k0 < 100 → okC (feC2 k0)) → ((i < 10 ∧ pHl ss ez = pBf ss ez (9 - i) C1 p2) ∨ (i = 10 ∧ 1 ≤ p2 ∧ pHl ss ez = (none, p2 - 1))) → (RW i feW2 feA2 feE2 C1) → (XT feC2 cd2 (tkC C1) p2) → (sg2 = nI (sgC C1)) → ∀ (H : Heap) (locs : List Loc), va_K (dC, dI) vwCl [(cTp, .int), (ceW, .int), (ceA, .int), (ceE, .int), (ceC, .int)] s → va_P (dC, dI) vwCl [(zo7iirrrririii bl sg2 (nI cl2) eW eA eE eC (nI cd2) aTp (nI ez) (nI p2) (nI m2)), (zaI aTp cTp 100 fTp), (zaI eW ceW 10 feW2), (zaI eA ceA 10 feA2), (zaI eE ceE 10 feE2), (zaI eC ceC 100 feC2)] H → va_D A [(zo7iirrrririii bl sg2 (nI cl2) eW eA eE eC (nI cd2) aTp (nI ez) (nI p2) (nI m2)), (zaI aTp cTp 100 fTp), (zaI eW ceW 10 feW2), (zaI eA ceA 10 feA2), (zaI eE ceE 10 feE2), (zaI eC ceC 100 feC2)] → va_S A s.heap H locs → ∀ (ls : Array Slot), lv_has ls 5 [(0, .ref bl), (3, .int (nI i))] → W p l e ({ frames := 23, cells := 0, slots := 0, locals := 509 } : Room) s m args below meth c H locs 0 0 Q (F0 m 27 ls []) := by
    intro nF
    induction nF with
    | zero => intro i sg2 cl2 cd2 p2 m2 feW2 feA2 feE2 feC2 C1 hm; exact absurd hm (Nat.not_lt_zero _)
    | succ nF ih27 =>
      intro i sg2 cl2 cd2 p2 m2 feW2 feA2 feE2 feC2 C1 hm hi h2a h2b zE2 zC2 hE9 hRW hXT hsg H locs hK hP hD hS ls hl
      obtain ⟨h2c, h2d⟩ := h2a
      obtain ⟨h2e, h2f⟩ := h2b
      refine lv_iload_n hx hb dX5_read_27 rfl (lv_at hl 1 rfl) ?_
      refine lv_bipush (v := 10) hx hb dX5_read_28 (by decide) ?_
      refine lv_icmp_ge (tgt := 164) hx hb dX5_read_30 (by decide) (fun c_1 => ?_) (fun c_1 => ?_)
      · skip
        have c_1 : 10 ≤ i := (nI_leI (a := 10) (b := i) (by omega) (by omega)).mp c_1
        obtain ⟨hi10, hp1, hE9⟩ : i = 10 ∧ 1 ≤ p2 ∧ pHl ss ez = (none, p2 - 1) := by rcases hE9 with q | q; exact absurd q.1 (by omega); exact q
        refine lv_aload_n hx hb dX5_read_164 rfl (lv_at hl 0 rfl) ?_
        refine va_get (D := (dC, dI)) (ci := 7) (v := .int (nI p2)) (C := RX5) (T := TX5) (N := 11) hx hb hts kc_xRead_0 hown hK hP 0 rfl rfl 9 (by decide) (hts (.fieldLink RX5 34 "MistHeaps$Hill" "at" "I") kc_xRead_3) (fun _ h9 => h9) rfl dX5_read_165 ?_
        refine lv_iconst (v := 1) hx hb dX5_read_168 (by decide) ?_
        refine lv_isub hx hb dX5_read_169 ?_
        refine qi_as (y := nI (p2 - 1)) (pk_sub (a := p2) (b := 1) (by omega)) ?_
        rw [hQ]
        have hP9 := hP.sub (ws' := [(zo7iirrrririii bl sg2 (nI cl2) eW eA eE eC (nI cd2) aTp (nI ez) (nI p2) (nI m2)), (zaI aTp cTp 100 fTp), (zaI eW ceW 10 feW2), (zaI eA ceA 10 feA2), (zaI eE ceE 10 feE2), (zaI eC ceC 100 feC2)]) [0, 1, 2, 3, 4, 5] rfl
        have hD9 := hD.sub (ws' := [(zo7iirrrririii bl sg2 (nI cl2) eW eA eE eC (nI cd2) aTp (nI ez) (nI p2) (nI m2)), (zaI aTp cTp 100 fTp), (zaI eW ceW 10 feW2), (zaI eA ceA 10 feA2), (zaI eE ceE 10 feE2), (zaI eC ceC 100 feC2)]) [0, 1, 2, 3, 4, 5] (by decide) rfl
        have hK9 := hK.sub (tys' := [(cTp, .int), (ceW, .int), (ceA, .int), (ceE, .int), (ceC, .int)]) [0, 1, 2, 3, 4] rfl
        exact W.iret (v := nI (p2 - 1)) hx hb hr (fun tQ htQ hWQ => ⟨⟨(nI (p2 - 1)), (sg2, cl2, cd2, p2, m2, feW2, feA2, feE2, feC2), rfl, ⟨⟨by omega, by omega, zE2, zC2⟩, Or.inr ⟨p2 - 1, by omega, rfl, hE9⟩⟩, by rw [htQ]; exact hP9, va_K.moved hWQ.alike hK9, hD9⟩, hS.F htQ⟩) hS.2.2 dX5_read_170
      · skip
        have c_1 : ¬ 10 ≤ i := fun q => c_1 ((nI_leI (a := 10) (b := i) (by omega) (by omega)).mpr q)
        have hE9 : pHl ss ez = pBf ss ez (9 - i) C1 p2 := by rcases hE9 with q | q; exact q.2; exact absurd q.1 (by omega)
        refine lv_aload_n hx hb dX5_read_33 rfl (lv_at hl 0 rfl) ?_
        have hPc := hP.sub (ws' := [(zo7iirrrririii bl sg2 (nI cl2) eW eA eE eC (nI cd2) aTp (nI ez) (nI p2) (nI m2)), (zaI aTp cTp 100 fTp)]) [0, 1] rfl
        have hDc := hD.sub (ws' := [(zo7iirrrririii bl sg2 (nI cl2) eW eA eE eC (nI cd2) aTp (nI ez) (nI p2) (nI m2)), (zaI aTp cTp 100 fTp)]) [0, 1] (by decide) rfl
        have hKc := hK.sub (tys' := [(cTp, .int)]) [0] rfl
        have hFc := va_free (wc := [(zo7iirrrririii bl sg2 (nI cl2) eW eA eE eC (nI cd2) aTp (nI ez) (nI p2) (nI m2)), (zaI aTp cTp 100 fTp)]) hD hS hA [0, 1] rfl
        refine va_calli (va_runV (As := []) (rest := []) ⟨hx, hb, hml, hown, hts⟩ (c_readWord l dC dI sK sV bl aTp eW eA eE eC cl2 cd2 sg2 cTp fTp ez p2 m2 ss H.size (hez) (by omega) (gX)) (cwV 0 hts gX5_read_X5_readWord rfl rfl rfl hd_yX5_readWord ⟨Nat.le_of_ble_eq_true rfl, Nat.le_of_ble_eq_true rfl⟩) ⟨fun a U g mk q => by obtain ⟨q0, q1, qP, qK, qD, qhE⟩ := q; exact ⟨q0, q1, qP, va_K.moved (u := U) (U := U.calling g mk a) (Vm.Alike.refl U.vm) qK, qD, qhE.same rfl rfl⟩, va_recv hK hP (ci := 7) (q := (RX5, TX5, 11)) (q0 := 0) rfl rfl, fun U hU hW => ⟨rfl, by rw [hU], by rw [hU]; exact hPc, va_K.moved hW.alike hKc, hDc.weaken (fun _ _ _ _ => trivial), hE.call hS hU hW (fun q h => hFc q h)⟩⟩ rfl rfl hl.1 rfl (lv_room (Nat.le_of_ble_eq_true rfl)) dX5_read_34 ⟨Nat.le_of_ble_eq_true rfl, Nat.le_of_ble_eq_true rfl⟩) hS (fun q _ h => hFc q h) hFc (fun r_2 u tC H1 locs htC hvm hw_3 hB hz1 hk1 hS => ?_)
        obtain ⟨ep9_4, rfl⟩ : ∃ z, z = u := ⟨_, rfl⟩
        try dsimp only at hw_3 hB
        obtain ⟨hP1, hK1, hD1⟩ := hB
        rw [htC] at hP1
        have hK1 := va_K.moved hvm.symm hK1
        obtain ⟨hP, hD⟩ := va_join (wr := [(zaI eW ceW 10 feW2), (zaI eA ceA 10 feA2), (zaI eE ceE 10 feE2), (zaI eC ceC 100 feC2)]) (w1 := [(zo7iirrrririii bl sg2 (nI cl2) eW eA eE eC (nI cd2) aTp (nI ez) (nI ep9_4) (nI m2)), (zaI aTp cTp 100 fTp)]) hP hD [0, 1] [2, 3, 4, 5] rfl rfl (by decide) (by decide) hk1 hFc hP1 hD1
        have hK := (hK.sub (tys' := [(ceW, .int), (ceA, .int), (ceE, .int), (ceC, .int)]) [1, 2, 3, 4] rfl).app hK1
        generalize H1 = H at hP hS ⊢
        have hP : va_P (dC, dI) vwCl [(zaI eW ceW 10 feW2), (zaI eA ceA 10 feA2), (zaI eE ceE 10 feE2), (zaI eC ceC 100 feC2), (zo7iirrrririii bl sg2 (nI cl2) eW eA eE eC (nI cd2) aTp (nI ez) (nI ep9_4) (nI m2)), (zaI aTp cTp 100 fTp)] H := hP
        have hD : va_D A [(zaI eW ceW 10 feW2), (zaI eA ceA 10 feA2), (zaI eE ceE 10 feE2), (zaI eC ceC 100 feC2), (zo7iirrrririii bl sg2 (nI cl2) eW eA eE eC (nI cd2) aTp (nI ez) (nI ep9_4) (nI m2)), (zaI aTp cTp 100 fTp)] := hD
        have hK : va_K (dC, dI) vwCl [(ceW, .int), (ceA, .int), (ceE, .int), (ceC, .int), (cTp, .int)] s := hK
        obtain ⟨h_5, h_6, hr9⟩ := hw_3
        rcases hr9 with ⟨rfl, hwd⟩ | ⟨jw, hjw, rfl, hwd⟩
        · skip
          refine lv_istore (lv' := [(4, .int (-1)), (0, .ref bl), (3, .int (nI i))]) hx hb dX5_read_37 hl (by decide) rfl (fun ls hl => ?_)
          refine lv_iload hx hb dX5_read_39 (lv_at hl 0 rfl) ?_
          refine lv_iconst (v := (-1)) hx hb dX5_read_41 (by decide) ?_
          refine lv_icmp_eq (tgt := 52) hx hb dX5_read_42 (by decide) (fun _ => ?_) (fun c_7 => absurd c_7 (by decide))
          refine lv_aload_n hx hb dX5_read_52 rfl (lv_at hl 1 rfl) ?_
          refine va_get (D := (dC, dI)) (ci := 7) (v := .int (nI ep9_4)) (C := RX5) (T := TX5) (N := 11) hx hb hts kc_xRead_0 hown hK hP 4 rfl rfl 9 (by decide) (hts (.fieldLink RX5 34 "MistHeaps$Hill" "at" "I") kc_xRead_3) (fun _ h9 => h9) rfl dX5_read_53 ?_
          rw [hQ]
          have hP9 := hP.sub (ws' := [(zo7iirrrririii bl sg2 (nI cl2) eW eA eE eC (nI cd2) aTp (nI ez) (nI ep9_4) (nI m2)), (zaI aTp cTp 100 fTp), (zaI eW ceW 10 feW2), (zaI eA ceA 10 feA2), (zaI eE ceE 10 feE2), (zaI eC ceC 100 feC2)]) [4, 5, 0, 1, 2, 3] rfl
          have hD9 := hD.sub (ws' := [(zo7iirrrririii bl sg2 (nI cl2) eW eA eE eC (nI cd2) aTp (nI ez) (nI ep9_4) (nI m2)), (zaI aTp cTp 100 fTp), (zaI eW ceW 10 feW2), (zaI eA ceA 10 feA2), (zaI eE ceE 10 feE2), (zaI eC ceC 100 feC2)]) [4, 5, 0, 1, 2, 3] (by decide) rfl
          have hK9 := hK.sub (tys' := [(cTp, .int), (ceW, .int), (ceA, .int), (ceE, .int), (ceC, .int)]) [4, 0, 1, 2, 3] rfl
          exact W.iret (v := nI ep9_4) hx hb hr (fun tQ htQ hWQ => ⟨⟨(nI ep9_4), (sg2, cl2, cd2, ep9_4, m2, feW2, feA2, feE2, feC2), rfl, ⟨⟨by omega, by omega, zE2, zC2⟩, Or.inr ⟨ep9_4, by omega, rfl, hE9.trans (bf_n (wd_n hwd))⟩⟩, by rw [htQ]; exact hP9, va_K.moved hWQ.alike hK9, hD9⟩, hS.F htQ⟩) hS.2.2 dX5_read_56
        · skip
          refine lv_istore (lv' := [(4, .int (nI jw)), (0, .ref bl), (3, .int (nI i))]) hx hb dX5_read_37 hl (by decide) rfl (fun ls hl => ?_)
          refine lv_iload hx hb dX5_read_39 (lv_at hl 0 rfl) ?_
          refine lv_iconst (v := (-1)) hx hb dX5_read_41 (by decide) ?_
          refine lv_icmp_eq (tgt := 52) hx hb dX5_read_42 (by decide) (fun c_8 => absurd c_8 (nI_nm1 (by omega))) (fun c_8 => ?_)
          refine lv_aload_n hx hb dX5_read_45 rfl (lv_at hl 1 rfl) ?_
          have hPc := hP.sub (ws' := [(zo7iirrrririii bl sg2 (nI cl2) eW eA eE eC (nI cd2) aTp (nI ez) (nI ep9_4) (nI m2)), (zaI aTp cTp 100 fTp)]) [4, 5] rfl
          have hDc := hD.sub (ws' := [(zo7iirrrririii bl sg2 (nI cl2) eW eA eE eC (nI cd2) aTp (nI ez) (nI ep9_4) (nI m2)), (zaI aTp cTp 100 fTp)]) [4, 5] (by decide) rfl
          have hKc := hK.sub (tys' := [(cTp, .int)]) [4] rfl
          have hFc := va_free (wc := [(zo7iirrrririii bl sg2 (nI cl2) eW eA eE eC (nI cd2) aTp (nI ez) (nI ep9_4) (nI m2)), (zaI aTp cTp 100 fTp)]) hD hS hA [4, 5] rfl
          refine va_calli (va_runV (As := []) (rest := []) ⟨hx, hb, hml, hown, hts⟩ (c_xReadNumber l dC dI bl aTp eW eA eE eC cl2 cd2 sg2 cTp fTp ez ep9_4 m2 ss H.size (hez) (by omega) (gX)) (cwV 0 hts gX5_read_X5_readNumber rfl rfl rfl hd_yX5_readNumber ⟨Nat.le_of_ble_eq_true rfl, Nat.le_of_ble_eq_true rfl⟩) ⟨fun a U g mk q => by obtain ⟨q0, q1, qP, qK, qD⟩ := q; exact ⟨q0, q1, qP, va_K.moved (u := U) (U := U.calling g mk a) (Vm.Alike.refl U.vm) qK, qD⟩, va_recv hK hP (ci := 7) (q := (RX5, TX5, 11)) (q0 := 4) rfl rfl, fun U hU hW => ⟨rfl, by rw [hU], by rw [hU]; exact hPc, va_K.moved hW.alike hKc, hDc.weaken (fun _ _ _ _ => trivial)⟩⟩ rfl rfl hl.1 rfl (lv_room (Nat.le_of_ble_eq_true rfl)) dX5_read_46 ⟨Nat.le_of_ble_eq_true rfl, Nat.le_of_ble_eq_true rfl⟩) hS (fun q _ h => hFc q h) hFc (fun r_9 u tC H1 locs htC hvm hw_10 hB hz1 hk1 hS => ?_)
          obtain ⟨ep9_11, em9_12⟩ := u
          try dsimp only at hw_10 hB
          obtain ⟨hP1, hK1, hD1⟩ := hB
          rw [htC] at hP1
          have hK1 := va_K.moved hvm.symm hK1
          obtain ⟨hP, hD⟩ := va_join (wr := [(zaI eW ceW 10 feW2), (zaI eA ceA 10 feA2), (zaI eE ceE 10 feE2), (zaI eC ceC 100 feC2)]) (w1 := [(zo7iirrrririii bl sg2 (nI cl2) eW eA eE eC (nI cd2) aTp (nI ez) (nI ep9_11) (nI em9_12)), (zaI aTp cTp 100 fTp)]) hP hD [4, 5] [0, 1, 2, 3] rfl rfl (by decide) (by decide) hk1 hFc hP1 hD1
          have hK := (hK.sub (tys' := [(ceW, .int), (ceA, .int), (ceE, .int), (ceC, .int)]) [0, 1, 2, 3] rfl).app hK1
          generalize H1 = H at hP hS ⊢
          have hP : va_P (dC, dI) vwCl [(zaI eW ceW 10 feW2), (zaI eA ceA 10 feA2), (zaI eE ceE 10 feE2), (zaI eC ceC 100 feC2), (zo7iirrrririii bl sg2 (nI cl2) eW eA eE eC (nI cd2) aTp (nI ez) (nI ep9_11) (nI em9_12)), (zaI aTp cTp 100 fTp)] H := hP
          have hD : va_D A [(zaI eW ceW 10 feW2), (zaI eA ceA 10 feA2), (zaI eE ceE 10 feE2), (zaI eC ceC 100 feC2), (zo7iirrrririii bl sg2 (nI cl2) eW eA eE eC (nI cd2) aTp (nI ez) (nI ep9_11) (nI em9_12)), (zaI aTp cTp 100 fTp)] := hD
          have hK : va_K (dC, dI) vwCl [(ceW, .int), (ceA, .int), (ceE, .int), (ceC, .int), (cTp, .int)] s := hK
          rcases hw_10 with ⟨rfl, hN, h_13, h_14, h_15⟩ | ⟨rfl, hN, h_13, h_14⟩
          · skip
            refine lv_if_ne (tgt := 57) hx hb dX5_read_49 (by decide) (fun _ => ?_) (fun c_16 => absurd c_16 (by decide))
            refine lv_aload_n hx hb dX5_read_57 rfl (lv_at hl 1 rfl) ?_
            refine va_get (D := (dC, dI)) (ci := 7) (v := .ref eW) (C := RX5) (T := TX5) (N := 11) hx hb hts kc_xRead_0 hown hK hP 4 rfl rfl 2 (by decide) (hts (.fieldLink RX5 15 "MistHeaps$Hill" "words" "[I") kc_xRead_6) (fun _ h9 => h9) rfl dX5_read_58 ?_
            refine lv_iload_n hx hb dX5_read_61 rfl (lv_at hl 2 rfl) ?_
            refine lv_iload hx hb dX5_read_62 (lv_at hl 0 rfl) ?_
            refine va_iast hx hb hK hP hD hS 0 0 rfl rfl (vp_in_nI (n := i) (N := 10) (by omega) (by omega)) dX5_read_64 (fun H locs hP hD hS => ?_)
            rw [nI_clamp (n := i) (by omega)] at hP hD
            have hP : va_P (dC, dI) vwCl [(zaI eW ceW 10 (upd feW2 i (nI jw))), (zaI eA ceA 10 feA2), (zaI eE ceE 10 feE2), (zaI eC ceC 100 feC2), (zo7iirrrririii bl sg2 (nI cl2) eW eA eE eC (nI cd2) aTp (nI ez) (nI ep9_11) (nI em9_12)), (zaI aTp cTp 100 fTp)] H := hP
            have hD : va_D A [(zaI eW ceW 10 (upd feW2 i (nI jw))), (zaI eA ceA 10 feA2), (zaI eE ceE 10 feE2), (zaI eC ceC 100 feC2), (zo7iirrrririii bl sg2 (nI cl2) eW eA eE eC (nI cd2) aTp (nI ez) (nI ep9_11) (nI em9_12)), (zaI aTp cTp 100 fTp)] := hD
            refine lv_aload_n hx hb dX5_read_65 rfl (lv_at hl 1 rfl) ?_
            refine va_get (D := (dC, dI)) (ci := 7) (v := .ref eA) (C := RX5) (T := TX5) (N := 11) hx hb hts kc_xRead_0 hown hK hP 4 rfl rfl 3 (by decide) (hts (.fieldLink RX5 19 "MistHeaps$Hill" "amounts" "[I") kc_xRead_7) (fun _ h9 => h9) rfl dX5_read_66 ?_
            refine lv_iload_n hx hb dX5_read_69 rfl (lv_at hl 2 rfl) ?_
            refine lv_aload_n hx hb dX5_read_70 rfl (lv_at hl 1 rfl) ?_
            refine va_get (D := (dC, dI)) (ci := 7) (v := .int (nI em9_12)) (C := RX5) (T := TX5) (N := 11) hx hb hts kc_xRead_0 hown hK hP 4 rfl rfl 10 (by decide) (hts (.fieldLink RX5 48 "MistHeaps$Hill" "number" "I") kc_xRead_8) (fun _ h9 => h9) rfl dX5_read_71 ?_
            refine va_iast hx hb hK hP hD hS 1 1 rfl rfl (vp_in_nI (n := i) (N := 10) (by omega) (by omega)) dX5_read_74 (fun H locs hP hD hS => ?_)
            rw [nI_clamp (n := i) (by omega)] at hP hD
            have hP : va_P (dC, dI) vwCl [(zaI eW ceW 10 (upd feW2 i (nI jw))), (zaI eA ceA 10 (upd feA2 i (nI em9_12))), (zaI eE ceE 10 feE2), (zaI eC ceC 100 feC2), (zo7iirrrririii bl sg2 (nI cl2) eW eA eE eC (nI cd2) aTp (nI ez) (nI ep9_11) (nI em9_12)), (zaI aTp cTp 100 fTp)] H := hP
            have hD : va_D A [(zaI eW ceW 10 (upd feW2 i (nI jw))), (zaI eA ceA 10 (upd feA2 i (nI em9_12))), (zaI eE ceE 10 feE2), (zaI eC ceC 100 feC2), (zo7iirrrririii bl sg2 (nI cl2) eW eA eE eC (nI cd2) aTp (nI ez) (nI ep9_11) (nI em9_12)), (zaI aTp cTp 100 fTp)] := hD
            refine lv_iload hx hb dX5_read_75 (lv_at hl 0 rfl) ?_
            refine lv_iconst (v := 2) hx hb dX5_read_77 (by decide) ?_
            refine lv_icmp_ne (tgt := 92) hx hb dX5_read_78 (by decide) (fun c_17 => ?_) (fun c_17 => ?_)
            · skip
              have c_17 : ¬ jw = 2 := fun q => c_17 ((nI_eq (a := jw) (b := 2) (by omega) (by omega)).mpr q)
              have hj2 : ¬ jw = 2 := c_17
              refine lv_aload_n hx hb dX5_read_92 rfl (lv_at hl 1 rfl) ?_
              refine lv_bipush (v := 32) hx hb dX5_read_93 (by decide) ?_
              have hPc := hP.sub (ws' := [(zo7iirrrririii bl sg2 (nI cl2) eW eA eE eC (nI cd2) aTp (nI ez) (nI ep9_11) (nI em9_12)), (zaI aTp cTp 100 fTp)]) [4, 5] rfl
              have hDc := hD.sub (ws' := [(zo7iirrrririii bl sg2 (nI cl2) eW eA eE eC (nI cd2) aTp (nI ez) (nI ep9_11) (nI em9_12)), (zaI aTp cTp 100 fTp)]) [4, 5] (by decide) rfl
              have hKc := hK.sub (tys' := [(cTp, .int)]) [4] rfl
              have hFc := va_free (wc := [(zo7iirrrririii bl sg2 (nI cl2) eW eA eE eC (nI cd2) aTp (nI ez) (nI ep9_11) (nI em9_12)), (zaI aTp cTp 100 fTp)]) hD hS hA [4, 5] rfl
              refine va_calli (va_runV (As := [.int 32]) (rest := []) ⟨hx, hb, hml, hown, hts⟩ (c_xReadSign l dC dI bl aTp eW eA eE eC 32 cl2 cd2 sg2 cTp fTp ez ep9_11 em9_12 ss H.size (hez) (by omega) (by decide) (by decide) (gX)) (cwV 1 hts gX5_read_X5_readSign rfl rfl rfl hd_yX5_readSign ⟨Nat.le_of_ble_eq_true rfl, Nat.le_of_ble_eq_true rfl⟩) ⟨fun a U g mk q => by obtain ⟨q0, q1, qP, qK, qD⟩ := q; exact ⟨q0, q1, qP, va_K.moved (u := U) (U := U.calling g mk a) (Vm.Alike.refl U.vm) qK, qD⟩, va_recv hK hP (ci := 7) (q := (RX5, TX5, 11)) (q0 := 4) rfl rfl, fun U hU hW => ⟨rfl, by rw [hU], by rw [hU]; exact hPc, va_K.moved hW.alike hKc, hDc.weaken (fun _ _ _ _ => trivial)⟩⟩ rfl rfl hl.1 rfl (lv_room (Nat.le_of_ble_eq_true rfl)) dX5_read_95 ⟨Nat.le_of_ble_eq_true rfl, Nat.le_of_ble_eq_true rfl⟩) hS (fun q _ h => hFc q h) hFc (fun r_18 u tC H1 locs htC hvm hw_19 hB hz1 hk1 hS => ?_)
              obtain ⟨ep9_20, rfl⟩ : ∃ z, z = u := ⟨_, rfl⟩
              try dsimp only at hw_19 hB
              obtain ⟨hP1, hK1, hD1⟩ := hB
              rw [htC] at hP1
              have hK1 := va_K.moved hvm.symm hK1
              obtain ⟨hP, hD⟩ := va_join (wr := [(zaI eW ceW 10 (upd feW2 i (nI jw))), (zaI eA ceA 10 (upd feA2 i (nI em9_12))), (zaI eE ceE 10 feE2), (zaI eC ceC 100 feC2)]) (w1 := [(zo7iirrrririii bl sg2 (nI cl2) eW eA eE eC (nI cd2) aTp (nI ez) (nI ep9_20) (nI em9_12)), (zaI aTp cTp 100 fTp)]) hP hD [4, 5] [0, 1, 2, 3] rfl rfl (by decide) (by decide) hk1 hFc hP1 hD1
              have hK := (hK.sub (tys' := [(ceW, .int), (ceA, .int), (ceE, .int), (ceC, .int)]) [0, 1, 2, 3] rfl).app hK1
              generalize H1 = H at hP hS ⊢
              have hP : va_P (dC, dI) vwCl [(zaI eW ceW 10 (upd feW2 i (nI jw))), (zaI eA ceA 10 (upd feA2 i (nI em9_12))), (zaI eE ceE 10 feE2), (zaI eC ceC 100 feC2), (zo7iirrrririii bl sg2 (nI cl2) eW eA eE eC (nI cd2) aTp (nI ez) (nI ep9_20) (nI em9_12)), (zaI aTp cTp 100 fTp)] H := hP
              have hD : va_D A [(zaI eW ceW 10 (upd feW2 i (nI jw))), (zaI eA ceA 10 (upd feA2 i (nI em9_12))), (zaI eE ceE 10 feE2), (zaI eC ceC 100 feC2), (zo7iirrrririii bl sg2 (nI cl2) eW eA eE eC (nI cd2) aTp (nI ez) (nI ep9_20) (nI em9_12)), (zaI aTp cTp 100 fTp)] := hD
              have hK : va_K (dC, dI) vwCl [(ceW, .int), (ceA, .int), (ceE, .int), (ceC, .int), (cTp, .int)] s := hK
              rcases hw_19 with ⟨rfl, hy32, h_21, e_22⟩ | ⟨rfl, hn32, e_22⟩
              · skip
                obtain rfl := (e_22).symm
                refine lv_if_eq (tgt := 109) hx hb dX5_read_98 (by decide) (fun c_23 => absurd c_23 (by decide)) (fun _ => ?_)
                refine lv_aload_n hx hb dX5_read_101 rfl (lv_at hl 1 rfl) ?_
                refine lv_iconst (v := 0) hx hb dX5_read_102 (by decide) ?_
                have hPc := hP.sub (ws' := [(zo7iirrrririii bl sg2 (nI cl2) eW eA eE eC (nI cd2) aTp (nI ez) (nI (ep9_11 + 1)) (nI em9_12)), (zaI aTp cTp 100 fTp), (zaI eC ceC 100 feC2)]) [4, 5, 3] rfl
                have hDc := hD.sub (ws' := [(zo7iirrrririii bl sg2 (nI cl2) eW eA eE eC (nI cd2) aTp (nI ez) (nI (ep9_11 + 1)) (nI em9_12)), (zaI aTp cTp 100 fTp), (zaI eC ceC 100 feC2)]) [4, 5, 3] (by decide) rfl
                have hKc := hK.sub (tys' := [(cTp, .int), (ceC, .int)]) [4, 3] rfl
                have hFc := va_free (wc := [(zo7iirrrririii bl sg2 (nI cl2) eW eA eE eC (nI cd2) aTp (nI ez) (nI (ep9_11 + 1)) (nI em9_12)), (zaI aTp cTp 100 fTp), (zaI eC ceC 100 feC2)]) hD hS hA [4, 5, 3] rfl
                refine va_calli (va_runV (As := [.int 0]) (rest := []) ⟨hx, hb, hml, hown, hts⟩ (c_xEither0 l dC dI sK sV bl aTp eW eA eE eC cl2 cd2 sg2 cTp ceC fTp feC2 ez (ep9_11 + 1) em9_12 ss (tkC C1) H.size (hez) (by omega) (by omega) ((hXT).mono (by omega)) (zC2) (gX)) (cwV 1 hts gX5_read_X5_readEither rfl rfl rfl hd_yX5_readEither ⟨Nat.le_of_ble_eq_true rfl, Nat.le_of_ble_eq_true rfl⟩) ⟨fun a U g mk q => by obtain ⟨q0, q1, qP, qK, qD, qhE⟩ := q; exact ⟨q0, q1, qP, va_K.moved (u := U) (U := U.calling g mk a) (Vm.Alike.refl U.vm) qK, qD, qhE.same rfl rfl⟩, va_recv hK hP (ci := 7) (q := (RX5, TX5, 11)) (q0 := 4) rfl rfl, fun U hU hW => ⟨rfl, by rw [hU], by rw [hU]; exact hPc, va_K.moved hW.alike hKc, hDc.weaken (fun _ _ _ _ => trivial), hE.call hS hU hW (fun q h => hFc q h)⟩⟩ rfl rfl hl.1 rfl (lv_room (Nat.le_of_ble_eq_true rfl)) dX5_read_103 ⟨Nat.le_of_ble_eq_true rfl, Nat.le_of_ble_eq_true rfl⟩) hS (fun q _ h => hFc q h) hFc (fun r_24 u tC H1 locs htC hvm hw_25 hB hz1 hk1 hS => ?_)
                obtain ⟨ecd9_26, ep9_27, em9_28, feC9_29⟩ := u
                try dsimp only at hw_25 hB
                obtain ⟨hP1, hK1, hD1⟩ := hB
                rw [htC] at hP1
                have hK1 := va_K.moved hvm.symm hK1
                obtain ⟨hP, hD⟩ := va_join (wr := [(zaI eW ceW 10 (upd feW2 i (nI jw))), (zaI eA ceA 10 (upd feA2 i (nI em9_12))), (zaI eE ceE 10 feE2)]) (w1 := [(zo7iirrrririii bl sg2 (nI cl2) eW eA eE eC (nI ecd9_26) aTp (nI ez) (nI ep9_27) (nI em9_28)), (zaI aTp cTp 100 fTp), (zaI eC ceC 100 feC9_29)]) hP hD [4, 5, 3] [0, 1, 2] rfl rfl (by decide) (by decide) hk1 hFc hP1 hD1
                have hK := (hK.sub (tys' := [(ceW, .int), (ceA, .int), (ceE, .int)]) [0, 1, 2] rfl).app hK1
                generalize H1 = H at hP hS ⊢
                have hP : va_P (dC, dI) vwCl [(zaI eW ceW 10 (upd feW2 i (nI jw))), (zaI eA ceA 10 (upd feA2 i (nI em9_12))), (zaI eE ceE 10 feE2), (zo7iirrrririii bl sg2 (nI cl2) eW eA eE eC (nI ecd9_26) aTp (nI ez) (nI ep9_27) (nI em9_28)), (zaI aTp cTp 100 fTp), (zaI eC ceC 100 feC9_29)] H := hP
                have hD : va_D A [(zaI eW ceW 10 (upd feW2 i (nI jw))), (zaI eA ceA 10 (upd feA2 i (nI em9_12))), (zaI eE ceE 10 feE2), (zo7iirrrririii bl sg2 (nI cl2) eW eA eE eC (nI ecd9_26) aTp (nI ez) (nI ep9_27) (nI em9_28)), (zaI aTp cTp 100 fTp), (zaI eC ceC 100 feC9_29)] := hD
                have hK : va_K (dC, dI) vwCl [(ceW, .int), (ceA, .int), (ceE, .int), (cTp, .int), (ceC, .int)] s := hK
                rcases hw_25 with ⟨rfl, L_30, eP_31, h_32, h_33, h_34, h_35, hX_37, hC_36⟩ | ⟨rfl, eP_31, h_32, h_33, h_34, hC_36⟩
                · skip
                  refine lv_if_ne (tgt := 114) hx hb dX5_read_106 (by decide) (fun _ => ?_) (fun c_38 => absurd c_38 (by decide))
                  refine lv_aload_n hx hb dX5_read_114 rfl (lv_at hl 1 rfl) ?_
                  refine va_get (D := (dC, dI)) (ci := 7) (v := .ref eE) (C := RX5) (T := TX5) (N := 11) hx hb hts kc_xRead_0 hown hK hP 3 rfl rfl 4 (by decide) (hts (.fieldLink RX5 22 "MistHeaps$Hill" "ends" "[I") kc_xRead_9) (fun _ h9 => h9) rfl dX5_read_115 ?_
                  refine lv_iload_n hx hb dX5_read_118 rfl (lv_at hl 2 rfl) ?_
                  refine lv_aload_n hx hb dX5_read_119 rfl (lv_at hl 1 rfl) ?_
                  refine va_get (D := (dC, dI)) (ci := 7) (v := .int (nI ecd9_26)) (C := RX5) (T := TX5) (N := 11) hx hb hts kc_xRead_0 hown hK hP 3 rfl rfl 6 (by decide) (hts (.fieldLink RX5 37 "MistHeaps$Hill" "coded" "I") kc_xRead_4) (fun _ h9 => h9) rfl dX5_read_120 ?_
                  refine va_iast hx hb hK hP hD hS 2 2 rfl rfl (vp_in_nI (n := i) (N := 10) (by omega) (by omega)) dX5_read_123 (fun H locs hP hD hS => ?_)
                  rw [nI_clamp (n := i) (by omega)] at hP hD
                  have hP : va_P (dC, dI) vwCl [(zaI eW ceW 10 (upd feW2 i (nI jw))), (zaI eA ceA 10 (upd feA2 i (nI em9_12))), (zaI eE ceE 10 (upd feE2 i (nI ecd9_26))), (zo7iirrrririii bl sg2 (nI cl2) eW eA eE eC (nI ecd9_26) aTp (nI ez) (nI ep9_27) (nI em9_28)), (zaI aTp cTp 100 fTp), (zaI eC ceC 100 feC9_29)] H := hP
                  have hD : va_D A [(zaI eW ceW 10 (upd feW2 i (nI jw))), (zaI eA ceA 10 (upd feA2 i (nI em9_12))), (zaI eE ceE 10 (upd feE2 i (nI ecd9_26))), (zo7iirrrririii bl sg2 (nI cl2) eW eA eE eC (nI ecd9_26) aTp (nI ez) (nI ep9_27) (nI em9_28)), (zaI aTp cTp 100 fTp), (zaI eC ceC 100 feC9_29)] := hD
                  have hE_39 : ∀ k0, k0 < 10 → ∃ e0 : Nat, e0 ≤ 100 ∧ (upd feE2 i (nI ecd9_26)) k0 = nI e0 := end_up zE2 (by have := (hX_37).2.1; omega)
                  have hcl : pCl ss p2 = (some (jw, em9_12, L_30), ep9_27) := (wd_s hwd).trans (rs_5 hN hj2 hy32 eP_31)
                  have hE7 : pHl ss ez = pAf ss ez (9 - i) (C1 ++ [(jw, em9_12, L_30)]) (ep9_27) := hE9.trans (bf_s hcl)
                  have hX9 : XT feC9_29 ecd9_26 (tkC (C1 ++ [(jw, em9_12, L_30)])) (ep9_27) := by rw [tkC_add]; exact (hX_37).mono (by omega)
                  rw [show upd feE2 i (nI ecd9_26) = upd feE2 i (nI ecd9_26) from rfl] at hP hD
                  have hP : va_P (dC, dI) vwCl [(zaI eW ceW 10 (upd feW2 i (nI jw))), (zaI eA ceA 10 (upd feA2 i (nI em9_12))), (zaI eE ceE 10 (upd feE2 i (nI ecd9_26))), (zo7iirrrririii bl sg2 (nI cl2) eW eA eE eC (nI ecd9_26) aTp (nI ez) (nI ep9_27) (nI em9_28)), (zaI aTp cTp 100 fTp), (zaI eC ceC 100 feC9_29)] H := hP
                  have hD : va_D A [(zaI eW ceW 10 (upd feW2 i (nI jw))), (zaI eA ceA 10 (upd feA2 i (nI em9_12))), (zaI eE ceE 10 (upd feE2 i (nI ecd9_26))), (zo7iirrrririii bl sg2 (nI cl2) eW eA eE eC (nI ecd9_26) aTp (nI ez) (nI ep9_27) (nI em9_28)), (zaI aTp cTp 100 fTp), (zaI eC ceC 100 feC9_29)] := hD
                  refine lv_aload_n hx hb dX5_read_124 rfl (lv_at hl 1 rfl) ?_
                  refine lv_iload_n hx hb dX5_read_125 rfl (lv_at hl 2 rfl) ?_
                  refine lv_iconst (v := 1) hx hb dX5_read_126 (by decide) ?_
                  refine lv_iadd hx hb dX5_read_127 ?_
                  refine qi_as (y := nI (i + 1)) (nI_add i 1) ?_
                  refine va_put (D := (dC, dI)) (ci := 7) (v := .int (nI (i + 1))) (ty := .int) (C := RX5) (T := TX5) (N := 11) hx hb hts kc_xRead_0 tyX5 tyX5_ok nmX5 hown hK hP hD hS 3 rfl rfl 1 (by decide) (hts (.fieldLink RX5 59 "MistHeaps$Hill" "clauses" "I") kc_xRead_10) (fun _ h9 => h9) rfl (by decide +kernel) rfl rfl (Nat.le_of_ble_eq_true rfl) dX5_read_128 (fun H locs hP hD hS => ?_)
                  have hP : va_P (dC, dI) vwCl [(zaI eW ceW 10 (upd feW2 i (nI jw))), (zaI eA ceA 10 (upd feA2 i (nI em9_12))), (zaI eE ceE 10 (upd feE2 i (nI ecd9_26))), (zo7iirrrririii bl sg2 (nI (i + 1)) eW eA eE eC (nI ecd9_26) aTp (nI ez) (nI ep9_27) (nI em9_28)), (zaI aTp cTp 100 fTp), (zaI eC ceC 100 feC9_29)] H := hP
                  have hD : va_D A [(zaI eW ceW 10 (upd feW2 i (nI jw))), (zaI eA ceA 10 (upd feA2 i (nI em9_12))), (zaI eE ceE 10 (upd feE2 i (nI ecd9_26))), (zo7iirrrririii bl sg2 (nI (i + 1)) eW eA eE eC (nI ecd9_26) aTp (nI ez) (nI ep9_27) (nI em9_28)), (zaI aTp cTp 100 fTp), (zaI eC ceC 100 feC9_29)] := hD
                  refine lv_aload_n hx hb dX5_read_131 rfl (lv_at hl 1 rfl) ?_
                  refine va_get (D := (dC, dI)) (ci := 7) (v := .int (nI ep9_27)) (C := RX5) (T := TX5) (N := 11) hx hb hts kc_xRead_0 hown hK hP 3 rfl rfl 9 (by decide) (hts (.fieldLink RX5 34 "MistHeaps$Hill" "at" "I") kc_xRead_3) (fun _ h9 => h9) rfl dX5_read_132 ?_
                  refine lv_aload_n hx hb dX5_read_135 rfl (lv_at hl 1 rfl) ?_
                  refine va_get (D := (dC, dI)) (ci := 7) (v := .int (nI ez)) (C := RX5) (T := TX5) (N := 11) hx hb hts kc_xRead_0 hown hK hP 3 rfl rfl 8 (by decide) (hts (.fieldLink RX5 31 "MistHeaps$Hill" "size" "I") kc_xRead_2) (fun _ h9 => h9) rfl dX5_read_136 ?_
                  refine lv_icmp_ne (tgt := 144) hx hb dX5_read_139 (by decide) (fun c_40 => ?_) (fun c_40 => ?_)
                  · skip
                    have c_40 : ¬ ep9_27 = ez := fun q => c_40 ((nI_eq (a := ep9_27) (b := ez) (by omega) (by omega)).mpr q)
                    refine lv_aload_n hx hb dX5_read_144 rfl (lv_at hl 1 rfl) ?_
                    refine lv_bipush (v := 59) hx hb dX5_read_145 (by decide) ?_
                    have hPc := hP.sub (ws' := [(zo7iirrrririii bl sg2 (nI (i + 1)) eW eA eE eC (nI ecd9_26) aTp (nI ez) (nI ep9_27) (nI em9_28)), (zaI aTp cTp 100 fTp)]) [3, 4] rfl
                    have hDc := hD.sub (ws' := [(zo7iirrrririii bl sg2 (nI (i + 1)) eW eA eE eC (nI ecd9_26) aTp (nI ez) (nI ep9_27) (nI em9_28)), (zaI aTp cTp 100 fTp)]) [3, 4] (by decide) rfl
                    have hKc := hK.sub (tys' := [(cTp, .int)]) [3] rfl
                    have hFc := va_free (wc := [(zo7iirrrririii bl sg2 (nI (i + 1)) eW eA eE eC (nI ecd9_26) aTp (nI ez) (nI ep9_27) (nI em9_28)), (zaI aTp cTp 100 fTp)]) hD hS hA [3, 4] rfl
                    refine va_calli (va_runV (As := [.int 59]) (rest := []) ⟨hx, hb, hml, hown, hts⟩ (c_xReadSign l dC dI bl aTp eW eA eE eC 59 (i + 1) ecd9_26 sg2 cTp fTp ez ep9_27 em9_28 ss H.size (hez) (by omega) (by decide) (by decide) (gX)) (cwV 1 hts gX5_read_X5_readSign rfl rfl rfl hd_yX5_readSign ⟨Nat.le_of_ble_eq_true rfl, Nat.le_of_ble_eq_true rfl⟩) ⟨fun a U g mk q => by obtain ⟨q0, q1, qP, qK, qD⟩ := q; exact ⟨q0, q1, qP, va_K.moved (u := U) (U := U.calling g mk a) (Vm.Alike.refl U.vm) qK, qD⟩, va_recv hK hP (ci := 7) (q := (RX5, TX5, 11)) (q0 := 3) rfl rfl, fun U hU hW => ⟨rfl, by rw [hU], by rw [hU]; exact hPc, va_K.moved hW.alike hKc, hDc.weaken (fun _ _ _ _ => trivial)⟩⟩ rfl rfl hl.1 rfl (lv_room (Nat.le_of_ble_eq_true rfl)) dX5_read_147 ⟨Nat.le_of_ble_eq_true rfl, Nat.le_of_ble_eq_true rfl⟩) hS (fun q _ h => hFc q h) hFc (fun r_41 u tC H1 locs htC hvm hw_42 hB hz1 hk1 hS => ?_)
                    obtain ⟨ep9_43, rfl⟩ : ∃ z, z = u := ⟨_, rfl⟩
                    try dsimp only at hw_42 hB
                    obtain ⟨hP1, hK1, hD1⟩ := hB
                    rw [htC] at hP1
                    have hK1 := va_K.moved hvm.symm hK1
                    obtain ⟨hP, hD⟩ := va_join (wr := [(zaI eW ceW 10 (upd feW2 i (nI jw))), (zaI eA ceA 10 (upd feA2 i (nI em9_12))), (zaI eE ceE 10 (upd feE2 i (nI ecd9_26))), (zaI eC ceC 100 feC9_29)]) (w1 := [(zo7iirrrririii bl sg2 (nI (i + 1)) eW eA eE eC (nI ecd9_26) aTp (nI ez) (nI ep9_43) (nI em9_28)), (zaI aTp cTp 100 fTp)]) hP hD [3, 4] [0, 1, 2, 5] rfl rfl (by decide) (by decide) hk1 hFc hP1 hD1
                    have hK := (hK.sub (tys' := [(ceW, .int), (ceA, .int), (ceE, .int), (ceC, .int)]) [0, 1, 2, 4] rfl).app hK1
                    generalize H1 = H at hP hS ⊢
                    have hP : va_P (dC, dI) vwCl [(zaI eW ceW 10 (upd feW2 i (nI jw))), (zaI eA ceA 10 (upd feA2 i (nI em9_12))), (zaI eE ceE 10 (upd feE2 i (nI ecd9_26))), (zaI eC ceC 100 feC9_29), (zo7iirrrririii bl sg2 (nI (i + 1)) eW eA eE eC (nI ecd9_26) aTp (nI ez) (nI ep9_43) (nI em9_28)), (zaI aTp cTp 100 fTp)] H := hP
                    have hD : va_D A [(zaI eW ceW 10 (upd feW2 i (nI jw))), (zaI eA ceA 10 (upd feA2 i (nI em9_12))), (zaI eE ceE 10 (upd feE2 i (nI ecd9_26))), (zaI eC ceC 100 feC9_29), (zo7iirrrririii bl sg2 (nI (i + 1)) eW eA eE eC (nI ecd9_26) aTp (nI ez) (nI ep9_43) (nI em9_28)), (zaI aTp cTp 100 fTp)] := hD
                    have hK : va_K (dC, dI) vwCl [(ceW, .int), (ceA, .int), (ceE, .int), (ceC, .int), (cTp, .int)] s := hK
                    rcases hw_42 with ⟨rfl, hy59, h_44, e_45⟩ | ⟨rfl, hn59, e_45⟩
                    · skip
                      obtain rfl := (e_45).symm
                      refine lv_if_ne (tgt := 158) hx hb dX5_read_150 (by decide) (fun _ => ?_) (fun c_46 => absurd c_46 (by decide))
                      refine lv_iinc (v := nI (i + 1)) (lv' := [(3, .int (nI (i + 1))), (4, .int (nI jw)), (0, .ref bl)]) hx hb dX5_read_158 hl (k := 2) rfl (nI_add i 1) (by decide) rfl (fun ls hl => ?_)
                      refine lv_goto (tgt := 27) hx hb dX5_read_161 (by decide) ?_
                      have hR9 : RW (i + 1) (upd feW2 i (nI jw)) (upd feA2 i (nI em9_12)) (upd feE2 i (nI ecd9_26)) (C1 ++ [(jw, em9_12, L_30)]) := RW.add hRW ((congrArg List.length (tkC_add (C := C1) (c := (jw, em9_12, L_30)))).symm.trans (hX9).1)
                      have hE8 : (i + 1 < 10 ∧ pHl ss ez = pBf ss ez (9 - (i + 1)) (C1 ++ [(jw, em9_12, L_30)]) (ep9_27 + 1)) ∨ (i + 1 = 10 ∧ 1 ≤ ep9_27 + 1 ∧ pHl ss ez = (none, (ep9_27 + 1) - 1)) := by
                        rcases Nat.lt_or_ge (i + 1) 10 with z | z
                        · refine Or.inl ⟨z, ?_⟩
                          rw [hE7, show 9 - i = (9 - (i + 1)) + 1 by omega]
                          exact af_go (by omega) hy59
                        · refine Or.inr ⟨by omega, by omega, ?_⟩
                          rw [hE7, show 9 - i = 0 by omega]
                          exact af_0 (by omega)
                      exact ih27 (i + 1) _ _ _ _ _ _ _ _ _ ((C1 ++ [(jw, em9_12, L_30)])) (by omega) (by omega) (by omega) (by have := (hX9).2.1; omega) (hE_39) (hC_36) (hE8) (hR9) ((hX9).mono (by omega)) (hsg.trans (sg_ad hj2)) _ _ (hK.sub [4, 0, 1, 2, 3] rfl) (hP.sub [4, 5, 0, 1, 2, 3] rfl) (hD.sub [4, 5, 0, 1, 2, 3] (by decide) rfl) hS ls (lv_sub hl [2, 0] rfl)
                    · skip
                      obtain rfl := (e_45).symm
                      refine lv_if_ne (tgt := 158) hx hb dX5_read_150 (by decide) (fun c_47 => absurd c_47 (by decide)) (fun _ => ?_)
                      refine lv_aload_n hx hb dX5_read_153 rfl (lv_at hl 1 rfl) ?_
                      refine va_get (D := (dC, dI)) (ci := 7) (v := .int (nI ep9_27)) (C := RX5) (T := TX5) (N := 11) hx hb hts kc_xRead_0 hown hK hP 4 rfl rfl 9 (by decide) (hts (.fieldLink RX5 34 "MistHeaps$Hill" "at" "I") kc_xRead_3) (fun _ h9 => h9) rfl dX5_read_154 ?_
                      rw [hQ]
                      have hP9 := hP.sub (ws' := [(zo7iirrrririii bl sg2 (nI (i + 1)) eW eA eE eC (nI ecd9_26) aTp (nI ez) (nI ep9_27) (nI em9_28)), (zaI aTp cTp 100 fTp), (zaI eW ceW 10 (upd feW2 i (nI jw))), (zaI eA ceA 10 (upd feA2 i (nI em9_12))), (zaI eE ceE 10 (upd feE2 i (nI ecd9_26))), (zaI eC ceC 100 feC9_29)]) [4, 5, 0, 1, 2, 3] rfl
                      have hD9 := hD.sub (ws' := [(zo7iirrrririii bl sg2 (nI (i + 1)) eW eA eE eC (nI ecd9_26) aTp (nI ez) (nI ep9_27) (nI em9_28)), (zaI aTp cTp 100 fTp), (zaI eW ceW 10 (upd feW2 i (nI jw))), (zaI eA ceA 10 (upd feA2 i (nI em9_12))), (zaI eE ceE 10 (upd feE2 i (nI ecd9_26))), (zaI eC ceC 100 feC9_29)]) [4, 5, 0, 1, 2, 3] (by decide) rfl
                      have hK9 := hK.sub (tys' := [(cTp, .int), (ceW, .int), (ceA, .int), (ceE, .int), (ceC, .int)]) [4, 0, 1, 2, 3] rfl
                      exact W.iret (v := nI ep9_27) hx hb hr (fun tQ htQ hWQ => ⟨⟨(nI ep9_27), (sg2, (i + 1), ecd9_26, ep9_27, em9_28, (upd feW2 i (nI jw)), (upd feA2 i (nI em9_12)), (upd feE2 i (nI ecd9_26)), feC9_29), rfl, ⟨⟨by omega, by omega, hE_39, hC_36⟩, Or.inr ⟨ep9_27, by omega, rfl, hE7.trans (af_n (by omega) hn59)⟩⟩, by rw [htQ]; exact hP9, va_K.moved hWQ.alike hK9, hD9⟩, hS.F htQ⟩) hS.2.2 dX5_read_157
                  · skip
                    have c_40 : ep9_27 = ez := (nI_eq (a := ep9_27) (b := ez) (by omega) (by omega)).mp c_40
                    refine lv_iconst (v := (-1)) hx hb dX5_read_142 (by decide) ?_
                    rw [hQ]
                    have hP9 := hP.sub (ws' := [(zo7iirrrririii bl sg2 (nI (i + 1)) eW eA eE eC (nI ecd9_26) aTp (nI ez) (nI ep9_27) (nI em9_28)), (zaI aTp cTp 100 fTp), (zaI eW ceW 10 (upd feW2 i (nI jw))), (zaI eA ceA 10 (upd feA2 i (nI em9_12))), (zaI eE ceE 10 (upd feE2 i (nI ecd9_26))), (zaI eC ceC 100 feC9_29)]) [3, 4, 0, 1, 2, 5] rfl
                    have hD9 := hD.sub (ws' := [(zo7iirrrririii bl sg2 (nI (i + 1)) eW eA eE eC (nI ecd9_26) aTp (nI ez) (nI ep9_27) (nI em9_28)), (zaI aTp cTp 100 fTp), (zaI eW ceW 10 (upd feW2 i (nI jw))), (zaI eA ceA 10 (upd feA2 i (nI em9_12))), (zaI eE ceE 10 (upd feE2 i (nI ecd9_26))), (zaI eC ceC 100 feC9_29)]) [3, 4, 0, 1, 2, 5] (by decide) rfl
                    have hK9 := hK.sub (tys' := [(cTp, .int), (ceW, .int), (ceA, .int), (ceE, .int), (ceC, .int)]) [3, 0, 1, 2, 4] rfl
                    exact W.iret (v := (-1)) hx hb hr (fun tQ htQ hWQ => ⟨⟨(-1), (sg2, (i + 1), ecd9_26, ep9_27, em9_28, (upd feW2 i (nI jw)), (upd feA2 i (nI em9_12)), (upd feE2 i (nI ecd9_26)), feC9_29), rfl, ⟨⟨by omega, by omega, hE_39, hC_36⟩, Or.inl ⟨rfl, C1 ++ [(jw, em9_12, L_30)], by rw [hE7, af_e (by omega)]; exact congrArg (fun z => (some (C1 ++ [(jw, em9_12, L_30)]), z)) (by omega), (RW.add hRW ((congrArg List.length (tkC_add (C := C1) (c := (jw, em9_12, L_30)))).symm.trans (hX9).1)).hc (hX9) (hsg.trans (sg_ad hj2)) (by omega)⟩⟩, by rw [htQ]; exact hP9, va_K.moved hWQ.alike hK9, hD9⟩, hS.F htQ⟩) hS.2.2 dX5_read_143
                · skip
                  refine lv_if_ne (tgt := 114) hx hb dX5_read_106 (by decide) (fun c_48 => absurd c_48 (by decide)) (fun _ => ?_)
                  refine lv_aload_n hx hb dX5_read_109 rfl (lv_at hl 1 rfl) ?_
                  refine va_get (D := (dC, dI)) (ci := 7) (v := .int (nI ep9_27)) (C := RX5) (T := TX5) (N := 11) hx hb hts kc_xRead_0 hown hK hP 3 rfl rfl 9 (by decide) (hts (.fieldLink RX5 34 "MistHeaps$Hill" "at" "I") kc_xRead_3) (fun _ h9 => h9) rfl dX5_read_110 ?_
                  rw [hQ]
                  have hP9 := hP.sub (ws' := [(zo7iirrrririii bl sg2 (nI cl2) eW eA eE eC (nI ecd9_26) aTp (nI ez) (nI ep9_27) (nI em9_28)), (zaI aTp cTp 100 fTp), (zaI eW ceW 10 (upd feW2 i (nI jw))), (zaI eA ceA 10 (upd feA2 i (nI em9_12))), (zaI eE ceE 10 feE2), (zaI eC ceC 100 feC9_29)]) [3, 4, 0, 1, 2, 5] rfl
                  have hD9 := hD.sub (ws' := [(zo7iirrrririii bl sg2 (nI cl2) eW eA eE eC (nI ecd9_26) aTp (nI ez) (nI ep9_27) (nI em9_28)), (zaI aTp cTp 100 fTp), (zaI eW ceW 10 (upd feW2 i (nI jw))), (zaI eA ceA 10 (upd feA2 i (nI em9_12))), (zaI eE ceE 10 feE2), (zaI eC ceC 100 feC9_29)]) [3, 4, 0, 1, 2, 5] (by decide) rfl
                  have hK9 := hK.sub (tys' := [(cTp, .int), (ceW, .int), (ceA, .int), (ceE, .int), (ceC, .int)]) [3, 0, 1, 2, 4] rfl
                  exact W.iret (v := nI ep9_27) hx hb hr (fun tQ htQ hWQ => ⟨⟨(nI ep9_27), (sg2, cl2, ecd9_26, ep9_27, em9_28, (upd feW2 i (nI jw)), (upd feA2 i (nI em9_12)), feE2, feC9_29), rfl, ⟨⟨by omega, by omega, zE2, hC_36⟩, Or.inr ⟨ep9_27, by omega, rfl, hE9.trans (bf_n ((wd_s hwd).trans (rs_4 hN hj2 hy32 eP_31)))⟩⟩, by rw [htQ]; exact hP9, va_K.moved hWQ.alike hK9, hD9⟩, hS.F htQ⟩) hS.2.2 dX5_read_113
              · skip
                obtain rfl := (e_22).symm
                refine lv_if_eq (tgt := 109) hx hb dX5_read_98 (by decide) (fun _ => ?_) (fun c_49 => absurd c_49 (by decide))
                refine lv_aload_n hx hb dX5_read_109 rfl (lv_at hl 1 rfl) ?_
                refine va_get (D := (dC, dI)) (ci := 7) (v := .int (nI ep9_11)) (C := RX5) (T := TX5) (N := 11) hx hb hts kc_xRead_0 hown hK hP 4 rfl rfl 9 (by decide) (hts (.fieldLink RX5 34 "MistHeaps$Hill" "at" "I") kc_xRead_3) (fun _ h9 => h9) rfl dX5_read_110 ?_
                rw [hQ]
                have hP9 := hP.sub (ws' := [(zo7iirrrririii bl sg2 (nI cl2) eW eA eE eC (nI cd2) aTp (nI ez) (nI ep9_11) (nI em9_12)), (zaI aTp cTp 100 fTp), (zaI eW ceW 10 (upd feW2 i (nI jw))), (zaI eA ceA 10 (upd feA2 i (nI em9_12))), (zaI eE ceE 10 feE2), (zaI eC ceC 100 feC2)]) [4, 5, 0, 1, 2, 3] rfl
                have hD9 := hD.sub (ws' := [(zo7iirrrririii bl sg2 (nI cl2) eW eA eE eC (nI cd2) aTp (nI ez) (nI ep9_11) (nI em9_12)), (zaI aTp cTp 100 fTp), (zaI eW ceW 10 (upd feW2 i (nI jw))), (zaI eA ceA 10 (upd feA2 i (nI em9_12))), (zaI eE ceE 10 feE2), (zaI eC ceC 100 feC2)]) [4, 5, 0, 1, 2, 3] (by decide) rfl
                have hK9 := hK.sub (tys' := [(cTp, .int), (ceW, .int), (ceA, .int), (ceE, .int), (ceC, .int)]) [4, 0, 1, 2, 3] rfl
                exact W.iret (v := nI ep9_11) hx hb hr (fun tQ htQ hWQ => ⟨⟨(nI ep9_11), (sg2, cl2, cd2, ep9_11, em9_12, (upd feW2 i (nI jw)), (upd feA2 i (nI em9_12)), feE2, feC2), rfl, ⟨⟨by omega, by omega, zE2, zC2⟩, Or.inr ⟨ep9_11, by omega, rfl, hE9.trans (bf_n ((wd_s hwd).trans (rs_3 hN hj2 hn32)))⟩⟩, by rw [htQ]; exact hP9, va_K.moved hWQ.alike hK9, hD9⟩, hS.F htQ⟩) hS.2.2 dX5_read_113
            · skip
              have c_17 : jw = 2 := (nI_eq (a := jw) (b := 2) (by omega) (by omega)).mp c_17
              have hj2 : jw = 2 := c_17
              refine lv_aload_n hx hb dX5_read_81 rfl (lv_at hl 1 rfl) ?_
              refine lv_aload_n hx hb dX5_read_82 rfl (lv_at hl 1 rfl) ?_
              refine va_get (D := (dC, dI)) (ci := 7) (v := .int (nI em9_12)) (C := RX5) (T := TX5) (N := 11) hx hb hts kc_xRead_0 hown hK hP 4 rfl rfl 10 (by decide) (hts (.fieldLink RX5 48 "MistHeaps$Hill" "number" "I") kc_xRead_8) (fun _ h9 => h9) rfl dX5_read_83 ?_
              refine va_put (D := (dC, dI)) (ci := 7) (v := .int (nI em9_12)) (ty := .int) (C := RX5) (T := TX5) (N := 11) hx hb hts kc_xRead_0 tyX5 tyX5_ok nmX5 hown hK hP hD hS 4 rfl rfl 0 (by decide) (hts (.fieldLink RX5 11 "MistHeaps$Hill" "sight" "I") kc_xRead_5) (fun _ h9 => h9) rfl (by decide +kernel) rfl rfl (Nat.le_of_ble_eq_true rfl) dX5_read_86 (fun H locs hP hD hS => ?_)
              have hP : va_P (dC, dI) vwCl [(zaI eW ceW 10 (upd feW2 i (nI jw))), (zaI eA ceA 10 (upd feA2 i (nI em9_12))), (zaI eE ceE 10 feE2), (zaI eC ceC 100 feC2), (zo7iirrrririii bl (nI em9_12) (nI cl2) eW eA eE eC (nI cd2) aTp (nI ez) (nI ep9_11) (nI em9_12)), (zaI aTp cTp 100 fTp)] H := hP
              have hD : va_D A [(zaI eW ceW 10 (upd feW2 i (nI jw))), (zaI eA ceA 10 (upd feA2 i (nI em9_12))), (zaI eE ceE 10 feE2), (zaI eC ceC 100 feC2), (zo7iirrrririii bl (nI em9_12) (nI cl2) eW eA eE eC (nI cd2) aTp (nI ez) (nI ep9_11) (nI em9_12)), (zaI aTp cTp 100 fTp)] := hD
              refine lv_goto (tgt := 114) hx hb dX5_read_89 (by decide) ?_
              refine lv_aload_n hx hb dX5_read_114 rfl (lv_at hl 1 rfl) ?_
              refine va_get (D := (dC, dI)) (ci := 7) (v := .ref eE) (C := RX5) (T := TX5) (N := 11) hx hb hts kc_xRead_0 hown hK hP 4 rfl rfl 4 (by decide) (hts (.fieldLink RX5 22 "MistHeaps$Hill" "ends" "[I") kc_xRead_9) (fun _ h9 => h9) rfl dX5_read_115 ?_
              refine lv_iload_n hx hb dX5_read_118 rfl (lv_at hl 2 rfl) ?_
              refine lv_aload_n hx hb dX5_read_119 rfl (lv_at hl 1 rfl) ?_
              refine va_get (D := (dC, dI)) (ci := 7) (v := .int (nI cd2)) (C := RX5) (T := TX5) (N := 11) hx hb hts kc_xRead_0 hown hK hP 4 rfl rfl 6 (by decide) (hts (.fieldLink RX5 37 "MistHeaps$Hill" "coded" "I") kc_xRead_4) (fun _ h9 => h9) rfl dX5_read_120 ?_
              refine va_iast hx hb hK hP hD hS 2 2 rfl rfl (vp_in_nI (n := i) (N := 10) (by omega) (by omega)) dX5_read_123 (fun H locs hP hD hS => ?_)
              rw [nI_clamp (n := i) (by omega)] at hP hD
              have hP : va_P (dC, dI) vwCl [(zaI eW ceW 10 (upd feW2 i (nI jw))), (zaI eA ceA 10 (upd feA2 i (nI em9_12))), (zaI eE ceE 10 (upd feE2 i (nI cd2))), (zaI eC ceC 100 feC2), (zo7iirrrririii bl (nI em9_12) (nI cl2) eW eA eE eC (nI cd2) aTp (nI ez) (nI ep9_11) (nI em9_12)), (zaI aTp cTp 100 fTp)] H := hP
              have hD : va_D A [(zaI eW ceW 10 (upd feW2 i (nI jw))), (zaI eA ceA 10 (upd feA2 i (nI em9_12))), (zaI eE ceE 10 (upd feE2 i (nI cd2))), (zaI eC ceC 100 feC2), (zo7iirrrririii bl (nI em9_12) (nI cl2) eW eA eE eC (nI cd2) aTp (nI ez) (nI ep9_11) (nI em9_12)), (zaI aTp cTp 100 fTp)] := hD
              have hE_50 : ∀ k0, k0 < 10 → ∃ e0 : Nat, e0 ≤ 100 ∧ (upd feE2 i (nI cd2)) k0 = nI e0 := end_up zE2 (by have := (hXT).2.1; omega)
              have hcl : pCl ss p2 = (some (jw, em9_12, []), ep9_11) := (wd_s hwd).trans ((rs_2 hN hj2).trans (by rw [hj2]))
              have hE7 : pHl ss ez = pAf ss ez (9 - i) (C1 ++ [(jw, em9_12, [])]) (ep9_11) := hE9.trans (bf_s hcl)
              have hX9 : XT feC2 cd2 (tkC (C1 ++ [(jw, em9_12, [])])) (ep9_11) := by rw [tkC_add]; exact (by rw [show tkC C1 ++ (jw, em9_12, ([] : List Nat)).2.2 = tkC C1 from List.append_nil _]; exact (hXT).mono (by omega))
              rw [show upd feE2 i (nI cd2) = upd feE2 i (nI cd2) from rfl] at hP hD
              have hP : va_P (dC, dI) vwCl [(zaI eW ceW 10 (upd feW2 i (nI jw))), (zaI eA ceA 10 (upd feA2 i (nI em9_12))), (zaI eE ceE 10 (upd feE2 i (nI cd2))), (zaI eC ceC 100 feC2), (zo7iirrrririii bl (nI em9_12) (nI cl2) eW eA eE eC (nI cd2) aTp (nI ez) (nI ep9_11) (nI em9_12)), (zaI aTp cTp 100 fTp)] H := hP
              have hD : va_D A [(zaI eW ceW 10 (upd feW2 i (nI jw))), (zaI eA ceA 10 (upd feA2 i (nI em9_12))), (zaI eE ceE 10 (upd feE2 i (nI cd2))), (zaI eC ceC 100 feC2), (zo7iirrrririii bl (nI em9_12) (nI cl2) eW eA eE eC (nI cd2) aTp (nI ez) (nI ep9_11) (nI em9_12)), (zaI aTp cTp 100 fTp)] := hD
              refine lv_aload_n hx hb dX5_read_124 rfl (lv_at hl 1 rfl) ?_
              refine lv_iload_n hx hb dX5_read_125 rfl (lv_at hl 2 rfl) ?_
              refine lv_iconst (v := 1) hx hb dX5_read_126 (by decide) ?_
              refine lv_iadd hx hb dX5_read_127 ?_
              refine qi_as (y := nI (i + 1)) (nI_add i 1) ?_
              refine va_put (D := (dC, dI)) (ci := 7) (v := .int (nI (i + 1))) (ty := .int) (C := RX5) (T := TX5) (N := 11) hx hb hts kc_xRead_0 tyX5 tyX5_ok nmX5 hown hK hP hD hS 4 rfl rfl 1 (by decide) (hts (.fieldLink RX5 59 "MistHeaps$Hill" "clauses" "I") kc_xRead_10) (fun _ h9 => h9) rfl (by decide +kernel) rfl rfl (Nat.le_of_ble_eq_true rfl) dX5_read_128 (fun H locs hP hD hS => ?_)
              have hP : va_P (dC, dI) vwCl [(zaI eW ceW 10 (upd feW2 i (nI jw))), (zaI eA ceA 10 (upd feA2 i (nI em9_12))), (zaI eE ceE 10 (upd feE2 i (nI cd2))), (zaI eC ceC 100 feC2), (zo7iirrrririii bl (nI em9_12) (nI (i + 1)) eW eA eE eC (nI cd2) aTp (nI ez) (nI ep9_11) (nI em9_12)), (zaI aTp cTp 100 fTp)] H := hP
              have hD : va_D A [(zaI eW ceW 10 (upd feW2 i (nI jw))), (zaI eA ceA 10 (upd feA2 i (nI em9_12))), (zaI eE ceE 10 (upd feE2 i (nI cd2))), (zaI eC ceC 100 feC2), (zo7iirrrririii bl (nI em9_12) (nI (i + 1)) eW eA eE eC (nI cd2) aTp (nI ez) (nI ep9_11) (nI em9_12)), (zaI aTp cTp 100 fTp)] := hD
              refine lv_aload_n hx hb dX5_read_131 rfl (lv_at hl 1 rfl) ?_
              refine va_get (D := (dC, dI)) (ci := 7) (v := .int (nI ep9_11)) (C := RX5) (T := TX5) (N := 11) hx hb hts kc_xRead_0 hown hK hP 4 rfl rfl 9 (by decide) (hts (.fieldLink RX5 34 "MistHeaps$Hill" "at" "I") kc_xRead_3) (fun _ h9 => h9) rfl dX5_read_132 ?_
              refine lv_aload_n hx hb dX5_read_135 rfl (lv_at hl 1 rfl) ?_
              refine va_get (D := (dC, dI)) (ci := 7) (v := .int (nI ez)) (C := RX5) (T := TX5) (N := 11) hx hb hts kc_xRead_0 hown hK hP 4 rfl rfl 8 (by decide) (hts (.fieldLink RX5 31 "MistHeaps$Hill" "size" "I") kc_xRead_2) (fun _ h9 => h9) rfl dX5_read_136 ?_
              refine lv_icmp_ne (tgt := 144) hx hb dX5_read_139 (by decide) (fun c_51 => ?_) (fun c_51 => ?_)
              · skip
                have c_51 : ¬ ep9_11 = ez := fun q => c_51 ((nI_eq (a := ep9_11) (b := ez) (by omega) (by omega)).mpr q)
                refine lv_aload_n hx hb dX5_read_144 rfl (lv_at hl 1 rfl) ?_
                refine lv_bipush (v := 59) hx hb dX5_read_145 (by decide) ?_
                have hPc := hP.sub (ws' := [(zo7iirrrririii bl (nI em9_12) (nI (i + 1)) eW eA eE eC (nI cd2) aTp (nI ez) (nI ep9_11) (nI em9_12)), (zaI aTp cTp 100 fTp)]) [4, 5] rfl
                have hDc := hD.sub (ws' := [(zo7iirrrririii bl (nI em9_12) (nI (i + 1)) eW eA eE eC (nI cd2) aTp (nI ez) (nI ep9_11) (nI em9_12)), (zaI aTp cTp 100 fTp)]) [4, 5] (by decide) rfl
                have hKc := hK.sub (tys' := [(cTp, .int)]) [4] rfl
                have hFc := va_free (wc := [(zo7iirrrririii bl (nI em9_12) (nI (i + 1)) eW eA eE eC (nI cd2) aTp (nI ez) (nI ep9_11) (nI em9_12)), (zaI aTp cTp 100 fTp)]) hD hS hA [4, 5] rfl
                refine va_calli (va_runV (As := [.int 59]) (rest := []) ⟨hx, hb, hml, hown, hts⟩ (c_xReadSign l dC dI bl aTp eW eA eE eC 59 (i + 1) cd2 (nI em9_12) cTp fTp ez ep9_11 em9_12 ss H.size (hez) (by omega) (by decide) (by decide) (gX)) (cwV 1 hts gX5_read_X5_readSign rfl rfl rfl hd_yX5_readSign ⟨Nat.le_of_ble_eq_true rfl, Nat.le_of_ble_eq_true rfl⟩) ⟨fun a U g mk q => by obtain ⟨q0, q1, qP, qK, qD⟩ := q; exact ⟨q0, q1, qP, va_K.moved (u := U) (U := U.calling g mk a) (Vm.Alike.refl U.vm) qK, qD⟩, va_recv hK hP (ci := 7) (q := (RX5, TX5, 11)) (q0 := 4) rfl rfl, fun U hU hW => ⟨rfl, by rw [hU], by rw [hU]; exact hPc, va_K.moved hW.alike hKc, hDc.weaken (fun _ _ _ _ => trivial)⟩⟩ rfl rfl hl.1 rfl (lv_room (Nat.le_of_ble_eq_true rfl)) dX5_read_147 ⟨Nat.le_of_ble_eq_true rfl, Nat.le_of_ble_eq_true rfl⟩) hS (fun q _ h => hFc q h) hFc (fun r_52 u tC H1 locs htC hvm hw_53 hB hz1 hk1 hS => ?_)
                obtain ⟨ep9_54, rfl⟩ : ∃ z, z = u := ⟨_, rfl⟩
                try dsimp only at hw_53 hB
                obtain ⟨hP1, hK1, hD1⟩ := hB
                rw [htC] at hP1
                have hK1 := va_K.moved hvm.symm hK1
                obtain ⟨hP, hD⟩ := va_join (wr := [(zaI eW ceW 10 (upd feW2 i (nI jw))), (zaI eA ceA 10 (upd feA2 i (nI em9_12))), (zaI eE ceE 10 (upd feE2 i (nI cd2))), (zaI eC ceC 100 feC2)]) (w1 := [(zo7iirrrririii bl (nI em9_12) (nI (i + 1)) eW eA eE eC (nI cd2) aTp (nI ez) (nI ep9_54) (nI em9_12)), (zaI aTp cTp 100 fTp)]) hP hD [4, 5] [0, 1, 2, 3] rfl rfl (by decide) (by decide) hk1 hFc hP1 hD1
                have hK := (hK.sub (tys' := [(ceW, .int), (ceA, .int), (ceE, .int), (ceC, .int)]) [0, 1, 2, 3] rfl).app hK1
                generalize H1 = H at hP hS ⊢
                have hP : va_P (dC, dI) vwCl [(zaI eW ceW 10 (upd feW2 i (nI jw))), (zaI eA ceA 10 (upd feA2 i (nI em9_12))), (zaI eE ceE 10 (upd feE2 i (nI cd2))), (zaI eC ceC 100 feC2), (zo7iirrrririii bl (nI em9_12) (nI (i + 1)) eW eA eE eC (nI cd2) aTp (nI ez) (nI ep9_54) (nI em9_12)), (zaI aTp cTp 100 fTp)] H := hP
                have hD : va_D A [(zaI eW ceW 10 (upd feW2 i (nI jw))), (zaI eA ceA 10 (upd feA2 i (nI em9_12))), (zaI eE ceE 10 (upd feE2 i (nI cd2))), (zaI eC ceC 100 feC2), (zo7iirrrririii bl (nI em9_12) (nI (i + 1)) eW eA eE eC (nI cd2) aTp (nI ez) (nI ep9_54) (nI em9_12)), (zaI aTp cTp 100 fTp)] := hD
                have hK : va_K (dC, dI) vwCl [(ceW, .int), (ceA, .int), (ceE, .int), (ceC, .int), (cTp, .int)] s := hK
                rcases hw_53 with ⟨rfl, hy59, h_55, e_56⟩ | ⟨rfl, hn59, e_56⟩
                · skip
                  obtain rfl := (e_56).symm
                  refine lv_if_ne (tgt := 158) hx hb dX5_read_150 (by decide) (fun _ => ?_) (fun c_57 => absurd c_57 (by decide))
                  refine lv_iinc (v := nI (i + 1)) (lv' := [(3, .int (nI (i + 1))), (4, .int (nI jw)), (0, .ref bl)]) hx hb dX5_read_158 hl (k := 2) rfl (nI_add i 1) (by decide) rfl (fun ls hl => ?_)
                  refine lv_goto (tgt := 27) hx hb dX5_read_161 (by decide) ?_
                  have hR9 : RW (i + 1) (upd feW2 i (nI jw)) (upd feA2 i (nI em9_12)) (upd feE2 i (nI cd2)) (C1 ++ [(jw, em9_12, [])]) := RW.add hRW ((congrArg List.length (tkC_add (C := C1) (c := (jw, em9_12, [])))).symm.trans (hX9).1)
                  have hE8 : (i + 1 < 10 ∧ pHl ss ez = pBf ss ez (9 - (i + 1)) (C1 ++ [(jw, em9_12, [])]) (ep9_11 + 1)) ∨ (i + 1 = 10 ∧ 1 ≤ ep9_11 + 1 ∧ pHl ss ez = (none, (ep9_11 + 1) - 1)) := by
                    rcases Nat.lt_or_ge (i + 1) 10 with z | z
                    · refine Or.inl ⟨z, ?_⟩
                      rw [hE7, show 9 - i = (9 - (i + 1)) + 1 by omega]
                      exact af_go (by omega) hy59
                    · refine Or.inr ⟨by omega, by omega, ?_⟩
                      rw [hE7, show 9 - i = 0 by omega]
                      exact af_0 (by omega)
                  exact ih27 (i + 1) _ _ _ _ _ _ _ _ _ ((C1 ++ [(jw, em9_12, [])])) (by omega) (by omega) (by omega) (by have := (hX9).2.1; omega) (hE_50) (zC2) (hE8) (hR9) ((hX9).mono (by omega)) (sg_a2 hj2) _ _ (hK.sub [4, 0, 1, 2, 3] rfl) (hP.sub [4, 5, 0, 1, 2, 3] rfl) (hD.sub [4, 5, 0, 1, 2, 3] (by decide) rfl) hS ls (lv_sub hl [2, 0] rfl)
                · skip
                  obtain rfl := (e_56).symm
                  refine lv_if_ne (tgt := 158) hx hb dX5_read_150 (by decide) (fun c_58 => absurd c_58 (by decide)) (fun _ => ?_)
                  refine lv_aload_n hx hb dX5_read_153 rfl (lv_at hl 1 rfl) ?_
                  refine va_get (D := (dC, dI)) (ci := 7) (v := .int (nI ep9_11)) (C := RX5) (T := TX5) (N := 11) hx hb hts kc_xRead_0 hown hK hP 4 rfl rfl 9 (by decide) (hts (.fieldLink RX5 34 "MistHeaps$Hill" "at" "I") kc_xRead_3) (fun _ h9 => h9) rfl dX5_read_154 ?_
                  rw [hQ]
                  have hP9 := hP.sub (ws' := [(zo7iirrrririii bl (nI em9_12) (nI (i + 1)) eW eA eE eC (nI cd2) aTp (nI ez) (nI ep9_11) (nI em9_12)), (zaI aTp cTp 100 fTp), (zaI eW ceW 10 (upd feW2 i (nI jw))), (zaI eA ceA 10 (upd feA2 i (nI em9_12))), (zaI eE ceE 10 (upd feE2 i (nI cd2))), (zaI eC ceC 100 feC2)]) [4, 5, 0, 1, 2, 3] rfl
                  have hD9 := hD.sub (ws' := [(zo7iirrrririii bl (nI em9_12) (nI (i + 1)) eW eA eE eC (nI cd2) aTp (nI ez) (nI ep9_11) (nI em9_12)), (zaI aTp cTp 100 fTp), (zaI eW ceW 10 (upd feW2 i (nI jw))), (zaI eA ceA 10 (upd feA2 i (nI em9_12))), (zaI eE ceE 10 (upd feE2 i (nI cd2))), (zaI eC ceC 100 feC2)]) [4, 5, 0, 1, 2, 3] (by decide) rfl
                  have hK9 := hK.sub (tys' := [(cTp, .int), (ceW, .int), (ceA, .int), (ceE, .int), (ceC, .int)]) [4, 0, 1, 2, 3] rfl
                  exact W.iret (v := nI ep9_11) hx hb hr (fun tQ htQ hWQ => ⟨⟨(nI ep9_11), ((nI em9_12), (i + 1), cd2, ep9_11, em9_12, (upd feW2 i (nI jw)), (upd feA2 i (nI em9_12)), (upd feE2 i (nI cd2)), feC2), rfl, ⟨⟨by omega, by omega, hE_50, zC2⟩, Or.inr ⟨ep9_11, by omega, rfl, hE7.trans (af_n (by omega) hn59)⟩⟩, by rw [htQ]; exact hP9, va_K.moved hWQ.alike hK9, hD9⟩, hS.F htQ⟩) hS.2.2 dX5_read_157
              · skip
                have c_51 : ep9_11 = ez := (nI_eq (a := ep9_11) (b := ez) (by omega) (by omega)).mp c_51
                refine lv_iconst (v := (-1)) hx hb dX5_read_142 (by decide) ?_
                rw [hQ]
                have hP9 := hP.sub (ws' := [(zo7iirrrririii bl (nI em9_12) (nI (i + 1)) eW eA eE eC (nI cd2) aTp (nI ez) (nI ep9_11) (nI em9_12)), (zaI aTp cTp 100 fTp), (zaI eW ceW 10 (upd feW2 i (nI jw))), (zaI eA ceA 10 (upd feA2 i (nI em9_12))), (zaI eE ceE 10 (upd feE2 i (nI cd2))), (zaI eC ceC 100 feC2)]) [4, 5, 0, 1, 2, 3] rfl
                have hD9 := hD.sub (ws' := [(zo7iirrrririii bl (nI em9_12) (nI (i + 1)) eW eA eE eC (nI cd2) aTp (nI ez) (nI ep9_11) (nI em9_12)), (zaI aTp cTp 100 fTp), (zaI eW ceW 10 (upd feW2 i (nI jw))), (zaI eA ceA 10 (upd feA2 i (nI em9_12))), (zaI eE ceE 10 (upd feE2 i (nI cd2))), (zaI eC ceC 100 feC2)]) [4, 5, 0, 1, 2, 3] (by decide) rfl
                have hK9 := hK.sub (tys' := [(cTp, .int), (ceW, .int), (ceA, .int), (ceE, .int), (ceC, .int)]) [4, 0, 1, 2, 3] rfl
                exact W.iret (v := (-1)) hx hb hr (fun tQ htQ hWQ => ⟨⟨(-1), ((nI em9_12), (i + 1), cd2, ep9_11, em9_12, (upd feW2 i (nI jw)), (upd feA2 i (nI em9_12)), (upd feE2 i (nI cd2)), feC2), rfl, ⟨⟨by omega, by omega, hE_50, zC2⟩, Or.inl ⟨rfl, C1 ++ [(jw, em9_12, [])], by rw [hE7, af_e (by omega)]; exact congrArg (fun z => (some (C1 ++ [(jw, em9_12, [])]), z)) (by omega), (RW.add hRW ((congrArg List.length (tkC_add (C := C1) (c := (jw, em9_12, [])))).symm.trans (hX9).1)).hc (hX9) (sg_a2 hj2) (by omega)⟩⟩, by rw [htQ]; exact hP9, va_K.moved hWQ.alike hK9, hD9⟩, hS.F htQ⟩) hS.2.2 dX5_read_143
          · skip
            obtain rfl := (h_13).symm
            obtain rfl := (h_14).symm
            refine lv_if_ne (tgt := 57) hx hb dX5_read_49 (by decide) (fun c_59 => absurd c_59 (by decide)) (fun _ => ?_)
            refine lv_aload_n hx hb dX5_read_52 rfl (lv_at hl 1 rfl) ?_
            refine va_get (D := (dC, dI)) (ci := 7) (v := .int (nI ep9_4)) (C := RX5) (T := TX5) (N := 11) hx hb hts kc_xRead_0 hown hK hP 4 rfl rfl 9 (by decide) (hts (.fieldLink RX5 34 "MistHeaps$Hill" "at" "I") kc_xRead_3) (fun _ h9 => h9) rfl dX5_read_53 ?_
            rw [hQ]
            have hP9 := hP.sub (ws' := [(zo7iirrrririii bl sg2 (nI cl2) eW eA eE eC (nI cd2) aTp (nI ez) (nI ep9_4) (nI m2)), (zaI aTp cTp 100 fTp), (zaI eW ceW 10 feW2), (zaI eA ceA 10 feA2), (zaI eE ceE 10 feE2), (zaI eC ceC 100 feC2)]) [4, 5, 0, 1, 2, 3] rfl
            have hD9 := hD.sub (ws' := [(zo7iirrrririii bl sg2 (nI cl2) eW eA eE eC (nI cd2) aTp (nI ez) (nI ep9_4) (nI m2)), (zaI aTp cTp 100 fTp), (zaI eW ceW 10 feW2), (zaI eA ceA 10 feA2), (zaI eE ceE 10 feE2), (zaI eC ceC 100 feC2)]) [4, 5, 0, 1, 2, 3] (by decide) rfl
            have hK9 := hK.sub (tys' := [(cTp, .int), (ceW, .int), (ceA, .int), (ceE, .int), (ceC, .int)]) [4, 0, 1, 2, 3] rfl
            exact W.iret (v := nI ep9_4) hx hb hr (fun tQ htQ hWQ => ⟨⟨(nI ep9_4), (sg2, cl2, cd2, ep9_4, m2, feW2, feA2, feE2, feC2), rfl, ⟨⟨by omega, by omega, zE2, zC2⟩, Or.inr ⟨ep9_4, by omega, rfl, hE9.trans (bf_n ((wd_s hwd).trans (rs_1 hN)))⟩⟩, by rw [htQ]; exact hP9, va_K.moved hWQ.alike hK9, hD9⟩, hS.F htQ⟩) hS.2.2 dX5_read_56
  exact L27 _ (0) _ (ecl) (0) (0) (em) _ _ _ _ ([]) (Nat.lt_succ_self _) (by omega) (by omega) (by omega) (zeE) (zeC) (Or.inl ⟨by omega, rfl⟩) (⟨rfl, fun k hk => absurd hk (Nat.not_lt_zero k)⟩) (⟨rfl, by omega, fun i hi => absurd hi (Nat.not_lt_zero i)⟩) (rfl) _ _ (hK.sub [0, 1, 2, 3, 4] rfl) (hP.sub [0, 1, 2, 3, 4, 5] rfl) (hD.sub [0, 1, 2, 3, 4, 5] (by decide) rfl) hS ls (lv_sub hl [1, 0] rfl)
