theorem ggX11_heap_X11_isCell : GoodIn wsX11_heap wsX11_isCell := gga_of 549 rfl rfl rfl
theorem gX11_heap_X11_isCell : GoodIn wsX11_heap (va_wsS RX11 94 yX11_isCell wsX11_isCell) := goodIn_app (ggh_of [547, 548, 63] rfl rfl rfl) ggX11_heap_X11_isCell
theorem ggX11_heap_X8_isTaken : GoodIn wsX11_heap wsX8_isTaken := gga_of 553 rfl rfl rfl
theorem gX11_heap_X8_isTaken : GoodIn wsX11_heap (wsV RX11 98 RX8 yX8_isTaken wsX8_isTaken) := goodIn_app (ggh_of [550, 551, 552, 64] rfl rfl rfl) ggX11_heap_X8_isTaken
theorem ggX11_heap_X11_heapOfKind : GoodIn wsX11_heap wsX11_heapOfKind := gga_of 556 rfl rfl rfl
theorem gX11_heap_X11_heapOfKind : GoodIn wsX11_heap (va_wsS RX11 108 yX11_heapOfKind wsX11_heapOfKind) := goodIn_app (ggh_of [554, 555, 63] rfl rfl rfl) ggX11_heap_X11_heapOfKind
theorem ggX11_hill_X5_read : GoodIn wsX11_hill wsX5_read := gga_of 361 rfl rfl rfl
theorem gX11_hill_X5_read : GoodIn wsX11_hill (wsV RX11 64 RX5 yX5_read wsX5_read) := goodIn_app (ggh_of [358, 359, 360, 65] rfl rfl rfl) ggX11_hill_X5_read
theorem ggX11_hill_X5_init : GoodIn wsX11_hill wsX5_init := gga_of 111 rfl rfl rfl
noncomputable def dk18fmade_cX11_heap_0 : List (Nat × Instr × Nat) := [(0, .iload_n 1, 1), (1, .ifCond .lt 16, 3), (17, .iconst (-1), 1), (18, .ireturn, 1), (4, .iload_n 1, 1), (5, .bipush 7, 2), (7, .if_icmp .ge 10, 3), (10, .iload_n 3, 1), (11, .invokestatic 94, 3), (14, .ifCond .ne 5, 3), (19, .iload_n 2, 1), (20, .ifCond .lt 9, 3), (29, .bipush (-2), 2), (31, .ireturn, 1), (23, .iload_n 2, 1), (24, .bipush 9, 2), (26, .if_icmp .le 6, 3), (32, .aload_n 0, 1), (33, .getfield 14, 3), (36, .iload_n 3, 1), (37, .invokevirtual 98, 3), (40, .ifCond .eq 6, 3), (43, .bipush (-3), 2), (45, .ireturn, 1), (46, .aload_n 0, 1), (47, .getfield 14, 3), (50, .getfield 101, 3), (53, .bipush 8, 2), (55, .if_icmp .lt 6, 3), (61, .aload_n 0, 1), (62, .getfield 14, 3), (65, .getfield 104, 3), (68, .aload_n 0, 1), (69, .getfield 14, 3), (72, .getfield 101, 3), (75, .iload_n 1, 1), (76, .aload_n 0, 1), (77, .getfield 14, 3), (80, .getfield 101, 3), (83, .iload_n 2, 1)]
set_option maxRecDepth 100000 in
theorem dk18fmade_cX11_heap_0_a : dkA cX11_heap dk18fmade_cX11_heap_0 = true := by decide +kernel
theorem dX11_heap_0 : decode cX11_heap 0 = .ok (.iload_n 1, 1) := dkAt dk18fmade_cX11_heap_0_a 0 rfl
theorem dX11_heap_1 : decode cX11_heap 1 = .ok (.ifCond .lt 16, 3) := dkAt dk18fmade_cX11_heap_0_a 1 rfl
theorem dX11_heap_17 : decode cX11_heap 17 = .ok (.iconst (-1), 1) := dkAt dk18fmade_cX11_heap_0_a 2 rfl
theorem dX11_heap_18 : decode cX11_heap 18 = .ok (.ireturn, 1) := dkAt dk18fmade_cX11_heap_0_a 3 rfl
theorem dX11_heap_4 : decode cX11_heap 4 = .ok (.iload_n 1, 1) := dkAt dk18fmade_cX11_heap_0_a 4 rfl
theorem dX11_heap_5 : decode cX11_heap 5 = .ok (.bipush 7, 2) := dkAt dk18fmade_cX11_heap_0_a 5 rfl
theorem dX11_heap_7 : decode cX11_heap 7 = .ok (.if_icmp .ge 10, 3) := dkAt dk18fmade_cX11_heap_0_a 6 rfl
theorem dX11_heap_10 : decode cX11_heap 10 = .ok (.iload_n 3, 1) := dkAt dk18fmade_cX11_heap_0_a 7 rfl
theorem dX11_heap_11 : decode cX11_heap 11 = .ok (.invokestatic 94, 3) := dkAt dk18fmade_cX11_heap_0_a 8 rfl
theorem dX11_heap_14 : decode cX11_heap 14 = .ok (.ifCond .ne 5, 3) := dkAt dk18fmade_cX11_heap_0_a 9 rfl
theorem dX11_heap_19 : decode cX11_heap 19 = .ok (.iload_n 2, 1) := dkAt dk18fmade_cX11_heap_0_a 10 rfl
theorem dX11_heap_20 : decode cX11_heap 20 = .ok (.ifCond .lt 9, 3) := dkAt dk18fmade_cX11_heap_0_a 11 rfl
theorem dX11_heap_29 : decode cX11_heap 29 = .ok (.bipush (-2), 2) := dkAt dk18fmade_cX11_heap_0_a 12 rfl
theorem dX11_heap_31 : decode cX11_heap 31 = .ok (.ireturn, 1) := dkAt dk18fmade_cX11_heap_0_a 13 rfl
theorem dX11_heap_23 : decode cX11_heap 23 = .ok (.iload_n 2, 1) := dkAt dk18fmade_cX11_heap_0_a 14 rfl
theorem dX11_heap_24 : decode cX11_heap 24 = .ok (.bipush 9, 2) := dkAt dk18fmade_cX11_heap_0_a 15 rfl
theorem dX11_heap_26 : decode cX11_heap 26 = .ok (.if_icmp .le 6, 3) := dkAt dk18fmade_cX11_heap_0_a 16 rfl
theorem dX11_heap_32 : decode cX11_heap 32 = .ok (.aload_n 0, 1) := dkAt dk18fmade_cX11_heap_0_a 17 rfl
theorem dX11_heap_33 : decode cX11_heap 33 = .ok (.getfield 14, 3) := dkAt dk18fmade_cX11_heap_0_a 18 rfl
theorem dX11_heap_36 : decode cX11_heap 36 = .ok (.iload_n 3, 1) := dkAt dk18fmade_cX11_heap_0_a 19 rfl
theorem dX11_heap_37 : decode cX11_heap 37 = .ok (.invokevirtual 98, 3) := dkAt dk18fmade_cX11_heap_0_a 20 rfl
theorem dX11_heap_40 : decode cX11_heap 40 = .ok (.ifCond .eq 6, 3) := dkAt dk18fmade_cX11_heap_0_a 21 rfl
theorem dX11_heap_43 : decode cX11_heap 43 = .ok (.bipush (-3), 2) := dkAt dk18fmade_cX11_heap_0_a 22 rfl
theorem dX11_heap_45 : decode cX11_heap 45 = .ok (.ireturn, 1) := dkAt dk18fmade_cX11_heap_0_a 23 rfl
theorem dX11_heap_46 : decode cX11_heap 46 = .ok (.aload_n 0, 1) := dkAt dk18fmade_cX11_heap_0_a 24 rfl
theorem dX11_heap_47 : decode cX11_heap 47 = .ok (.getfield 14, 3) := dkAt dk18fmade_cX11_heap_0_a 25 rfl
theorem dX11_heap_50 : decode cX11_heap 50 = .ok (.getfield 101, 3) := dkAt dk18fmade_cX11_heap_0_a 26 rfl
theorem dX11_heap_53 : decode cX11_heap 53 = .ok (.bipush 8, 2) := dkAt dk18fmade_cX11_heap_0_a 27 rfl
theorem dX11_heap_55 : decode cX11_heap 55 = .ok (.if_icmp .lt 6, 3) := dkAt dk18fmade_cX11_heap_0_a 28 rfl
theorem dX11_heap_61 : decode cX11_heap 61 = .ok (.aload_n 0, 1) := dkAt dk18fmade_cX11_heap_0_a 29 rfl
theorem dX11_heap_62 : decode cX11_heap 62 = .ok (.getfield 14, 3) := dkAt dk18fmade_cX11_heap_0_a 30 rfl
theorem dX11_heap_65 : decode cX11_heap 65 = .ok (.getfield 104, 3) := dkAt dk18fmade_cX11_heap_0_a 31 rfl
theorem dX11_heap_68 : decode cX11_heap 68 = .ok (.aload_n 0, 1) := dkAt dk18fmade_cX11_heap_0_a 32 rfl
theorem dX11_heap_69 : decode cX11_heap 69 = .ok (.getfield 14, 3) := dkAt dk18fmade_cX11_heap_0_a 33 rfl
theorem dX11_heap_72 : decode cX11_heap 72 = .ok (.getfield 101, 3) := dkAt dk18fmade_cX11_heap_0_a 34 rfl
theorem dX11_heap_75 : decode cX11_heap 75 = .ok (.iload_n 1, 1) := dkAt dk18fmade_cX11_heap_0_a 35 rfl
theorem dX11_heap_76 : decode cX11_heap 76 = .ok (.aload_n 0, 1) := dkAt dk18fmade_cX11_heap_0_a 36 rfl
theorem dX11_heap_77 : decode cX11_heap 77 = .ok (.getfield 14, 3) := dkAt dk18fmade_cX11_heap_0_a 37 rfl
theorem dX11_heap_80 : decode cX11_heap 80 = .ok (.getfield 101, 3) := dkAt dk18fmade_cX11_heap_0_a 38 rfl
theorem dX11_heap_83 : decode cX11_heap 83 = .ok (.iload_n 2, 1) := dkAt dk18fmade_cX11_heap_0_a 39 rfl
noncomputable def dk18fmade_cX11_heap_40 : List (Nat × Instr × Nat) := [(84, .iload_n 3, 1), (85, .invokestatic 108, 3), (88, .aastore, 1), (89, .aload_n 0, 1), (90, .getfield 14, 3), (93, .dup, 1), (94, .getfield 101, 3), (97, .iconst 1, 1), (98, .iadd, 1), (99, .putfield 101, 3), (102, .aload_n 0, 1), (103, .getfield 14, 3), (106, .getfield 101, 3), (109, .iconst 1, 1), (110, .isub, 1), (111, .ireturn, 1), (58, .bipush (-4), 2), (60, .ireturn, 1)]
set_option maxRecDepth 100000 in
theorem dk18fmade_cX11_heap_40_a : dkA cX11_heap dk18fmade_cX11_heap_40 = true := by decide +kernel
theorem dX11_heap_84 : decode cX11_heap 84 = .ok (.iload_n 3, 1) := dkAt dk18fmade_cX11_heap_40_a 0 rfl
theorem dX11_heap_85 : decode cX11_heap 85 = .ok (.invokestatic 108, 3) := dkAt dk18fmade_cX11_heap_40_a 1 rfl
theorem dX11_heap_88 : decode cX11_heap 88 = .ok (.aastore, 1) := dkAt dk18fmade_cX11_heap_40_a 2 rfl
theorem dX11_heap_89 : decode cX11_heap 89 = .ok (.aload_n 0, 1) := dkAt dk18fmade_cX11_heap_40_a 3 rfl
theorem dX11_heap_90 : decode cX11_heap 90 = .ok (.getfield 14, 3) := dkAt dk18fmade_cX11_heap_40_a 4 rfl
theorem dX11_heap_93 : decode cX11_heap 93 = .ok (.dup, 1) := dkAt dk18fmade_cX11_heap_40_a 5 rfl
theorem dX11_heap_94 : decode cX11_heap 94 = .ok (.getfield 101, 3) := dkAt dk18fmade_cX11_heap_40_a 6 rfl
theorem dX11_heap_97 : decode cX11_heap 97 = .ok (.iconst 1, 1) := dkAt dk18fmade_cX11_heap_40_a 7 rfl
theorem dX11_heap_98 : decode cX11_heap 98 = .ok (.iadd, 1) := dkAt dk18fmade_cX11_heap_40_a 8 rfl
theorem dX11_heap_99 : decode cX11_heap 99 = .ok (.putfield 101, 3) := dkAt dk18fmade_cX11_heap_40_a 9 rfl
theorem dX11_heap_102 : decode cX11_heap 102 = .ok (.aload_n 0, 1) := dkAt dk18fmade_cX11_heap_40_a 10 rfl
theorem dX11_heap_103 : decode cX11_heap 103 = .ok (.getfield 14, 3) := dkAt dk18fmade_cX11_heap_40_a 11 rfl
theorem dX11_heap_106 : decode cX11_heap 106 = .ok (.getfield 101, 3) := dkAt dk18fmade_cX11_heap_40_a 12 rfl
theorem dX11_heap_109 : decode cX11_heap 109 = .ok (.iconst 1, 1) := dkAt dk18fmade_cX11_heap_40_a 13 rfl
theorem dX11_heap_110 : decode cX11_heap 110 = .ok (.isub, 1) := dkAt dk18fmade_cX11_heap_40_a 14 rfl
theorem dX11_heap_111 : decode cX11_heap 111 = .ok (.ireturn, 1) := dkAt dk18fmade_cX11_heap_40_a 15 rfl
theorem dX11_heap_58 : decode cX11_heap 58 = .ok (.bipush (-4), 2) := dkAt dk18fmade_cX11_heap_40_a 16 rfl
theorem dX11_heap_60 : decode cX11_heap 60 = .ok (.ireturn, 1) := dkAt dk18fmade_cX11_heap_40_a 17 rfl
noncomputable def dk18fmade_cX11_hill_0 : List (Nat × Instr × Nat) := [(0, .aload_n 0, 1), (1, .getfield 14, 3), (4, .getfield 61, 3), (7, .iconst 5, 1), (8, .if_icmp .lt 6, 3), (14, .aload_n 0, 1), (15, .getfield 28, 3), (18, .aload_n 0, 1), (19, .getfield 14, 3), (22, .getfield 57, 3), (25, .aload_n 0, 1), (26, .getfield 14, 3), (29, .getfield 53, 3), (32, .invokevirtual 64, 3), (35, .istore_n 1, 1), (36, .aload_n 0, 1), (37, .getfield 14, 3), (40, .iconst 0, 1), (41, .putfield 53, 3), (44, .iload_n 1, 1), (45, .iconst (-1), 1), (46, .if_icmp .eq 8, 3), (54, .aload_n 0, 1), (55, .getfield 14, 3), (58, .aload_n 0, 1), (59, .getfield 28, 3), (62, .putfield 68, 3), (65, .aload_n 0, 1), (66, .new 25, 3), (69, .dup, 1), (70, .invokespecial 27, 3), (73, .putfield 28, 3), (76, .aload_n 0, 1), (77, .getfield 14, 3), (80, .dup, 1), (81, .getfield 61, 3), (84, .iconst 1, 1), (85, .iadd, 1), (86, .putfield 61, 3), (89, .aload_n 0, 1)]
set_option maxRecDepth 100000 in
theorem dk18fmade_cX11_hill_0_a : dkA cX11_hill dk18fmade_cX11_hill_0 = true := by decide +kernel
theorem dX11_hill_0 : decode cX11_hill 0 = .ok (.aload_n 0, 1) := dkAt dk18fmade_cX11_hill_0_a 0 rfl
theorem dX11_hill_1 : decode cX11_hill 1 = .ok (.getfield 14, 3) := dkAt dk18fmade_cX11_hill_0_a 1 rfl
theorem dX11_hill_4 : decode cX11_hill 4 = .ok (.getfield 61, 3) := dkAt dk18fmade_cX11_hill_0_a 2 rfl
theorem dX11_hill_7 : decode cX11_hill 7 = .ok (.iconst 5, 1) := dkAt dk18fmade_cX11_hill_0_a 3 rfl
theorem dX11_hill_8 : decode cX11_hill 8 = .ok (.if_icmp .lt 6, 3) := dkAt dk18fmade_cX11_hill_0_a 4 rfl
theorem dX11_hill_14 : decode cX11_hill 14 = .ok (.aload_n 0, 1) := dkAt dk18fmade_cX11_hill_0_a 5 rfl
theorem dX11_hill_15 : decode cX11_hill 15 = .ok (.getfield 28, 3) := dkAt dk18fmade_cX11_hill_0_a 6 rfl
theorem dX11_hill_18 : decode cX11_hill 18 = .ok (.aload_n 0, 1) := dkAt dk18fmade_cX11_hill_0_a 7 rfl
theorem dX11_hill_19 : decode cX11_hill 19 = .ok (.getfield 14, 3) := dkAt dk18fmade_cX11_hill_0_a 8 rfl
theorem dX11_hill_22 : decode cX11_hill 22 = .ok (.getfield 57, 3) := dkAt dk18fmade_cX11_hill_0_a 9 rfl
theorem dX11_hill_25 : decode cX11_hill 25 = .ok (.aload_n 0, 1) := dkAt dk18fmade_cX11_hill_0_a 10 rfl
theorem dX11_hill_26 : decode cX11_hill 26 = .ok (.getfield 14, 3) := dkAt dk18fmade_cX11_hill_0_a 11 rfl
theorem dX11_hill_29 : decode cX11_hill 29 = .ok (.getfield 53, 3) := dkAt dk18fmade_cX11_hill_0_a 12 rfl
theorem dX11_hill_32 : decode cX11_hill 32 = .ok (.invokevirtual 64, 3) := dkAt dk18fmade_cX11_hill_0_a 13 rfl
theorem dX11_hill_35 : decode cX11_hill 35 = .ok (.istore_n 1, 1) := dkAt dk18fmade_cX11_hill_0_a 14 rfl
theorem dX11_hill_36 : decode cX11_hill 36 = .ok (.aload_n 0, 1) := dkAt dk18fmade_cX11_hill_0_a 15 rfl
theorem dX11_hill_37 : decode cX11_hill 37 = .ok (.getfield 14, 3) := dkAt dk18fmade_cX11_hill_0_a 16 rfl
theorem dX11_hill_40 : decode cX11_hill 40 = .ok (.iconst 0, 1) := dkAt dk18fmade_cX11_hill_0_a 17 rfl
theorem dX11_hill_41 : decode cX11_hill 41 = .ok (.putfield 53, 3) := dkAt dk18fmade_cX11_hill_0_a 18 rfl
theorem dX11_hill_44 : decode cX11_hill 44 = .ok (.iload_n 1, 1) := dkAt dk18fmade_cX11_hill_0_a 19 rfl
theorem dX11_hill_45 : decode cX11_hill 45 = .ok (.iconst (-1), 1) := dkAt dk18fmade_cX11_hill_0_a 20 rfl
theorem dX11_hill_46 : decode cX11_hill 46 = .ok (.if_icmp .eq 8, 3) := dkAt dk18fmade_cX11_hill_0_a 21 rfl
theorem dX11_hill_54 : decode cX11_hill 54 = .ok (.aload_n 0, 1) := dkAt dk18fmade_cX11_hill_0_a 22 rfl
theorem dX11_hill_55 : decode cX11_hill 55 = .ok (.getfield 14, 3) := dkAt dk18fmade_cX11_hill_0_a 23 rfl
theorem dX11_hill_58 : decode cX11_hill 58 = .ok (.aload_n 0, 1) := dkAt dk18fmade_cX11_hill_0_a 24 rfl
theorem dX11_hill_59 : decode cX11_hill 59 = .ok (.getfield 28, 3) := dkAt dk18fmade_cX11_hill_0_a 25 rfl
theorem dX11_hill_62 : decode cX11_hill 62 = .ok (.putfield 68, 3) := dkAt dk18fmade_cX11_hill_0_a 26 rfl
theorem dX11_hill_65 : decode cX11_hill 65 = .ok (.aload_n 0, 1) := dkAt dk18fmade_cX11_hill_0_a 27 rfl
theorem dX11_hill_66 : decode cX11_hill 66 = .ok (.new 25, 3) := dkAt dk18fmade_cX11_hill_0_a 28 rfl
theorem dX11_hill_69 : decode cX11_hill 69 = .ok (.dup, 1) := dkAt dk18fmade_cX11_hill_0_a 29 rfl
theorem dX11_hill_70 : decode cX11_hill 70 = .ok (.invokespecial 27, 3) := dkAt dk18fmade_cX11_hill_0_a 30 rfl
theorem dX11_hill_73 : decode cX11_hill 73 = .ok (.putfield 28, 3) := dkAt dk18fmade_cX11_hill_0_a 31 rfl
theorem dX11_hill_76 : decode cX11_hill 76 = .ok (.aload_n 0, 1) := dkAt dk18fmade_cX11_hill_0_a 32 rfl
theorem dX11_hill_77 : decode cX11_hill 77 = .ok (.getfield 14, 3) := dkAt dk18fmade_cX11_hill_0_a 33 rfl
theorem dX11_hill_80 : decode cX11_hill 80 = .ok (.dup, 1) := dkAt dk18fmade_cX11_hill_0_a 34 rfl
theorem dX11_hill_81 : decode cX11_hill 81 = .ok (.getfield 61, 3) := dkAt dk18fmade_cX11_hill_0_a 35 rfl
theorem dX11_hill_84 : decode cX11_hill 84 = .ok (.iconst 1, 1) := dkAt dk18fmade_cX11_hill_0_a 36 rfl
theorem dX11_hill_85 : decode cX11_hill 85 = .ok (.iadd, 1) := dkAt dk18fmade_cX11_hill_0_a 37 rfl
theorem dX11_hill_86 : decode cX11_hill 86 = .ok (.putfield 61, 3) := dkAt dk18fmade_cX11_hill_0_a 38 rfl
theorem dX11_hill_89 : decode cX11_hill 89 = .ok (.aload_n 0, 1) := dkAt dk18fmade_cX11_hill_0_a 39 rfl
noncomputable def dk18fmade_cX11_hill_40 : List (Nat × Instr × Nat) := [(90, .getfield 14, 3), (93, .getfield 61, 3), (96, .iconst 1, 1), (97, .isub, 1), (98, .ireturn, 1), (49, .bipush (-10), 2), (51, .iload_n 1, 1), (52, .isub, 1), (53, .ireturn, 1), (11, .bipush (-4), 2), (13, .ireturn, 1)]
set_option maxRecDepth 100000 in
theorem dk18fmade_cX11_hill_40_a : dkA cX11_hill dk18fmade_cX11_hill_40 = true := by decide +kernel
theorem dX11_hill_90 : decode cX11_hill 90 = .ok (.getfield 14, 3) := dkAt dk18fmade_cX11_hill_40_a 0 rfl
theorem dX11_hill_93 : decode cX11_hill 93 = .ok (.getfield 61, 3) := dkAt dk18fmade_cX11_hill_40_a 1 rfl
theorem dX11_hill_96 : decode cX11_hill 96 = .ok (.iconst 1, 1) := dkAt dk18fmade_cX11_hill_40_a 2 rfl
theorem dX11_hill_97 : decode cX11_hill 97 = .ok (.isub, 1) := dkAt dk18fmade_cX11_hill_40_a 3 rfl
theorem dX11_hill_98 : decode cX11_hill 98 = .ok (.ireturn, 1) := dkAt dk18fmade_cX11_hill_40_a 4 rfl
theorem dX11_hill_49 : decode cX11_hill 49 = .ok (.bipush (-10), 2) := dkAt dk18fmade_cX11_hill_40_a 5 rfl
theorem dX11_hill_51 : decode cX11_hill 51 = .ok (.iload_n 1, 1) := dkAt dk18fmade_cX11_hill_40_a 6 rfl
theorem dX11_hill_52 : decode cX11_hill 52 = .ok (.isub, 1) := dkAt dk18fmade_cX11_hill_40_a 7 rfl
theorem dX11_hill_53 : decode cX11_hill 53 = .ok (.ireturn, 1) := dkAt dk18fmade_cX11_hill_40_a 8 rfl
theorem dX11_hill_11 : decode cX11_hill 11 = .ok (.bipush (-4), 2) := dkAt dk18fmade_cX11_hill_40_a 9 rfl
theorem dX11_hill_13 : decode cX11_hill 13 = .ok (.ireturn, 1) := dkAt dk18fmade_cX11_hill_40_a 10 rfl
theorem kc_xHeap_0 : ∀ w ∈ wsX110, w ∈ wsX11_heap := fun w h => List.mem_cons_of_mem _ (gin_wsX110 w h)
theorem kc_xHeap_1 : (.fieldLink RX11 14 "MistHeaps" "scene" "LMistHeaps$Scene;" : Cond) ∈ wsX11_heap := kc_of 328 rfl rfl rfl
theorem kc_xHeap_2 : ∀ w ∈ wsX80, w ∈ wsX11_heap := fun w h => List.mem_cons_of_mem _ (gin_wsX80 w h)
theorem kc_xHeap_3 : (.fieldLink RX11 101 "MistHeaps$Scene" "heapCount" "I" : Cond) ∈ wsX11_heap := kc_of 173 rfl rfl rfl
theorem kc_xHeap_4 : (.fieldLink RX11 104 "MistHeaps$Scene" "heaps" "[LMistHeaps$Heap;" : Cond) ∈ wsX11_heap := kc_of 170 rfl rfl rfl
set_option maxHeartbeats 4000000 in
set_option maxRecDepth 100000 in
theorem c_xHeap (l : Launch) (dC : Nat → ClassId) (dI : Nat → Nat → Nat) (bS : Nat)  (h0 : Nat) (sc : Nat) (kp : Nat) (bl : Nat) (go : Nat) (ch : Nat) (bo : Nat) (aTp : Nat) (aHl : Nat) (aHs : Nat) (aWk : Nat) (aBk : Nat) (aFc : Nat) (ts : Nat) (nh : Nat) (n : Nat) (wz : Nat) (bz : Nat) (mi : Int32) (sn : Int32) (ik : Int32) (x : Int32) (y : Int32) (z : Int32) (ed : Int64) (cHs : ClassId) (yk : Nat → Int32) (yv : Nat → Int32) (yc : Nat → Int32) (fHs : Nat → Option Nat) (yi : Nat → Nat) (ya : Nat → Nat) (sz : Nat) (zhs : ∀ k0, k0 < n → fHs k0 = some (ya k0)) (hn8 : n ≤ 8) : Met l yX11_heap wsX11_heap ({ frames := 5, cells := 1, slots := 4, locals := 107 } : Room) (va_Pc [.ref h0, .int x, .int y, .int z] (fun U => U.heap.size = sz ∧ va_P (dC, dI) vwCl [(zo13rrirrrr h0 sc kp ik bl go ch bo), (zo10ririliiriririr sc aTp (nI ts) aHl (nI nh) ed mi sn aHs (nI n) aWk (nI wz) aBk (nI bz) aFc), (zaR aHs cHs 8 fHs)] U.heap ∧ va_K (dC, dI) vwCl [(cHs, .object "MistHeaps$Heap")] U ∧ va_D (fun _ => True) [(zo13rrirrrr h0 sc kp ik bl go ch bo), (zo10ririliiriririr sc aTp (nI ts) aHl (nI nh) ed mi sn aHs (nI n) aWk (nI wz) aBk (nI bz) aFc), (zaR aHs cHs 8 fHs)] ∧ Gc bS (va_A [(zo13rrirrrr h0 sc kp ik bl go ch bo), (zo10ririliiriririr sc aTp (nI ts) aHl (nI nh) ed mi sn aHs (nI n) aWk (nI wz) aBk (nI bz) aFc), (zaR aHs cHs 8 fHs)] sz) U ∧ Hs dC dI n yi ya yk yv yc (va_A [(zo13rrirrrr h0 sc kp ik bl go ch bo), (zo10ririliiriririr sc aTp (nI ts) aHl (nI nh) ed mi sn aHs (nI n) aWk (nI wz) aBk (nI bz) aFc), (zaR aHs cHs 8 fHs)] sz) U)) (va_Qi (fun (r : Int32) (u : (Nat) × (Nat → Option Nat) × (va_W) × (List (ClassId × FieldType))) => match u with | (n9, fHs9, L9, K9) => r = hpR n yc x y z ∧ ((r < 0 ∧ n9 = n ∧ fHs9 = fHs ∧ L9 = [] ∧ K9 = []) ∨ (¬ r < 0 ∧ n < 8 ∧ n9 = n + 1 ∧ K9 = [] ∧ ∃ ci qn kk jv jc : Nat, L9 = [(qn, .inr (ci, [.int (nI kk), .int (nI n), .int (nI jv), .int (nI jc)]))] ∧ (hpK ci ∧ hpT ci (nI kk)) ∧ fHs9 = va_up fHs n (some qn) ∧ kk < 7 ∧ jv ≤ 9 ∧ jc < 36 ∧ x = nI kk ∧ y = nI jv ∧ z = nI jc))) (fun (u : (Nat) × (Nat → Option Nat) × (va_W) × (List (ClassId × FieldType))) (t : State) => match u with | (n9, fHs9, L9, K9) => va_P (dC, dI) vwCl ([(zo13rrirrrr h0 sc kp ik bl go ch bo), (zo10ririliiriririr sc aTp (nI ts) aHl (nI nh) ed mi sn aHs (nI n9) aWk (nI wz) aBk (nI bz) aFc), (zaR aHs cHs 8 fHs9)] ++ L9) t.heap ∧ va_K (dC, dI) vwCl ([(cHs, .object "MistHeaps$Heap")] ++ K9) t ∧ va_D (va_A [(zo13rrirrrr h0 sc kp ik bl go ch bo), (zo10ririliiriririr sc aTp (nI ts) aHl (nI nh) ed mi sn aHs (nI n) aWk (nI wz) aBk (nI bz) aFc), (zaR aHs cHs 8 fHs)] sz) ([(zo13rrirrrr h0 sc kp ik bl go ch bo), (zo10ririliiriririr sc aTp (nI ts) aHl (nI nh) ed mi sn aHs (nI n9) aWk (nI wz) aBk (nI bz) aFc), (zaR aHs cHs 8 fHs9)] ++ L9)) (va_A [(zo13rrirrrr h0 sc kp ik bl go ch bo), (zo10ririliiriririr sc aTp (nI ts) aHl (nI nh) ed mi sn aHs (nI n) aWk (nI wz) aBk (nI bz) aFc), (zaR aHs cHs 8 fHs)] sz)) 1 4 (va_A [(zo13rrirrrr h0 sc kp ik bl go ch bo), (zo10ririliiriririr sc aTp (nI ts) aHl (nI nh) ed mi sn aHs (nI n) aWk (nI wz) aBk (nI bz) aFc), (zaR aHs cHs 8 fHs)] sz) := by
  refine met_ofQ (cc := cX11_heap) (maxL := 4) (ret := (some .int)) (by decide) rfl ?_
  intro p e s m args below meth c s₁ Q B hml hv hQ
  obtain ⟨rfl, hsz, hP, hK, hD0, hC, hH_⟩ := hv
  have hx := B.exec
  have hb := B.bytes
  have hr := B.returns
  have hts := atoms_spec (ws := wsX11_heap) B.pre
  have hown : s.vm.findClass RX11 = some m.cls := findClass_of_methodNamed B.named
  have hlocks := B.notSynchronized
  subst hsz
  have hD := hD0.self (sz := s.heap.size)
  generalize hAe : va_A [(zo13rrirrrr h0 sc kp ik bl go ch bo), (zo10ririliiriririr sc aTp (nI ts) aHl (nI nh) ed mi sn aHs (nI n) aWk (nI wz) aBk (nI bz) aFc), (zaR aHs cHs 8 fHs)] s.heap.size = A at hD hQ hC hH_ ⊢
  have hA : ∀ q : Nat, s.heap.size ≤ q → A q := fun q h => by rw [← hAe]; exact Or.inr h
  have hS : va_S A s.heap s.heap [] := va_S.rf
  have hl := lv_entry [.ref h0, .int x, .int y, .int z] (n := 4) (Nat.le_of_ble_eq_true rfl)
  rw [lg_entry_eq]
  generalize (lg_sl [.ref h0, .int x, .int y, .int z] ++ List.replicate (4 - (lg_sl [.ref h0, .int x, .int y, .int z]).length) Slot.unset).toArray = ls at hl ⊢
  generalize hag : ([.ref h0, .int x, .int y, .int z] : List Value).toArray = args at hts hQ ⊢
  have hl : lv_has ls 4 [(0, .ref h0), (1, .int x), (2, .int y), (3, .int z)] := hl
  obtain ⟨H, hH⟩ : ∃ H : Heap, H = s.heap := ⟨_, rfl⟩
  rw [← hH] at hP
  rw [← hH]
  have hS : va_S A s.heap H [] := by rw [hH]; exact hS
  obtain ⟨locs, hlo⟩ : ∃ L : List Loc, L = [] := ⟨_, rfl⟩
  rw [← hlo] at hS
  rw [← hlo]
  clear hH hlo
  refine lv_iload_n hx hb dX11_heap_0 rfl (lv_at hl 1 rfl) ?_
  refine lv_if_lt (tgt := 17) hx hb dX11_heap_1 (by decide) (fun c_1 => ?_) (fun c_1 => ?_)
  · skip
    refine lv_iconst (v := (-1)) hx hb dX11_heap_17 (by decide) ?_
    rw [hQ]
    have hP9 := hP.sub (ws' := [(zo13rrirrrr h0 sc kp ik bl go ch bo), (zo10ririliiriririr sc aTp (nI ts) aHl (nI nh) ed mi sn aHs (nI n) aWk (nI wz) aBk (nI bz) aFc), (zaR aHs cHs 8 fHs)]) [0, 1, 2] rfl
    have hD9 := hD.sub (ws' := [(zo13rrirrrr h0 sc kp ik bl go ch bo), (zo10ririliiriririr sc aTp (nI ts) aHl (nI nh) ed mi sn aHs (nI n) aWk (nI wz) aBk (nI bz) aFc), (zaR aHs cHs 8 fHs)]) [0, 1, 2] (by decide) rfl
    have hK9 := hK.sub (tys' := [(cHs, .object "MistHeaps$Heap")]) [0] rfl
    refine W.widen (k := 1) (n := 4) (by omega) (by omega) ?_
    exact W.iret (v := (-1)) hx hb hr (fun tQ htQ hWQ => ⟨⟨(-1), (n, fHs, [], []), rfl, ⟨hp_none (by first | exact Or.inl (Or.inl (by assumption)) | exact Or.inl (Or.inr (le7_lt6 (by assumption))) | exact Or.inr (hp_cell (by assumption))), Or.inl ⟨by decide, rfl, rfl, rfl, rfl⟩⟩, by rw [htQ]; exact hP9, va_K.moved hWQ.alike hK9, hD9⟩, hS.F htQ⟩) hS.2.2 dX11_heap_18
  · skip
    refine lv_iload_n hx hb dX11_heap_4 rfl (lv_at hl 1 rfl) ?_
    refine lv_bipush (v := 7) hx hb dX11_heap_5 (by decide) ?_
    refine lv_icmp_ge (tgt := 17) hx hb dX11_heap_7 (by decide) (fun c_2 => ?_) (fun c_2 => ?_)
    · skip
      refine lv_iconst (v := (-1)) hx hb dX11_heap_17 (by decide) ?_
      rw [hQ]
      have hP9 := hP.sub (ws' := [(zo13rrirrrr h0 sc kp ik bl go ch bo), (zo10ririliiriririr sc aTp (nI ts) aHl (nI nh) ed mi sn aHs (nI n) aWk (nI wz) aBk (nI bz) aFc), (zaR aHs cHs 8 fHs)]) [0, 1, 2] rfl
      have hD9 := hD.sub (ws' := [(zo13rrirrrr h0 sc kp ik bl go ch bo), (zo10ririliiriririr sc aTp (nI ts) aHl (nI nh) ed mi sn aHs (nI n) aWk (nI wz) aBk (nI bz) aFc), (zaR aHs cHs 8 fHs)]) [0, 1, 2] (by decide) rfl
      have hK9 := hK.sub (tys' := [(cHs, .object "MistHeaps$Heap")]) [0] rfl
      refine W.widen (k := 1) (n := 4) (by omega) (by omega) ?_
      exact W.iret (v := (-1)) hx hb hr (fun tQ htQ hWQ => ⟨⟨(-1), (n, fHs, [], []), rfl, ⟨hp_none (by first | exact Or.inl (Or.inl (by assumption)) | exact Or.inl (Or.inr (le7_lt6 (by assumption))) | exact Or.inr (hp_cell (by assumption))), Or.inl ⟨by decide, rfl, rfl, rfl, rfl⟩⟩, by rw [htQ]; exact hP9, va_K.moved hWQ.alike hK9, hD9⟩, hS.F htQ⟩) hS.2.2 dX11_heap_18
    · skip
      refine lv_iload_n hx hb dX11_heap_10 rfl (lv_at hl 3 rfl) ?_
      refine vp_callSi (va_runS (As := [.int z]) (rest := []) ⟨hx, hb, hml, hown, hts⟩ (c_xCell l dC dI z) (va_cwS 1 hts gX11_heap_X11_isCell rfl rfl rfl hd_yX11_isCell.2 ⟨Nat.le_of_ble_eq_true rfl, Nat.le_of_ble_eq_true rfl⟩) ⟨fun a U g mk q => ⟨q.1, trivial⟩, fun U hU hW => ⟨rfl, trivial⟩⟩ rfl rfl hl.1 rfl (lv_room (Nat.le_of_ble_eq_true rfl)) dX11_heap_11 ⟨Nat.le_of_ble_eq_true rfl, Nat.le_of_ble_eq_true rfl⟩).run (fun r_3 hw_4 => ?_)
      rcases hw_4 with ⟨rfl, j_5, hj_6, rfl⟩ | ⟨rfl, h_7⟩
      · skip
        refine lv_if_ne (tgt := 19) hx hb dX11_heap_14 (by decide) (fun _ => ?_) (fun c_8 => absurd c_8 (by decide))
        refine lv_iload_n hx hb dX11_heap_19 rfl (lv_at hl 2 rfl) ?_
        refine lv_if_lt (tgt := 29) hx hb dX11_heap_20 (by decide) (fun c_9 => ?_) (fun c_9 => ?_)
        · skip
          refine lv_bipush (v := (-2)) hx hb dX11_heap_29 (by decide) ?_
          rw [hQ]
          have hP9 := hP.sub (ws' := [(zo13rrirrrr h0 sc kp ik bl go ch bo), (zo10ririliiriririr sc aTp (nI ts) aHl (nI nh) ed mi sn aHs (nI n) aWk (nI wz) aBk (nI bz) aFc), (zaR aHs cHs 8 fHs)]) [0, 1, 2] rfl
          have hD9 := hD.sub (ws' := [(zo13rrirrrr h0 sc kp ik bl go ch bo), (zo10ririliiriririr sc aTp (nI ts) aHl (nI nh) ed mi sn aHs (nI n) aWk (nI wz) aBk (nI bz) aFc), (zaR aHs cHs 8 fHs)]) [0, 1, 2] (by decide) rfl
          have hK9 := hK.sub (tys' := [(cHs, .object "MistHeaps$Heap")]) [0] rfl
          refine W.widen (k := 1) (n := 4) (by omega) (by omega) ?_
          exact W.iret (v := (-2)) hx hb hr (fun tQ htQ hWQ => ⟨⟨(-2), (n, fHs, [], []), rfl, ⟨hp_bad (by assumption) (fun q => absurd (lt6_le7 q) (by assumption)) (nI_pos (by omega)) (nI_nlt (a := 35) (by omega) (by omega)) (by first | exact Or.inl (by assumption) | exact Or.inr (Int32.not_le.mp (by assumption))), Or.inl ⟨by decide, rfl, rfl, rfl, rfl⟩⟩, by rw [htQ]; exact hP9, va_K.moved hWQ.alike hK9, hD9⟩, hS.F htQ⟩) hS.2.2 dX11_heap_31
        · skip
          refine lv_iload_n hx hb dX11_heap_23 rfl (lv_at hl 2 rfl) ?_
          refine lv_bipush (v := 9) hx hb dX11_heap_24 (by decide) ?_
          refine lv_icmp_le (tgt := 32) hx hb dX11_heap_26 (by decide) (fun c_10 => ?_) (fun c_10 => ?_)
          · skip
            refine lv_aload_n hx hb dX11_heap_32 rfl (lv_at hl 0 rfl) ?_
            refine va_get (D := (dC, dI)) (ci := 13) (v := .ref sc) (C := RX11) (T := TX11) (N := 7) hx hb hts kc_xHeap_0 hown hK hP 0 rfl rfl 0 (by decide) (hts (.fieldLink RX11 14 "MistHeaps" "scene" "LMistHeaps$Scene;") kc_xHeap_1) (fun _ h9 => h9) rfl dX11_heap_33 ?_
            refine lv_iload_n hx hb dX11_heap_36 rfl (lv_at hl 3 rfl) ?_
            have hPc := hP.sub (ws' := [(zo10ririliiriririr sc aTp (nI ts) aHl (nI nh) ed mi sn aHs (nI n) aWk (nI wz) aBk (nI bz) aFc), (zaR aHs cHs 8 fHs)]) [1, 2] rfl
            have hKc := hK.sub (tys' := [(cHs, .object "MistHeaps$Heap")]) [0] rfl
            refine vp_callSi (va_runV (As := [.int (nI j_5)]) (rest := []) ⟨hx, hb, hml, hown, hts⟩ (c_isTaken l dC dI  sc aTp aHl aHs aWk aBk aFc ts nh n wz bz mi sn (nI j_5) ed cHs yk yv yc fHs yi ya (zhs) (hn8)) (cwV 1 hts gX11_heap_X8_isTaken rfl rfl rfl hd_yX8_isTaken ⟨Nat.le_of_ble_eq_true rfl, Nat.le_of_ble_eq_true rfl⟩) ⟨fun a U g mk q => by obtain ⟨q0, qP, qK, qhH_⟩ := q; exact ⟨q0, qP, va_K.moved (u := U) (U := U.calling g mk a) (Vm.Alike.refl U.vm) qK, qhH_.same rfl rfl⟩, va_recv hK hP (ci := 10) (q := (RX8, TX8, 14)) (q0 := 1) rfl rfl, fun U hU hW => ⟨rfl, by rw [hU]; exact hPc, va_K.moved hW.alike hKc, hH_.callF hS hU hW⟩⟩ rfl rfl hl.1 rfl (lv_room (Nat.le_of_ble_eq_true rfl)) dX11_heap_37 ⟨Nat.le_of_ble_eq_true rfl, Nat.le_of_ble_eq_true rfl⟩).run (fun r_11 hw_12 => ?_)
            rcases hw_12 with ⟨rfl, hk9⟩ | ⟨rfl, hk9⟩
            · skip
              refine lv_if_eq (tgt := 46) hx hb dX11_heap_40 (by decide) (fun c_13 => absurd c_13 (by decide)) (fun _ => ?_)
              refine lv_bipush (v := (-3)) hx hb dX11_heap_43 (by decide) ?_
              rw [hQ]
              have hP9 := hP.sub (ws' := [(zo13rrirrrr h0 sc kp ik bl go ch bo), (zo10ririliiriririr sc aTp (nI ts) aHl (nI nh) ed mi sn aHs (nI n) aWk (nI wz) aBk (nI bz) aFc), (zaR aHs cHs 8 fHs)]) [0, 1, 2] rfl
              have hD9 := hD.sub (ws' := [(zo13rrirrrr h0 sc kp ik bl go ch bo), (zo10ririliiriririr sc aTp (nI ts) aHl (nI nh) ed mi sn aHs (nI n) aWk (nI wz) aBk (nI bz) aFc), (zaR aHs cHs 8 fHs)]) [0, 1, 2] (by decide) rfl
              have hK9 := hK.sub (tys' := [(cHs, .object "MistHeaps$Heap")]) [0] rfl
              refine W.widen (k := 1) (n := 4) (by omega) (by omega) ?_
              exact W.iret (v := (-3)) hx hb hr (fun tQ htQ hWQ => ⟨⟨(-3), (n, fHs, [], []), rfl, ⟨hp_state (by assumption) (fun q => absurd (lt6_le7 q) (by assumption)) (nI_pos (by omega)) (nI_nlt (a := 35) (by omega) (by omega)) (by assumption) (Int32.not_lt.mpr (by assumption)) hk9, Or.inl ⟨by decide, rfl, rfl, rfl, rfl⟩⟩, by rw [htQ]; exact hP9, va_K.moved hWQ.alike hK9, hD9⟩, hS.F htQ⟩) hS.2.2 dX11_heap_45
            · skip
              refine lv_if_eq (tgt := 46) hx hb dX11_heap_40 (by decide) (fun _ => ?_) (fun c_14 => absurd c_14 (by decide))
              refine lv_aload_n hx hb dX11_heap_46 rfl (lv_at hl 0 rfl) ?_
              refine va_get (D := (dC, dI)) (ci := 13) (v := .ref sc) (C := RX11) (T := TX11) (N := 7) hx hb hts kc_xHeap_0 hown hK hP 0 rfl rfl 0 (by decide) (hts (.fieldLink RX11 14 "MistHeaps" "scene" "LMistHeaps$Scene;") kc_xHeap_1) (fun _ h9 => h9) rfl dX11_heap_47 ?_
              refine va_get (D := (dC, dI)) (ci := 10) (v := .int (nI n)) (C := RX8) (T := TX8) (N := 14) hx hb hts kc_xHeap_2 hown hK hP 1 rfl rfl 8 (by decide) (hts (.fieldLink RX11 101 "MistHeaps$Scene" "heapCount" "I") kc_xHeap_3) (fun _ h9 => h9) rfl dX11_heap_50 ?_
              refine lv_bipush (v := 8) hx hb dX11_heap_53 (by decide) ?_
              refine lv_icmp_lt (tgt := 61) hx hb dX11_heap_55 (by decide) (fun c_15 => ?_) (fun c_15 => ?_)
              · skip
                have c_15 : n < 8 := (nI_ltI (a := n) (b := 8) (by omega) (by omega)).mp c_15
                obtain ⟨jv, hjv, rfl⟩ := nI_of2 (n := 9) (M := 9) (x := y) rfl (by assumption) (by assumption)
                rcases seven (k := x) (by assumption) (by assumption) with rfl | rfl | rfl | rfl | rfl | rfl | rfl
                · skip
                  refine lv_aload_n hx hb dX11_heap_61 rfl (lv_at hl 0 rfl) ?_
                  refine va_get (D := (dC, dI)) (ci := 13) (v := .ref sc) (C := RX11) (T := TX11) (N := 7) hx hb hts kc_xHeap_0 hown hK hP 0 rfl rfl 0 (by decide) (hts (.fieldLink RX11 14 "MistHeaps" "scene" "LMistHeaps$Scene;") kc_xHeap_1) (fun _ h9 => h9) rfl dX11_heap_62 ?_
                  refine va_get (D := (dC, dI)) (ci := 10) (v := .ref aHs) (C := RX8) (T := TX8) (N := 14) hx hb hts kc_xHeap_2 hown hK hP 1 rfl rfl 7 (by decide) (hts (.fieldLink RX11 104 "MistHeaps$Scene" "heaps" "[LMistHeaps$Heap;") kc_xHeap_4) (fun _ h9 => h9) rfl dX11_heap_65 ?_
                  refine lv_aload_n hx hb dX11_heap_68 rfl (lv_at hl 0 rfl) ?_
                  refine va_get (D := (dC, dI)) (ci := 13) (v := .ref sc) (C := RX11) (T := TX11) (N := 7) hx hb hts kc_xHeap_0 hown hK hP 0 rfl rfl 0 (by decide) (hts (.fieldLink RX11 14 "MistHeaps" "scene" "LMistHeaps$Scene;") kc_xHeap_1) (fun _ h9 => h9) rfl dX11_heap_69 ?_
                  refine va_get (D := (dC, dI)) (ci := 10) (v := .int (nI n)) (C := RX8) (T := TX8) (N := 14) hx hb hts kc_xHeap_2 hown hK hP 1 rfl rfl 8 (by decide) (hts (.fieldLink RX11 101 "MistHeaps$Scene" "heapCount" "I") kc_xHeap_3) (fun _ h9 => h9) rfl dX11_heap_72 ?_
                  refine lv_iload_n hx hb dX11_heap_75 rfl (lv_at hl 1 rfl) ?_
                  refine lv_aload_n hx hb dX11_heap_76 rfl (lv_at hl 0 rfl) ?_
                  refine va_get (D := (dC, dI)) (ci := 13) (v := .ref sc) (C := RX11) (T := TX11) (N := 7) hx hb hts kc_xHeap_0 hown hK hP 0 rfl rfl 0 (by decide) (hts (.fieldLink RX11 14 "MistHeaps" "scene" "LMistHeaps$Scene;") kc_xHeap_1) (fun _ h9 => h9) rfl dX11_heap_77 ?_
                  refine va_get (D := (dC, dI)) (ci := 10) (v := .int (nI n)) (C := RX8) (T := TX8) (N := 14) hx hb hts kc_xHeap_2 hown hK hP 1 rfl rfl 8 (by decide) (hts (.fieldLink RX11 101 "MistHeaps$Scene" "heapCount" "I") kc_xHeap_3) (fun _ h9 => h9) rfl dX11_heap_80 ?_
                  refine lv_iload_n hx hb dX11_heap_83 rfl (lv_at hl 2 rfl) ?_
                  refine lv_iload_n hx hb dX11_heap_84 rfl (lv_at hl 3 rfl) ?_
                  have hPc := hP.sub (ws' := []) [] rfl
                  have hDc := hD.sub (ws' := []) [] (by decide) rfl
                  have hKc := hK.sub (tys' := []) [] rfl
                  have hFc := va_free (wc := []) hD hS hA [] rfl
                  refine va_callq (va_runS (As := [.int 0, .int (nI n), .int (nI jv), .int (nI j_5)]) (rest := [.int (nI n), .ref aHs]) ⟨hx, hb, hml, hown, hts⟩ (c_hok0 l dC dI n (nI jv) (nI j_5) H.size) (va_cwS 4 hts gX11_heap_X11_heapOfKind rfl rfl rfl hd_yX11_heapOfKind.2 ⟨Nat.le_of_ble_eq_true rfl, Nat.le_of_ble_eq_true rfl⟩) ⟨fun a U g mk q => by obtain ⟨q0, q1, qP, qK, qD⟩ := q; exact ⟨q0, q1, qP, va_K.moved (u := U) (U := U.calling g mk a) (Vm.Alike.refl U.vm) qK, qD⟩, fun U hU hW => ⟨rfl, by rw [hU], by rw [hU]; exact hPc, va_K.moved hW.alike hKc, hDc.weaken (fun _ _ _ _ => trivial)⟩⟩ rfl rfl hl.1 rfl (lv_room (Nat.le_of_ble_eq_true rfl)) dX11_heap_85 ⟨Nat.le_of_ble_eq_true rfl, Nat.le_of_ble_eq_true rfl⟩) hS (fun q _ h => hFc q h) hFc (fun r_16 u tC H1 locs htC hvm hw_17 hB hz1 hk1 hS => ?_)
                  obtain ⟨qn_18, rfl⟩ : ∃ z, z = u := ⟨_, rfl⟩
                  try dsimp only at hw_17 hB
                  obtain ⟨hP1, hK1, hD1⟩ := hB
                  rw [htC] at hP1
                  have hK1 := va_K.moved hvm.symm hK1
                  obtain ⟨hP, hD⟩ := va_join (wr := [(zo13rrirrrr h0 sc kp ik bl go ch bo), (zo10ririliiriririr sc aTp (nI ts) aHl (nI nh) ed mi sn aHs (nI n) aWk (nI wz) aBk (nI bz) aFc), (zaR aHs cHs 8 fHs)]) (w1 := [(zo5iiii qn_18 0 (nI n) (nI jv) (nI j_5))]) hP hD [] [0, 1, 2] rfl rfl (by decide) (by decide) hk1 hFc hP1 hD1
                  have hK := (hK.sub (tys' := [(cHs, .object "MistHeaps$Heap")]) [0] rfl).app hK1
                  generalize H1 = H at hP hS ⊢
                  have hP : va_P (dC, dI) vwCl [(zo13rrirrrr h0 sc kp ik bl go ch bo), (zo10ririliiriririr sc aTp (nI ts) aHl (nI nh) ed mi sn aHs (nI n) aWk (nI wz) aBk (nI bz) aFc), (zaR aHs cHs 8 fHs), (zo5iiii qn_18 0 (nI n) (nI jv) (nI j_5))] H := hP
                  have hD : va_D A [(zo13rrirrrr h0 sc kp ik bl go ch bo), (zo10ririliiriririr sc aTp (nI ts) aHl (nI nh) ed mi sn aHs (nI n) aWk (nI wz) aBk (nI bz) aFc), (zaR aHs cHs 8 fHs), (zo5iiii qn_18 0 (nI n) (nI jv) (nI j_5))] := hD
                  have hK : va_K (dC, dI) vwCl [(cHs, .object "MistHeaps$Heap")] s := hK
                  refine W.widen (k := 1) (n := 4) (by omega) (by omega) ?_
                  refine qq_as (v := .ref qn_18) (by rw [hw_17]; rfl) ?_
                  refine va_astq hx hb hK hP hD hS 2 0 3 5 (r := (RX3, TX3, 4)) rfl rfl rfl rfl (vp_in_nI (n := n) (N := 8) (by omega) (by omega)) dX11_heap_88 (fun H locs hP hD hS => ?_)
                  rw [nI_clamp (n := n) (by omega)] at hP hD
                  have hP : va_P (dC, dI) vwCl [(zo13rrirrrr h0 sc kp ik bl go ch bo), (zo10ririliiriririr sc aTp (nI ts) aHl (nI nh) ed mi sn aHs (nI n) aWk (nI wz) aBk (nI bz) aFc), (zaR aHs cHs 8 (va_up fHs n (some qn_18))), (zo5iiii qn_18 0 (nI n) (nI jv) (nI j_5))] H := hP
                  have hD : va_D A [(zo13rrirrrr h0 sc kp ik bl go ch bo), (zo10ririliiriririr sc aTp (nI ts) aHl (nI nh) ed mi sn aHs (nI n) aWk (nI wz) aBk (nI bz) aFc), (zaR aHs cHs 8 (va_up fHs n (some qn_18))), (zo5iiii qn_18 0 (nI n) (nI jv) (nI j_5))] := hD
                  refine lv_aload_n hx hb dX11_heap_89 rfl (lv_at hl 0 rfl) ?_
                  refine va_get (D := (dC, dI)) (ci := 13) (v := .ref sc) (C := RX11) (T := TX11) (N := 7) hx hb hts kc_xHeap_0 hown hK hP 0 rfl rfl 0 (by decide) (hts (.fieldLink RX11 14 "MistHeaps" "scene" "LMistHeaps$Scene;") kc_xHeap_1) (fun _ h9 => h9) rfl dX11_heap_90 ?_
                  refine lv_dup hx hb dX11_heap_93 rfl ?_
                  refine va_get (D := (dC, dI)) (ci := 10) (v := .int (nI n)) (C := RX8) (T := TX8) (N := 14) hx hb hts kc_xHeap_2 hown hK hP 1 rfl rfl 8 (by decide) (hts (.fieldLink RX11 101 "MistHeaps$Scene" "heapCount" "I") kc_xHeap_3) (fun _ h9 => h9) rfl dX11_heap_94 ?_
                  refine lv_iconst (v := 1) hx hb dX11_heap_97 (by decide) ?_
                  refine lv_iadd hx hb dX11_heap_98 ?_
                  refine qi_as (y := nI (n + 1)) (nI_add n 1) ?_
                  refine va_put (D := (dC, dI)) (ci := 10) (v := .int (nI (n + 1))) (ty := .int) (C := RX8) (T := TX8) (N := 14) hx hb hts kc_xHeap_2 tyX8 tyX8_ok nmX8 hown hK hP hD hS 1 rfl rfl 8 (by decide) (hts (.fieldLink RX11 101 "MistHeaps$Scene" "heapCount" "I") kc_xHeap_3) (fun _ h9 => h9) rfl (by decide +kernel) rfl rfl (Nat.le_of_ble_eq_true rfl) dX11_heap_99 (fun H locs hP hD hS => ?_)
                  have hP : va_P (dC, dI) vwCl [(zo13rrirrrr h0 sc kp ik bl go ch bo), (zo10ririliiriririr sc aTp (nI ts) aHl (nI nh) ed mi sn aHs (nI (n + 1)) aWk (nI wz) aBk (nI bz) aFc), (zaR aHs cHs 8 (va_up fHs n (some qn_18))), (zo5iiii qn_18 0 (nI n) (nI jv) (nI j_5))] H := hP
                  have hD : va_D A [(zo13rrirrrr h0 sc kp ik bl go ch bo), (zo10ririliiriririr sc aTp (nI ts) aHl (nI nh) ed mi sn aHs (nI (n + 1)) aWk (nI wz) aBk (nI bz) aFc), (zaR aHs cHs 8 (va_up fHs n (some qn_18))), (zo5iiii qn_18 0 (nI n) (nI jv) (nI j_5))] := hD
                  refine lv_aload_n hx hb dX11_heap_102 rfl (lv_at hl 0 rfl) ?_
                  refine va_get (D := (dC, dI)) (ci := 13) (v := .ref sc) (C := RX11) (T := TX11) (N := 7) hx hb hts kc_xHeap_0 hown hK hP 0 rfl rfl 0 (by decide) (hts (.fieldLink RX11 14 "MistHeaps" "scene" "LMistHeaps$Scene;") kc_xHeap_1) (fun _ h9 => h9) rfl dX11_heap_103 ?_
                  refine va_get (D := (dC, dI)) (ci := 10) (v := .int (nI (n + 1))) (C := RX8) (T := TX8) (N := 14) hx hb hts kc_xHeap_2 hown hK hP 1 rfl rfl 8 (by decide) (hts (.fieldLink RX11 101 "MistHeaps$Scene" "heapCount" "I") kc_xHeap_3) (fun _ h9 => h9) rfl dX11_heap_106 ?_
                  refine lv_iconst (v := 1) hx hb dX11_heap_109 (by decide) ?_
                  refine lv_isub hx hb dX11_heap_110 ?_
                  refine qi_as (y := nI ((n + 1) - 1)) (pk_sub (a := n + 1) (b := 1) (by omega)) ?_
                  rw [hQ]
                  have hP9 := hP.sub (ws' := [(zo13rrirrrr h0 sc kp ik bl go ch bo), (zo10ririliiriririr sc aTp (nI ts) aHl (nI nh) ed mi sn aHs (nI (n + 1)) aWk (nI wz) aBk (nI bz) aFc), (zaR aHs cHs 8 (va_up fHs n (some qn_18))), (zo5iiii qn_18 0 (nI n) (nI jv) (nI j_5))]) [0, 1, 2, 3] rfl
                  have hD9 := hD.sub (ws' := [(zo13rrirrrr h0 sc kp ik bl go ch bo), (zo10ririliiriririr sc aTp (nI ts) aHl (nI nh) ed mi sn aHs (nI (n + 1)) aWk (nI wz) aBk (nI bz) aFc), (zaR aHs cHs 8 (va_up fHs n (some qn_18))), (zo5iiii qn_18 0 (nI n) (nI jv) (nI j_5))]) [0, 1, 2, 3] (by decide) rfl
                  have hK9 := hK.sub (tys' := [(cHs, .object "MistHeaps$Heap")]) [0] rfl
                  refine W.widen (k := 1) (n := 4) (by omega) (by omega) ?_
                  exact W.iret (v := nI ((n + 1) - 1)) hx hb hr (fun tQ htQ hWQ => ⟨⟨(nI ((n + 1) - 1)), ((n + 1), (va_up fHs n (some qn_18)), [(zo5iiii qn_18 0 (nI n) (nI jv) (nI j_5))], []), rfl, ⟨hp_ok (by decide) (by decide) (nI_pos (by omega)) (nI_nlt (a := 35) (by omega) (by omega)) (nI_pos (by omega)) (nI_nlt (a := 9) (by omega) (by omega)) hk9 (by omega), Or.inr ⟨nI_pos (by omega), by omega, rfl, rfl, 5, qn_18, 0, jv, j_5, rfl, ⟨by unfold hpK; omega, hpT_0⟩, rfl, by omega, by omega, by omega, rfl, rfl, rfl⟩⟩, by rw [htQ]; exact hP9, va_K.moved hWQ.alike hK9, hD9⟩, hS.F htQ⟩) hS.2.2 dX11_heap_111
                · skip
                  refine lv_aload_n hx hb dX11_heap_61 rfl (lv_at hl 0 rfl) ?_
                  refine va_get (D := (dC, dI)) (ci := 13) (v := .ref sc) (C := RX11) (T := TX11) (N := 7) hx hb hts kc_xHeap_0 hown hK hP 0 rfl rfl 0 (by decide) (hts (.fieldLink RX11 14 "MistHeaps" "scene" "LMistHeaps$Scene;") kc_xHeap_1) (fun _ h9 => h9) rfl dX11_heap_62 ?_
                  refine va_get (D := (dC, dI)) (ci := 10) (v := .ref aHs) (C := RX8) (T := TX8) (N := 14) hx hb hts kc_xHeap_2 hown hK hP 1 rfl rfl 7 (by decide) (hts (.fieldLink RX11 104 "MistHeaps$Scene" "heaps" "[LMistHeaps$Heap;") kc_xHeap_4) (fun _ h9 => h9) rfl dX11_heap_65 ?_
                  refine lv_aload_n hx hb dX11_heap_68 rfl (lv_at hl 0 rfl) ?_
                  refine va_get (D := (dC, dI)) (ci := 13) (v := .ref sc) (C := RX11) (T := TX11) (N := 7) hx hb hts kc_xHeap_0 hown hK hP 0 rfl rfl 0 (by decide) (hts (.fieldLink RX11 14 "MistHeaps" "scene" "LMistHeaps$Scene;") kc_xHeap_1) (fun _ h9 => h9) rfl dX11_heap_69 ?_
                  refine va_get (D := (dC, dI)) (ci := 10) (v := .int (nI n)) (C := RX8) (T := TX8) (N := 14) hx hb hts kc_xHeap_2 hown hK hP 1 rfl rfl 8 (by decide) (hts (.fieldLink RX11 101 "MistHeaps$Scene" "heapCount" "I") kc_xHeap_3) (fun _ h9 => h9) rfl dX11_heap_72 ?_
                  refine lv_iload_n hx hb dX11_heap_75 rfl (lv_at hl 1 rfl) ?_
                  refine lv_aload_n hx hb dX11_heap_76 rfl (lv_at hl 0 rfl) ?_
                  refine va_get (D := (dC, dI)) (ci := 13) (v := .ref sc) (C := RX11) (T := TX11) (N := 7) hx hb hts kc_xHeap_0 hown hK hP 0 rfl rfl 0 (by decide) (hts (.fieldLink RX11 14 "MistHeaps" "scene" "LMistHeaps$Scene;") kc_xHeap_1) (fun _ h9 => h9) rfl dX11_heap_77 ?_
                  refine va_get (D := (dC, dI)) (ci := 10) (v := .int (nI n)) (C := RX8) (T := TX8) (N := 14) hx hb hts kc_xHeap_2 hown hK hP 1 rfl rfl 8 (by decide) (hts (.fieldLink RX11 101 "MistHeaps$Scene" "heapCount" "I") kc_xHeap_3) (fun _ h9 => h9) rfl dX11_heap_80 ?_
                  refine lv_iload_n hx hb dX11_heap_83 rfl (lv_at hl 2 rfl) ?_
                  refine lv_iload_n hx hb dX11_heap_84 rfl (lv_at hl 3 rfl) ?_
                  have hPc := hP.sub (ws' := []) [] rfl
                  have hDc := hD.sub (ws' := []) [] (by decide) rfl
                  have hKc := hK.sub (tys' := []) [] rfl
                  have hFc := va_free (wc := []) hD hS hA [] rfl
                  refine va_callq (va_runS (As := [.int 1, .int (nI n), .int (nI jv), .int (nI j_5)]) (rest := [.int (nI n), .ref aHs]) ⟨hx, hb, hml, hown, hts⟩ (c_hok1 l dC dI n (nI jv) (nI j_5) H.size) (va_cwS 4 hts gX11_heap_X11_heapOfKind rfl rfl rfl hd_yX11_heapOfKind.2 ⟨Nat.le_of_ble_eq_true rfl, Nat.le_of_ble_eq_true rfl⟩) ⟨fun a U g mk q => by obtain ⟨q0, q1, qP, qK, qD⟩ := q; exact ⟨q0, q1, qP, va_K.moved (u := U) (U := U.calling g mk a) (Vm.Alike.refl U.vm) qK, qD⟩, fun U hU hW => ⟨rfl, by rw [hU], by rw [hU]; exact hPc, va_K.moved hW.alike hKc, hDc.weaken (fun _ _ _ _ => trivial)⟩⟩ rfl rfl hl.1 rfl (lv_room (Nat.le_of_ble_eq_true rfl)) dX11_heap_85 ⟨Nat.le_of_ble_eq_true rfl, Nat.le_of_ble_eq_true rfl⟩) hS (fun q _ h => hFc q h) hFc (fun r_19 u tC H1 locs htC hvm hw_20 hB hz1 hk1 hS => ?_)
                  obtain ⟨qn_21, rfl⟩ : ∃ z, z = u := ⟨_, rfl⟩
                  try dsimp only at hw_20 hB
                  obtain ⟨hP1, hK1, hD1⟩ := hB
                  rw [htC] at hP1
                  have hK1 := va_K.moved hvm.symm hK1
                  obtain ⟨hP, hD⟩ := va_join (wr := [(zo13rrirrrr h0 sc kp ik bl go ch bo), (zo10ririliiriririr sc aTp (nI ts) aHl (nI nh) ed mi sn aHs (nI n) aWk (nI wz) aBk (nI bz) aFc), (zaR aHs cHs 8 fHs)]) (w1 := [(zo6iiii qn_21 1 (nI n) (nI jv) (nI j_5))]) hP hD [] [0, 1, 2] rfl rfl (by decide) (by decide) hk1 hFc hP1 hD1
                  have hK := (hK.sub (tys' := [(cHs, .object "MistHeaps$Heap")]) [0] rfl).app hK1
                  generalize H1 = H at hP hS ⊢
                  have hP : va_P (dC, dI) vwCl [(zo13rrirrrr h0 sc kp ik bl go ch bo), (zo10ririliiriririr sc aTp (nI ts) aHl (nI nh) ed mi sn aHs (nI n) aWk (nI wz) aBk (nI bz) aFc), (zaR aHs cHs 8 fHs), (zo6iiii qn_21 1 (nI n) (nI jv) (nI j_5))] H := hP
                  have hD : va_D A [(zo13rrirrrr h0 sc kp ik bl go ch bo), (zo10ririliiriririr sc aTp (nI ts) aHl (nI nh) ed mi sn aHs (nI n) aWk (nI wz) aBk (nI bz) aFc), (zaR aHs cHs 8 fHs), (zo6iiii qn_21 1 (nI n) (nI jv) (nI j_5))] := hD
                  have hK : va_K (dC, dI) vwCl [(cHs, .object "MistHeaps$Heap")] s := hK
                  refine W.widen (k := 1) (n := 4) (by omega) (by omega) ?_
                  refine qq_as (v := .ref qn_21) (by rw [hw_20]; rfl) ?_
                  refine va_astqO hx hb hK hP hD hS 2 0 3 6 (r := (RX4, TX4, 4)) rfl rfl (hC.castable (.castable RX4 "MistHeaps$Heap") (by decide +kernel)) rfl rfl (vp_in_nI (n := n) (N := 8) (by omega) (by omega)) dX11_heap_88 (fun H locs hP hD hS => ?_)
                  rw [nI_clamp (n := n) (by omega)] at hP hD
                  have hP : va_P (dC, dI) vwCl [(zo13rrirrrr h0 sc kp ik bl go ch bo), (zo10ririliiriririr sc aTp (nI ts) aHl (nI nh) ed mi sn aHs (nI n) aWk (nI wz) aBk (nI bz) aFc), (zaR aHs cHs 8 (va_up fHs n (some qn_21))), (zo6iiii qn_21 1 (nI n) (nI jv) (nI j_5))] H := hP
                  have hD : va_D A [(zo13rrirrrr h0 sc kp ik bl go ch bo), (zo10ririliiriririr sc aTp (nI ts) aHl (nI nh) ed mi sn aHs (nI n) aWk (nI wz) aBk (nI bz) aFc), (zaR aHs cHs 8 (va_up fHs n (some qn_21))), (zo6iiii qn_21 1 (nI n) (nI jv) (nI j_5))] := hD
                  refine lv_aload_n hx hb dX11_heap_89 rfl (lv_at hl 0 rfl) ?_
                  refine va_get (D := (dC, dI)) (ci := 13) (v := .ref sc) (C := RX11) (T := TX11) (N := 7) hx hb hts kc_xHeap_0 hown hK hP 0 rfl rfl 0 (by decide) (hts (.fieldLink RX11 14 "MistHeaps" "scene" "LMistHeaps$Scene;") kc_xHeap_1) (fun _ h9 => h9) rfl dX11_heap_90 ?_
                  refine lv_dup hx hb dX11_heap_93 rfl ?_
                  refine va_get (D := (dC, dI)) (ci := 10) (v := .int (nI n)) (C := RX8) (T := TX8) (N := 14) hx hb hts kc_xHeap_2 hown hK hP 1 rfl rfl 8 (by decide) (hts (.fieldLink RX11 101 "MistHeaps$Scene" "heapCount" "I") kc_xHeap_3) (fun _ h9 => h9) rfl dX11_heap_94 ?_
                  refine lv_iconst (v := 1) hx hb dX11_heap_97 (by decide) ?_
                  refine lv_iadd hx hb dX11_heap_98 ?_
                  refine qi_as (y := nI (n + 1)) (nI_add n 1) ?_
                  refine va_put (D := (dC, dI)) (ci := 10) (v := .int (nI (n + 1))) (ty := .int) (C := RX8) (T := TX8) (N := 14) hx hb hts kc_xHeap_2 tyX8 tyX8_ok nmX8 hown hK hP hD hS 1 rfl rfl 8 (by decide) (hts (.fieldLink RX11 101 "MistHeaps$Scene" "heapCount" "I") kc_xHeap_3) (fun _ h9 => h9) rfl (by decide +kernel) rfl rfl (Nat.le_of_ble_eq_true rfl) dX11_heap_99 (fun H locs hP hD hS => ?_)
                  have hP : va_P (dC, dI) vwCl [(zo13rrirrrr h0 sc kp ik bl go ch bo), (zo10ririliiriririr sc aTp (nI ts) aHl (nI nh) ed mi sn aHs (nI (n + 1)) aWk (nI wz) aBk (nI bz) aFc), (zaR aHs cHs 8 (va_up fHs n (some qn_21))), (zo6iiii qn_21 1 (nI n) (nI jv) (nI j_5))] H := hP
                  have hD : va_D A [(zo13rrirrrr h0 sc kp ik bl go ch bo), (zo10ririliiriririr sc aTp (nI ts) aHl (nI nh) ed mi sn aHs (nI (n + 1)) aWk (nI wz) aBk (nI bz) aFc), (zaR aHs cHs 8 (va_up fHs n (some qn_21))), (zo6iiii qn_21 1 (nI n) (nI jv) (nI j_5))] := hD
                  refine lv_aload_n hx hb dX11_heap_102 rfl (lv_at hl 0 rfl) ?_
                  refine va_get (D := (dC, dI)) (ci := 13) (v := .ref sc) (C := RX11) (T := TX11) (N := 7) hx hb hts kc_xHeap_0 hown hK hP 0 rfl rfl 0 (by decide) (hts (.fieldLink RX11 14 "MistHeaps" "scene" "LMistHeaps$Scene;") kc_xHeap_1) (fun _ h9 => h9) rfl dX11_heap_103 ?_
                  refine va_get (D := (dC, dI)) (ci := 10) (v := .int (nI (n + 1))) (C := RX8) (T := TX8) (N := 14) hx hb hts kc_xHeap_2 hown hK hP 1 rfl rfl 8 (by decide) (hts (.fieldLink RX11 101 "MistHeaps$Scene" "heapCount" "I") kc_xHeap_3) (fun _ h9 => h9) rfl dX11_heap_106 ?_
                  refine lv_iconst (v := 1) hx hb dX11_heap_109 (by decide) ?_
                  refine lv_isub hx hb dX11_heap_110 ?_
                  refine qi_as (y := nI ((n + 1) - 1)) (pk_sub (a := n + 1) (b := 1) (by omega)) ?_
                  rw [hQ]
                  have hP9 := hP.sub (ws' := [(zo13rrirrrr h0 sc kp ik bl go ch bo), (zo10ririliiriririr sc aTp (nI ts) aHl (nI nh) ed mi sn aHs (nI (n + 1)) aWk (nI wz) aBk (nI bz) aFc), (zaR aHs cHs 8 (va_up fHs n (some qn_21))), (zo6iiii qn_21 1 (nI n) (nI jv) (nI j_5))]) [0, 1, 2, 3] rfl
                  have hD9 := hD.sub (ws' := [(zo13rrirrrr h0 sc kp ik bl go ch bo), (zo10ririliiriririr sc aTp (nI ts) aHl (nI nh) ed mi sn aHs (nI (n + 1)) aWk (nI wz) aBk (nI bz) aFc), (zaR aHs cHs 8 (va_up fHs n (some qn_21))), (zo6iiii qn_21 1 (nI n) (nI jv) (nI j_5))]) [0, 1, 2, 3] (by decide) rfl
                  have hK9 := hK.sub (tys' := [(cHs, .object "MistHeaps$Heap")]) [0] rfl
                  refine W.widen (k := 1) (n := 4) (by omega) (by omega) ?_
                  exact W.iret (v := nI ((n + 1) - 1)) hx hb hr (fun tQ htQ hWQ => ⟨⟨(nI ((n + 1) - 1)), ((n + 1), (va_up fHs n (some qn_21)), [(zo6iiii qn_21 1 (nI n) (nI jv) (nI j_5))], []), rfl, ⟨hp_ok (by decide) (by decide) (nI_pos (by omega)) (nI_nlt (a := 35) (by omega) (by omega)) (nI_pos (by omega)) (nI_nlt (a := 9) (by omega) (by omega)) hk9 (by omega), Or.inr ⟨nI_pos (by omega), by omega, rfl, rfl, 6, qn_21, 1, jv, j_5, rfl, ⟨by unfold hpK; omega, hpT_1⟩, rfl, by omega, by omega, by omega, rfl, rfl, rfl⟩⟩, by rw [htQ]; exact hP9, va_K.moved hWQ.alike hK9, hD9⟩, hS.F htQ⟩) hS.2.2 dX11_heap_111
                · skip
                  refine lv_aload_n hx hb dX11_heap_61 rfl (lv_at hl 0 rfl) ?_
                  refine va_get (D := (dC, dI)) (ci := 13) (v := .ref sc) (C := RX11) (T := TX11) (N := 7) hx hb hts kc_xHeap_0 hown hK hP 0 rfl rfl 0 (by decide) (hts (.fieldLink RX11 14 "MistHeaps" "scene" "LMistHeaps$Scene;") kc_xHeap_1) (fun _ h9 => h9) rfl dX11_heap_62 ?_
                  refine va_get (D := (dC, dI)) (ci := 10) (v := .ref aHs) (C := RX8) (T := TX8) (N := 14) hx hb hts kc_xHeap_2 hown hK hP 1 rfl rfl 7 (by decide) (hts (.fieldLink RX11 104 "MistHeaps$Scene" "heaps" "[LMistHeaps$Heap;") kc_xHeap_4) (fun _ h9 => h9) rfl dX11_heap_65 ?_
                  refine lv_aload_n hx hb dX11_heap_68 rfl (lv_at hl 0 rfl) ?_
                  refine va_get (D := (dC, dI)) (ci := 13) (v := .ref sc) (C := RX11) (T := TX11) (N := 7) hx hb hts kc_xHeap_0 hown hK hP 0 rfl rfl 0 (by decide) (hts (.fieldLink RX11 14 "MistHeaps" "scene" "LMistHeaps$Scene;") kc_xHeap_1) (fun _ h9 => h9) rfl dX11_heap_69 ?_
                  refine va_get (D := (dC, dI)) (ci := 10) (v := .int (nI n)) (C := RX8) (T := TX8) (N := 14) hx hb hts kc_xHeap_2 hown hK hP 1 rfl rfl 8 (by decide) (hts (.fieldLink RX11 101 "MistHeaps$Scene" "heapCount" "I") kc_xHeap_3) (fun _ h9 => h9) rfl dX11_heap_72 ?_
                  refine lv_iload_n hx hb dX11_heap_75 rfl (lv_at hl 1 rfl) ?_
                  refine lv_aload_n hx hb dX11_heap_76 rfl (lv_at hl 0 rfl) ?_
                  refine va_get (D := (dC, dI)) (ci := 13) (v := .ref sc) (C := RX11) (T := TX11) (N := 7) hx hb hts kc_xHeap_0 hown hK hP 0 rfl rfl 0 (by decide) (hts (.fieldLink RX11 14 "MistHeaps" "scene" "LMistHeaps$Scene;") kc_xHeap_1) (fun _ h9 => h9) rfl dX11_heap_77 ?_
                  refine va_get (D := (dC, dI)) (ci := 10) (v := .int (nI n)) (C := RX8) (T := TX8) (N := 14) hx hb hts kc_xHeap_2 hown hK hP 1 rfl rfl 8 (by decide) (hts (.fieldLink RX11 101 "MistHeaps$Scene" "heapCount" "I") kc_xHeap_3) (fun _ h9 => h9) rfl dX11_heap_80 ?_
                  refine lv_iload_n hx hb dX11_heap_83 rfl (lv_at hl 2 rfl) ?_
                  refine lv_iload_n hx hb dX11_heap_84 rfl (lv_at hl 3 rfl) ?_
                  have hPc := hP.sub (ws' := []) [] rfl
                  have hDc := hD.sub (ws' := []) [] (by decide) rfl
                  have hKc := hK.sub (tys' := []) [] rfl
                  have hFc := va_free (wc := []) hD hS hA [] rfl
                  refine va_callq (va_runS (As := [.int 2, .int (nI n), .int (nI jv), .int (nI j_5)]) (rest := [.int (nI n), .ref aHs]) ⟨hx, hb, hml, hown, hts⟩ (c_hok2 l dC dI n (nI jv) (nI j_5) H.size) (va_cwS 4 hts gX11_heap_X11_heapOfKind rfl rfl rfl hd_yX11_heapOfKind.2 ⟨Nat.le_of_ble_eq_true rfl, Nat.le_of_ble_eq_true rfl⟩) ⟨fun a U g mk q => by obtain ⟨q0, q1, qP, qK, qD⟩ := q; exact ⟨q0, q1, qP, va_K.moved (u := U) (U := U.calling g mk a) (Vm.Alike.refl U.vm) qK, qD⟩, fun U hU hW => ⟨rfl, by rw [hU], by rw [hU]; exact hPc, va_K.moved hW.alike hKc, hDc.weaken (fun _ _ _ _ => trivial)⟩⟩ rfl rfl hl.1 rfl (lv_room (Nat.le_of_ble_eq_true rfl)) dX11_heap_85 ⟨Nat.le_of_ble_eq_true rfl, Nat.le_of_ble_eq_true rfl⟩) hS (fun q _ h => hFc q h) hFc (fun r_22 u tC H1 locs htC hvm hw_23 hB hz1 hk1 hS => ?_)
                  obtain ⟨qn_24, rfl⟩ : ∃ z, z = u := ⟨_, rfl⟩
                  try dsimp only at hw_23 hB
                  obtain ⟨hP1, hK1, hD1⟩ := hB
                  rw [htC] at hP1
                  have hK1 := va_K.moved hvm.symm hK1
                  obtain ⟨hP, hD⟩ := va_join (wr := [(zo13rrirrrr h0 sc kp ik bl go ch bo), (zo10ririliiriririr sc aTp (nI ts) aHl (nI nh) ed mi sn aHs (nI n) aWk (nI wz) aBk (nI bz) aFc), (zaR aHs cHs 8 fHs)]) (w1 := [(zo8iiii qn_24 2 (nI n) (nI jv) (nI j_5))]) hP hD [] [0, 1, 2] rfl rfl (by decide) (by decide) hk1 hFc hP1 hD1
                  have hK := (hK.sub (tys' := [(cHs, .object "MistHeaps$Heap")]) [0] rfl).app hK1
                  generalize H1 = H at hP hS ⊢
                  have hP : va_P (dC, dI) vwCl [(zo13rrirrrr h0 sc kp ik bl go ch bo), (zo10ririliiriririr sc aTp (nI ts) aHl (nI nh) ed mi sn aHs (nI n) aWk (nI wz) aBk (nI bz) aFc), (zaR aHs cHs 8 fHs), (zo8iiii qn_24 2 (nI n) (nI jv) (nI j_5))] H := hP
                  have hD : va_D A [(zo13rrirrrr h0 sc kp ik bl go ch bo), (zo10ririliiriririr sc aTp (nI ts) aHl (nI nh) ed mi sn aHs (nI n) aWk (nI wz) aBk (nI bz) aFc), (zaR aHs cHs 8 fHs), (zo8iiii qn_24 2 (nI n) (nI jv) (nI j_5))] := hD
                  have hK : va_K (dC, dI) vwCl [(cHs, .object "MistHeaps$Heap")] s := hK
                  refine W.widen (k := 1) (n := 4) (by omega) (by omega) ?_
                  refine qq_as (v := .ref qn_24) (by rw [hw_23]; rfl) ?_
                  refine va_astqO hx hb hK hP hD hS 2 0 3 8 (r := (RX6, TX6, 4)) rfl rfl (hC.castable (.castable RX6 "MistHeaps$Heap") (by decide +kernel)) rfl rfl (vp_in_nI (n := n) (N := 8) (by omega) (by omega)) dX11_heap_88 (fun H locs hP hD hS => ?_)
                  rw [nI_clamp (n := n) (by omega)] at hP hD
                  have hP : va_P (dC, dI) vwCl [(zo13rrirrrr h0 sc kp ik bl go ch bo), (zo10ririliiriririr sc aTp (nI ts) aHl (nI nh) ed mi sn aHs (nI n) aWk (nI wz) aBk (nI bz) aFc), (zaR aHs cHs 8 (va_up fHs n (some qn_24))), (zo8iiii qn_24 2 (nI n) (nI jv) (nI j_5))] H := hP
                  have hD : va_D A [(zo13rrirrrr h0 sc kp ik bl go ch bo), (zo10ririliiriririr sc aTp (nI ts) aHl (nI nh) ed mi sn aHs (nI n) aWk (nI wz) aBk (nI bz) aFc), (zaR aHs cHs 8 (va_up fHs n (some qn_24))), (zo8iiii qn_24 2 (nI n) (nI jv) (nI j_5))] := hD
                  refine lv_aload_n hx hb dX11_heap_89 rfl (lv_at hl 0 rfl) ?_
                  refine va_get (D := (dC, dI)) (ci := 13) (v := .ref sc) (C := RX11) (T := TX11) (N := 7) hx hb hts kc_xHeap_0 hown hK hP 0 rfl rfl 0 (by decide) (hts (.fieldLink RX11 14 "MistHeaps" "scene" "LMistHeaps$Scene;") kc_xHeap_1) (fun _ h9 => h9) rfl dX11_heap_90 ?_
                  refine lv_dup hx hb dX11_heap_93 rfl ?_
                  refine va_get (D := (dC, dI)) (ci := 10) (v := .int (nI n)) (C := RX8) (T := TX8) (N := 14) hx hb hts kc_xHeap_2 hown hK hP 1 rfl rfl 8 (by decide) (hts (.fieldLink RX11 101 "MistHeaps$Scene" "heapCount" "I") kc_xHeap_3) (fun _ h9 => h9) rfl dX11_heap_94 ?_
                  refine lv_iconst (v := 1) hx hb dX11_heap_97 (by decide) ?_
                  refine lv_iadd hx hb dX11_heap_98 ?_
                  refine qi_as (y := nI (n + 1)) (nI_add n 1) ?_
                  refine va_put (D := (dC, dI)) (ci := 10) (v := .int (nI (n + 1))) (ty := .int) (C := RX8) (T := TX8) (N := 14) hx hb hts kc_xHeap_2 tyX8 tyX8_ok nmX8 hown hK hP hD hS 1 rfl rfl 8 (by decide) (hts (.fieldLink RX11 101 "MistHeaps$Scene" "heapCount" "I") kc_xHeap_3) (fun _ h9 => h9) rfl (by decide +kernel) rfl rfl (Nat.le_of_ble_eq_true rfl) dX11_heap_99 (fun H locs hP hD hS => ?_)
                  have hP : va_P (dC, dI) vwCl [(zo13rrirrrr h0 sc kp ik bl go ch bo), (zo10ririliiriririr sc aTp (nI ts) aHl (nI nh) ed mi sn aHs (nI (n + 1)) aWk (nI wz) aBk (nI bz) aFc), (zaR aHs cHs 8 (va_up fHs n (some qn_24))), (zo8iiii qn_24 2 (nI n) (nI jv) (nI j_5))] H := hP
                  have hD : va_D A [(zo13rrirrrr h0 sc kp ik bl go ch bo), (zo10ririliiriririr sc aTp (nI ts) aHl (nI nh) ed mi sn aHs (nI (n + 1)) aWk (nI wz) aBk (nI bz) aFc), (zaR aHs cHs 8 (va_up fHs n (some qn_24))), (zo8iiii qn_24 2 (nI n) (nI jv) (nI j_5))] := hD
                  refine lv_aload_n hx hb dX11_heap_102 rfl (lv_at hl 0 rfl) ?_
                  refine va_get (D := (dC, dI)) (ci := 13) (v := .ref sc) (C := RX11) (T := TX11) (N := 7) hx hb hts kc_xHeap_0 hown hK hP 0 rfl rfl 0 (by decide) (hts (.fieldLink RX11 14 "MistHeaps" "scene" "LMistHeaps$Scene;") kc_xHeap_1) (fun _ h9 => h9) rfl dX11_heap_103 ?_
                  refine va_get (D := (dC, dI)) (ci := 10) (v := .int (nI (n + 1))) (C := RX8) (T := TX8) (N := 14) hx hb hts kc_xHeap_2 hown hK hP 1 rfl rfl 8 (by decide) (hts (.fieldLink RX11 101 "MistHeaps$Scene" "heapCount" "I") kc_xHeap_3) (fun _ h9 => h9) rfl dX11_heap_106 ?_
                  refine lv_iconst (v := 1) hx hb dX11_heap_109 (by decide) ?_
                  refine lv_isub hx hb dX11_heap_110 ?_
                  refine qi_as (y := nI ((n + 1) - 1)) (pk_sub (a := n + 1) (b := 1) (by omega)) ?_
                  rw [hQ]
                  have hP9 := hP.sub (ws' := [(zo13rrirrrr h0 sc kp ik bl go ch bo), (zo10ririliiriririr sc aTp (nI ts) aHl (nI nh) ed mi sn aHs (nI (n + 1)) aWk (nI wz) aBk (nI bz) aFc), (zaR aHs cHs 8 (va_up fHs n (some qn_24))), (zo8iiii qn_24 2 (nI n) (nI jv) (nI j_5))]) [0, 1, 2, 3] rfl
                  have hD9 := hD.sub (ws' := [(zo13rrirrrr h0 sc kp ik bl go ch bo), (zo10ririliiriririr sc aTp (nI ts) aHl (nI nh) ed mi sn aHs (nI (n + 1)) aWk (nI wz) aBk (nI bz) aFc), (zaR aHs cHs 8 (va_up fHs n (some qn_24))), (zo8iiii qn_24 2 (nI n) (nI jv) (nI j_5))]) [0, 1, 2, 3] (by decide) rfl
                  have hK9 := hK.sub (tys' := [(cHs, .object "MistHeaps$Heap")]) [0] rfl
                  refine W.widen (k := 1) (n := 4) (by omega) (by omega) ?_
                  exact W.iret (v := nI ((n + 1) - 1)) hx hb hr (fun tQ htQ hWQ => ⟨⟨(nI ((n + 1) - 1)), ((n + 1), (va_up fHs n (some qn_24)), [(zo8iiii qn_24 2 (nI n) (nI jv) (nI j_5))], []), rfl, ⟨hp_ok (by decide) (by decide) (nI_pos (by omega)) (nI_nlt (a := 35) (by omega) (by omega)) (nI_pos (by omega)) (nI_nlt (a := 9) (by omega) (by omega)) hk9 (by omega), Or.inr ⟨nI_pos (by omega), by omega, rfl, rfl, 8, qn_24, 2, jv, j_5, rfl, ⟨by unfold hpK; omega, hpT_2⟩, rfl, by omega, by omega, by omega, rfl, rfl, rfl⟩⟩, by rw [htQ]; exact hP9, va_K.moved hWQ.alike hK9, hD9⟩, hS.F htQ⟩) hS.2.2 dX11_heap_111
                · skip
                  refine lv_aload_n hx hb dX11_heap_61 rfl (lv_at hl 0 rfl) ?_
                  refine va_get (D := (dC, dI)) (ci := 13) (v := .ref sc) (C := RX11) (T := TX11) (N := 7) hx hb hts kc_xHeap_0 hown hK hP 0 rfl rfl 0 (by decide) (hts (.fieldLink RX11 14 "MistHeaps" "scene" "LMistHeaps$Scene;") kc_xHeap_1) (fun _ h9 => h9) rfl dX11_heap_62 ?_
                  refine va_get (D := (dC, dI)) (ci := 10) (v := .ref aHs) (C := RX8) (T := TX8) (N := 14) hx hb hts kc_xHeap_2 hown hK hP 1 rfl rfl 7 (by decide) (hts (.fieldLink RX11 104 "MistHeaps$Scene" "heaps" "[LMistHeaps$Heap;") kc_xHeap_4) (fun _ h9 => h9) rfl dX11_heap_65 ?_
                  refine lv_aload_n hx hb dX11_heap_68 rfl (lv_at hl 0 rfl) ?_
                  refine va_get (D := (dC, dI)) (ci := 13) (v := .ref sc) (C := RX11) (T := TX11) (N := 7) hx hb hts kc_xHeap_0 hown hK hP 0 rfl rfl 0 (by decide) (hts (.fieldLink RX11 14 "MistHeaps" "scene" "LMistHeaps$Scene;") kc_xHeap_1) (fun _ h9 => h9) rfl dX11_heap_69 ?_
                  refine va_get (D := (dC, dI)) (ci := 10) (v := .int (nI n)) (C := RX8) (T := TX8) (N := 14) hx hb hts kc_xHeap_2 hown hK hP 1 rfl rfl 8 (by decide) (hts (.fieldLink RX11 101 "MistHeaps$Scene" "heapCount" "I") kc_xHeap_3) (fun _ h9 => h9) rfl dX11_heap_72 ?_
                  refine lv_iload_n hx hb dX11_heap_75 rfl (lv_at hl 1 rfl) ?_
                  refine lv_aload_n hx hb dX11_heap_76 rfl (lv_at hl 0 rfl) ?_
                  refine va_get (D := (dC, dI)) (ci := 13) (v := .ref sc) (C := RX11) (T := TX11) (N := 7) hx hb hts kc_xHeap_0 hown hK hP 0 rfl rfl 0 (by decide) (hts (.fieldLink RX11 14 "MistHeaps" "scene" "LMistHeaps$Scene;") kc_xHeap_1) (fun _ h9 => h9) rfl dX11_heap_77 ?_
                  refine va_get (D := (dC, dI)) (ci := 10) (v := .int (nI n)) (C := RX8) (T := TX8) (N := 14) hx hb hts kc_xHeap_2 hown hK hP 1 rfl rfl 8 (by decide) (hts (.fieldLink RX11 101 "MistHeaps$Scene" "heapCount" "I") kc_xHeap_3) (fun _ h9 => h9) rfl dX11_heap_80 ?_
                  refine lv_iload_n hx hb dX11_heap_83 rfl (lv_at hl 2 rfl) ?_
                  refine lv_iload_n hx hb dX11_heap_84 rfl (lv_at hl 3 rfl) ?_
                  have hPc := hP.sub (ws' := []) [] rfl
                  have hDc := hD.sub (ws' := []) [] (by decide) rfl
                  have hKc := hK.sub (tys' := []) [] rfl
                  have hFc := va_free (wc := []) hD hS hA [] rfl
                  refine va_callq (va_runS (As := [.int 3, .int (nI n), .int (nI jv), .int (nI j_5)]) (rest := [.int (nI n), .ref aHs]) ⟨hx, hb, hml, hown, hts⟩ (c_hok3 l dC dI n (nI jv) (nI j_5) H.size) (va_cwS 4 hts gX11_heap_X11_heapOfKind rfl rfl rfl hd_yX11_heapOfKind.2 ⟨Nat.le_of_ble_eq_true rfl, Nat.le_of_ble_eq_true rfl⟩) ⟨fun a U g mk q => by obtain ⟨q0, q1, qP, qK, qD⟩ := q; exact ⟨q0, q1, qP, va_K.moved (u := U) (U := U.calling g mk a) (Vm.Alike.refl U.vm) qK, qD⟩, fun U hU hW => ⟨rfl, by rw [hU], by rw [hU]; exact hPc, va_K.moved hW.alike hKc, hDc.weaken (fun _ _ _ _ => trivial)⟩⟩ rfl rfl hl.1 rfl (lv_room (Nat.le_of_ble_eq_true rfl)) dX11_heap_85 ⟨Nat.le_of_ble_eq_true rfl, Nat.le_of_ble_eq_true rfl⟩) hS (fun q _ h => hFc q h) hFc (fun r_25 u tC H1 locs htC hvm hw_26 hB hz1 hk1 hS => ?_)
                  obtain ⟨qn_27, rfl⟩ : ∃ z, z = u := ⟨_, rfl⟩
                  try dsimp only at hw_26 hB
                  obtain ⟨hP1, hK1, hD1⟩ := hB
                  rw [htC] at hP1
                  have hK1 := va_K.moved hvm.symm hK1
                  obtain ⟨hP, hD⟩ := va_join (wr := [(zo13rrirrrr h0 sc kp ik bl go ch bo), (zo10ririliiriririr sc aTp (nI ts) aHl (nI nh) ed mi sn aHs (nI n) aWk (nI wz) aBk (nI bz) aFc), (zaR aHs cHs 8 fHs)]) (w1 := [(zo3iiii qn_27 3 (nI n) (nI jv) (nI j_5))]) hP hD [] [0, 1, 2] rfl rfl (by decide) (by decide) hk1 hFc hP1 hD1
                  have hK := (hK.sub (tys' := [(cHs, .object "MistHeaps$Heap")]) [0] rfl).app hK1
                  generalize H1 = H at hP hS ⊢
                  have hP : va_P (dC, dI) vwCl [(zo13rrirrrr h0 sc kp ik bl go ch bo), (zo10ririliiriririr sc aTp (nI ts) aHl (nI nh) ed mi sn aHs (nI n) aWk (nI wz) aBk (nI bz) aFc), (zaR aHs cHs 8 fHs), (zo3iiii qn_27 3 (nI n) (nI jv) (nI j_5))] H := hP
                  have hD : va_D A [(zo13rrirrrr h0 sc kp ik bl go ch bo), (zo10ririliiriririr sc aTp (nI ts) aHl (nI nh) ed mi sn aHs (nI n) aWk (nI wz) aBk (nI bz) aFc), (zaR aHs cHs 8 fHs), (zo3iiii qn_27 3 (nI n) (nI jv) (nI j_5))] := hD
                  have hK : va_K (dC, dI) vwCl [(cHs, .object "MistHeaps$Heap")] s := hK
                  refine W.widen (k := 1) (n := 4) (by omega) (by omega) ?_
                  refine qq_as (v := .ref qn_27) (by rw [hw_26]; rfl) ?_
                  refine va_astqO hx hb hK hP hD hS 2 0 3 3 (r := (RX1, TX1, 4)) rfl rfl (hC.castable (.castable RX1 "MistHeaps$Heap") (by decide +kernel)) rfl rfl (vp_in_nI (n := n) (N := 8) (by omega) (by omega)) dX11_heap_88 (fun H locs hP hD hS => ?_)
                  rw [nI_clamp (n := n) (by omega)] at hP hD
                  have hP : va_P (dC, dI) vwCl [(zo13rrirrrr h0 sc kp ik bl go ch bo), (zo10ririliiriririr sc aTp (nI ts) aHl (nI nh) ed mi sn aHs (nI n) aWk (nI wz) aBk (nI bz) aFc), (zaR aHs cHs 8 (va_up fHs n (some qn_27))), (zo3iiii qn_27 3 (nI n) (nI jv) (nI j_5))] H := hP
                  have hD : va_D A [(zo13rrirrrr h0 sc kp ik bl go ch bo), (zo10ririliiriririr sc aTp (nI ts) aHl (nI nh) ed mi sn aHs (nI n) aWk (nI wz) aBk (nI bz) aFc), (zaR aHs cHs 8 (va_up fHs n (some qn_27))), (zo3iiii qn_27 3 (nI n) (nI jv) (nI j_5))] := hD
                  refine lv_aload_n hx hb dX11_heap_89 rfl (lv_at hl 0 rfl) ?_
                  refine va_get (D := (dC, dI)) (ci := 13) (v := .ref sc) (C := RX11) (T := TX11) (N := 7) hx hb hts kc_xHeap_0 hown hK hP 0 rfl rfl 0 (by decide) (hts (.fieldLink RX11 14 "MistHeaps" "scene" "LMistHeaps$Scene;") kc_xHeap_1) (fun _ h9 => h9) rfl dX11_heap_90 ?_
                  refine lv_dup hx hb dX11_heap_93 rfl ?_
                  refine va_get (D := (dC, dI)) (ci := 10) (v := .int (nI n)) (C := RX8) (T := TX8) (N := 14) hx hb hts kc_xHeap_2 hown hK hP 1 rfl rfl 8 (by decide) (hts (.fieldLink RX11 101 "MistHeaps$Scene" "heapCount" "I") kc_xHeap_3) (fun _ h9 => h9) rfl dX11_heap_94 ?_
                  refine lv_iconst (v := 1) hx hb dX11_heap_97 (by decide) ?_
                  refine lv_iadd hx hb dX11_heap_98 ?_
                  refine qi_as (y := nI (n + 1)) (nI_add n 1) ?_
                  refine va_put (D := (dC, dI)) (ci := 10) (v := .int (nI (n + 1))) (ty := .int) (C := RX8) (T := TX8) (N := 14) hx hb hts kc_xHeap_2 tyX8 tyX8_ok nmX8 hown hK hP hD hS 1 rfl rfl 8 (by decide) (hts (.fieldLink RX11 101 "MistHeaps$Scene" "heapCount" "I") kc_xHeap_3) (fun _ h9 => h9) rfl (by decide +kernel) rfl rfl (Nat.le_of_ble_eq_true rfl) dX11_heap_99 (fun H locs hP hD hS => ?_)
                  have hP : va_P (dC, dI) vwCl [(zo13rrirrrr h0 sc kp ik bl go ch bo), (zo10ririliiriririr sc aTp (nI ts) aHl (nI nh) ed mi sn aHs (nI (n + 1)) aWk (nI wz) aBk (nI bz) aFc), (zaR aHs cHs 8 (va_up fHs n (some qn_27))), (zo3iiii qn_27 3 (nI n) (nI jv) (nI j_5))] H := hP
                  have hD : va_D A [(zo13rrirrrr h0 sc kp ik bl go ch bo), (zo10ririliiriririr sc aTp (nI ts) aHl (nI nh) ed mi sn aHs (nI (n + 1)) aWk (nI wz) aBk (nI bz) aFc), (zaR aHs cHs 8 (va_up fHs n (some qn_27))), (zo3iiii qn_27 3 (nI n) (nI jv) (nI j_5))] := hD
                  refine lv_aload_n hx hb dX11_heap_102 rfl (lv_at hl 0 rfl) ?_
                  refine va_get (D := (dC, dI)) (ci := 13) (v := .ref sc) (C := RX11) (T := TX11) (N := 7) hx hb hts kc_xHeap_0 hown hK hP 0 rfl rfl 0 (by decide) (hts (.fieldLink RX11 14 "MistHeaps" "scene" "LMistHeaps$Scene;") kc_xHeap_1) (fun _ h9 => h9) rfl dX11_heap_103 ?_
                  refine va_get (D := (dC, dI)) (ci := 10) (v := .int (nI (n + 1))) (C := RX8) (T := TX8) (N := 14) hx hb hts kc_xHeap_2 hown hK hP 1 rfl rfl 8 (by decide) (hts (.fieldLink RX11 101 "MistHeaps$Scene" "heapCount" "I") kc_xHeap_3) (fun _ h9 => h9) rfl dX11_heap_106 ?_
                  refine lv_iconst (v := 1) hx hb dX11_heap_109 (by decide) ?_
                  refine lv_isub hx hb dX11_heap_110 ?_
                  refine qi_as (y := nI ((n + 1) - 1)) (pk_sub (a := n + 1) (b := 1) (by omega)) ?_
                  rw [hQ]
                  have hP9 := hP.sub (ws' := [(zo13rrirrrr h0 sc kp ik bl go ch bo), (zo10ririliiriririr sc aTp (nI ts) aHl (nI nh) ed mi sn aHs (nI (n + 1)) aWk (nI wz) aBk (nI bz) aFc), (zaR aHs cHs 8 (va_up fHs n (some qn_27))), (zo3iiii qn_27 3 (nI n) (nI jv) (nI j_5))]) [0, 1, 2, 3] rfl
                  have hD9 := hD.sub (ws' := [(zo13rrirrrr h0 sc kp ik bl go ch bo), (zo10ririliiriririr sc aTp (nI ts) aHl (nI nh) ed mi sn aHs (nI (n + 1)) aWk (nI wz) aBk (nI bz) aFc), (zaR aHs cHs 8 (va_up fHs n (some qn_27))), (zo3iiii qn_27 3 (nI n) (nI jv) (nI j_5))]) [0, 1, 2, 3] (by decide) rfl
                  have hK9 := hK.sub (tys' := [(cHs, .object "MistHeaps$Heap")]) [0] rfl
                  refine W.widen (k := 1) (n := 4) (by omega) (by omega) ?_
                  exact W.iret (v := nI ((n + 1) - 1)) hx hb hr (fun tQ htQ hWQ => ⟨⟨(nI ((n + 1) - 1)), ((n + 1), (va_up fHs n (some qn_27)), [(zo3iiii qn_27 3 (nI n) (nI jv) (nI j_5))], []), rfl, ⟨hp_ok (by decide) (by decide) (nI_pos (by omega)) (nI_nlt (a := 35) (by omega) (by omega)) (nI_pos (by omega)) (nI_nlt (a := 9) (by omega) (by omega)) hk9 (by omega), Or.inr ⟨nI_pos (by omega), by omega, rfl, rfl, 3, qn_27, 3, jv, j_5, rfl, ⟨by unfold hpK; omega, hpT_3⟩, rfl, by omega, by omega, by omega, rfl, rfl, rfl⟩⟩, by rw [htQ]; exact hP9, va_K.moved hWQ.alike hK9, hD9⟩, hS.F htQ⟩) hS.2.2 dX11_heap_111
                · skip
                  refine lv_aload_n hx hb dX11_heap_61 rfl (lv_at hl 0 rfl) ?_
                  refine va_get (D := (dC, dI)) (ci := 13) (v := .ref sc) (C := RX11) (T := TX11) (N := 7) hx hb hts kc_xHeap_0 hown hK hP 0 rfl rfl 0 (by decide) (hts (.fieldLink RX11 14 "MistHeaps" "scene" "LMistHeaps$Scene;") kc_xHeap_1) (fun _ h9 => h9) rfl dX11_heap_62 ?_
                  refine va_get (D := (dC, dI)) (ci := 10) (v := .ref aHs) (C := RX8) (T := TX8) (N := 14) hx hb hts kc_xHeap_2 hown hK hP 1 rfl rfl 7 (by decide) (hts (.fieldLink RX11 104 "MistHeaps$Scene" "heaps" "[LMistHeaps$Heap;") kc_xHeap_4) (fun _ h9 => h9) rfl dX11_heap_65 ?_
                  refine lv_aload_n hx hb dX11_heap_68 rfl (lv_at hl 0 rfl) ?_
                  refine va_get (D := (dC, dI)) (ci := 13) (v := .ref sc) (C := RX11) (T := TX11) (N := 7) hx hb hts kc_xHeap_0 hown hK hP 0 rfl rfl 0 (by decide) (hts (.fieldLink RX11 14 "MistHeaps" "scene" "LMistHeaps$Scene;") kc_xHeap_1) (fun _ h9 => h9) rfl dX11_heap_69 ?_
                  refine va_get (D := (dC, dI)) (ci := 10) (v := .int (nI n)) (C := RX8) (T := TX8) (N := 14) hx hb hts kc_xHeap_2 hown hK hP 1 rfl rfl 8 (by decide) (hts (.fieldLink RX11 101 "MistHeaps$Scene" "heapCount" "I") kc_xHeap_3) (fun _ h9 => h9) rfl dX11_heap_72 ?_
                  refine lv_iload_n hx hb dX11_heap_75 rfl (lv_at hl 1 rfl) ?_
                  refine lv_aload_n hx hb dX11_heap_76 rfl (lv_at hl 0 rfl) ?_
                  refine va_get (D := (dC, dI)) (ci := 13) (v := .ref sc) (C := RX11) (T := TX11) (N := 7) hx hb hts kc_xHeap_0 hown hK hP 0 rfl rfl 0 (by decide) (hts (.fieldLink RX11 14 "MistHeaps" "scene" "LMistHeaps$Scene;") kc_xHeap_1) (fun _ h9 => h9) rfl dX11_heap_77 ?_
                  refine va_get (D := (dC, dI)) (ci := 10) (v := .int (nI n)) (C := RX8) (T := TX8) (N := 14) hx hb hts kc_xHeap_2 hown hK hP 1 rfl rfl 8 (by decide) (hts (.fieldLink RX11 101 "MistHeaps$Scene" "heapCount" "I") kc_xHeap_3) (fun _ h9 => h9) rfl dX11_heap_80 ?_
                  refine lv_iload_n hx hb dX11_heap_83 rfl (lv_at hl 2 rfl) ?_
                  refine lv_iload_n hx hb dX11_heap_84 rfl (lv_at hl 3 rfl) ?_
                  have hPc := hP.sub (ws' := []) [] rfl
                  have hDc := hD.sub (ws' := []) [] (by decide) rfl
                  have hKc := hK.sub (tys' := []) [] rfl
                  have hFc := va_free (wc := []) hD hS hA [] rfl
                  refine va_callq (va_runS (As := [.int 4, .int (nI n), .int (nI jv), .int (nI j_5)]) (rest := [.int (nI n), .ref aHs]) ⟨hx, hb, hml, hown, hts⟩ (c_hok4 l dC dI n (nI jv) (nI j_5) H.size) (va_cwS 4 hts gX11_heap_X11_heapOfKind rfl rfl rfl hd_yX11_heapOfKind.2 ⟨Nat.le_of_ble_eq_true rfl, Nat.le_of_ble_eq_true rfl⟩) ⟨fun a U g mk q => by obtain ⟨q0, q1, qP, qK, qD⟩ := q; exact ⟨q0, q1, qP, va_K.moved (u := U) (U := U.calling g mk a) (Vm.Alike.refl U.vm) qK, qD⟩, fun U hU hW => ⟨rfl, by rw [hU], by rw [hU]; exact hPc, va_K.moved hW.alike hKc, hDc.weaken (fun _ _ _ _ => trivial)⟩⟩ rfl rfl hl.1 rfl (lv_room (Nat.le_of_ble_eq_true rfl)) dX11_heap_85 ⟨Nat.le_of_ble_eq_true rfl, Nat.le_of_ble_eq_true rfl⟩) hS (fun q _ h => hFc q h) hFc (fun r_28 u tC H1 locs htC hvm hw_29 hB hz1 hk1 hS => ?_)
                  obtain ⟨qn_30, rfl⟩ : ∃ z, z = u := ⟨_, rfl⟩
                  try dsimp only at hw_29 hB
                  obtain ⟨hP1, hK1, hD1⟩ := hB
                  rw [htC] at hP1
                  have hK1 := va_K.moved hvm.symm hK1
                  obtain ⟨hP, hD⟩ := va_join (wr := [(zo13rrirrrr h0 sc kp ik bl go ch bo), (zo10ririliiriririr sc aTp (nI ts) aHl (nI nh) ed mi sn aHs (nI n) aWk (nI wz) aBk (nI bz) aFc), (zaR aHs cHs 8 fHs)]) (w1 := [(zo12iiii qn_30 4 (nI n) (nI jv) (nI j_5))]) hP hD [] [0, 1, 2] rfl rfl (by decide) (by decide) hk1 hFc hP1 hD1
                  have hK := (hK.sub (tys' := [(cHs, .object "MistHeaps$Heap")]) [0] rfl).app hK1
                  generalize H1 = H at hP hS ⊢
                  have hP : va_P (dC, dI) vwCl [(zo13rrirrrr h0 sc kp ik bl go ch bo), (zo10ririliiriririr sc aTp (nI ts) aHl (nI nh) ed mi sn aHs (nI n) aWk (nI wz) aBk (nI bz) aFc), (zaR aHs cHs 8 fHs), (zo12iiii qn_30 4 (nI n) (nI jv) (nI j_5))] H := hP
                  have hD : va_D A [(zo13rrirrrr h0 sc kp ik bl go ch bo), (zo10ririliiriririr sc aTp (nI ts) aHl (nI nh) ed mi sn aHs (nI n) aWk (nI wz) aBk (nI bz) aFc), (zaR aHs cHs 8 fHs), (zo12iiii qn_30 4 (nI n) (nI jv) (nI j_5))] := hD
                  have hK : va_K (dC, dI) vwCl [(cHs, .object "MistHeaps$Heap")] s := hK
                  refine W.widen (k := 1) (n := 4) (by omega) (by omega) ?_
                  refine qq_as (v := .ref qn_30) (by rw [hw_29]; rfl) ?_
                  refine va_astqO hx hb hK hP hD hS 2 0 3 12 (r := (RX10, TX10, 4)) rfl rfl (hC.castable (.castable RX10 "MistHeaps$Heap") (by decide +kernel)) rfl rfl (vp_in_nI (n := n) (N := 8) (by omega) (by omega)) dX11_heap_88 (fun H locs hP hD hS => ?_)
                  rw [nI_clamp (n := n) (by omega)] at hP hD
                  have hP : va_P (dC, dI) vwCl [(zo13rrirrrr h0 sc kp ik bl go ch bo), (zo10ririliiriririr sc aTp (nI ts) aHl (nI nh) ed mi sn aHs (nI n) aWk (nI wz) aBk (nI bz) aFc), (zaR aHs cHs 8 (va_up fHs n (some qn_30))), (zo12iiii qn_30 4 (nI n) (nI jv) (nI j_5))] H := hP
                  have hD : va_D A [(zo13rrirrrr h0 sc kp ik bl go ch bo), (zo10ririliiriririr sc aTp (nI ts) aHl (nI nh) ed mi sn aHs (nI n) aWk (nI wz) aBk (nI bz) aFc), (zaR aHs cHs 8 (va_up fHs n (some qn_30))), (zo12iiii qn_30 4 (nI n) (nI jv) (nI j_5))] := hD
                  refine lv_aload_n hx hb dX11_heap_89 rfl (lv_at hl 0 rfl) ?_
                  refine va_get (D := (dC, dI)) (ci := 13) (v := .ref sc) (C := RX11) (T := TX11) (N := 7) hx hb hts kc_xHeap_0 hown hK hP 0 rfl rfl 0 (by decide) (hts (.fieldLink RX11 14 "MistHeaps" "scene" "LMistHeaps$Scene;") kc_xHeap_1) (fun _ h9 => h9) rfl dX11_heap_90 ?_
                  refine lv_dup hx hb dX11_heap_93 rfl ?_
                  refine va_get (D := (dC, dI)) (ci := 10) (v := .int (nI n)) (C := RX8) (T := TX8) (N := 14) hx hb hts kc_xHeap_2 hown hK hP 1 rfl rfl 8 (by decide) (hts (.fieldLink RX11 101 "MistHeaps$Scene" "heapCount" "I") kc_xHeap_3) (fun _ h9 => h9) rfl dX11_heap_94 ?_
                  refine lv_iconst (v := 1) hx hb dX11_heap_97 (by decide) ?_
                  refine lv_iadd hx hb dX11_heap_98 ?_
                  refine qi_as (y := nI (n + 1)) (nI_add n 1) ?_
                  refine va_put (D := (dC, dI)) (ci := 10) (v := .int (nI (n + 1))) (ty := .int) (C := RX8) (T := TX8) (N := 14) hx hb hts kc_xHeap_2 tyX8 tyX8_ok nmX8 hown hK hP hD hS 1 rfl rfl 8 (by decide) (hts (.fieldLink RX11 101 "MistHeaps$Scene" "heapCount" "I") kc_xHeap_3) (fun _ h9 => h9) rfl (by decide +kernel) rfl rfl (Nat.le_of_ble_eq_true rfl) dX11_heap_99 (fun H locs hP hD hS => ?_)
                  have hP : va_P (dC, dI) vwCl [(zo13rrirrrr h0 sc kp ik bl go ch bo), (zo10ririliiriririr sc aTp (nI ts) aHl (nI nh) ed mi sn aHs (nI (n + 1)) aWk (nI wz) aBk (nI bz) aFc), (zaR aHs cHs 8 (va_up fHs n (some qn_30))), (zo12iiii qn_30 4 (nI n) (nI jv) (nI j_5))] H := hP
                  have hD : va_D A [(zo13rrirrrr h0 sc kp ik bl go ch bo), (zo10ririliiriririr sc aTp (nI ts) aHl (nI nh) ed mi sn aHs (nI (n + 1)) aWk (nI wz) aBk (nI bz) aFc), (zaR aHs cHs 8 (va_up fHs n (some qn_30))), (zo12iiii qn_30 4 (nI n) (nI jv) (nI j_5))] := hD
                  refine lv_aload_n hx hb dX11_heap_102 rfl (lv_at hl 0 rfl) ?_
                  refine va_get (D := (dC, dI)) (ci := 13) (v := .ref sc) (C := RX11) (T := TX11) (N := 7) hx hb hts kc_xHeap_0 hown hK hP 0 rfl rfl 0 (by decide) (hts (.fieldLink RX11 14 "MistHeaps" "scene" "LMistHeaps$Scene;") kc_xHeap_1) (fun _ h9 => h9) rfl dX11_heap_103 ?_
                  refine va_get (D := (dC, dI)) (ci := 10) (v := .int (nI (n + 1))) (C := RX8) (T := TX8) (N := 14) hx hb hts kc_xHeap_2 hown hK hP 1 rfl rfl 8 (by decide) (hts (.fieldLink RX11 101 "MistHeaps$Scene" "heapCount" "I") kc_xHeap_3) (fun _ h9 => h9) rfl dX11_heap_106 ?_
                  refine lv_iconst (v := 1) hx hb dX11_heap_109 (by decide) ?_
                  refine lv_isub hx hb dX11_heap_110 ?_
                  refine qi_as (y := nI ((n + 1) - 1)) (pk_sub (a := n + 1) (b := 1) (by omega)) ?_
                  rw [hQ]
                  have hP9 := hP.sub (ws' := [(zo13rrirrrr h0 sc kp ik bl go ch bo), (zo10ririliiriririr sc aTp (nI ts) aHl (nI nh) ed mi sn aHs (nI (n + 1)) aWk (nI wz) aBk (nI bz) aFc), (zaR aHs cHs 8 (va_up fHs n (some qn_30))), (zo12iiii qn_30 4 (nI n) (nI jv) (nI j_5))]) [0, 1, 2, 3] rfl
                  have hD9 := hD.sub (ws' := [(zo13rrirrrr h0 sc kp ik bl go ch bo), (zo10ririliiriririr sc aTp (nI ts) aHl (nI nh) ed mi sn aHs (nI (n + 1)) aWk (nI wz) aBk (nI bz) aFc), (zaR aHs cHs 8 (va_up fHs n (some qn_30))), (zo12iiii qn_30 4 (nI n) (nI jv) (nI j_5))]) [0, 1, 2, 3] (by decide) rfl
                  have hK9 := hK.sub (tys' := [(cHs, .object "MistHeaps$Heap")]) [0] rfl
                  refine W.widen (k := 1) (n := 4) (by omega) (by omega) ?_
                  exact W.iret (v := nI ((n + 1) - 1)) hx hb hr (fun tQ htQ hWQ => ⟨⟨(nI ((n + 1) - 1)), ((n + 1), (va_up fHs n (some qn_30)), [(zo12iiii qn_30 4 (nI n) (nI jv) (nI j_5))], []), rfl, ⟨hp_ok (by decide) (by decide) (nI_pos (by omega)) (nI_nlt (a := 35) (by omega) (by omega)) (nI_pos (by omega)) (nI_nlt (a := 9) (by omega) (by omega)) hk9 (by omega), Or.inr ⟨nI_pos (by omega), by omega, rfl, rfl, 12, qn_30, 4, jv, j_5, rfl, ⟨by unfold hpK; omega, hpT_4⟩, rfl, by omega, by omega, by omega, rfl, rfl, rfl⟩⟩, by rw [htQ]; exact hP9, va_K.moved hWQ.alike hK9, hD9⟩, hS.F htQ⟩) hS.2.2 dX11_heap_111
                · skip
                  refine lv_aload_n hx hb dX11_heap_61 rfl (lv_at hl 0 rfl) ?_
                  refine va_get (D := (dC, dI)) (ci := 13) (v := .ref sc) (C := RX11) (T := TX11) (N := 7) hx hb hts kc_xHeap_0 hown hK hP 0 rfl rfl 0 (by decide) (hts (.fieldLink RX11 14 "MistHeaps" "scene" "LMistHeaps$Scene;") kc_xHeap_1) (fun _ h9 => h9) rfl dX11_heap_62 ?_
                  refine va_get (D := (dC, dI)) (ci := 10) (v := .ref aHs) (C := RX8) (T := TX8) (N := 14) hx hb hts kc_xHeap_2 hown hK hP 1 rfl rfl 7 (by decide) (hts (.fieldLink RX11 104 "MistHeaps$Scene" "heaps" "[LMistHeaps$Heap;") kc_xHeap_4) (fun _ h9 => h9) rfl dX11_heap_65 ?_
                  refine lv_aload_n hx hb dX11_heap_68 rfl (lv_at hl 0 rfl) ?_
                  refine va_get (D := (dC, dI)) (ci := 13) (v := .ref sc) (C := RX11) (T := TX11) (N := 7) hx hb hts kc_xHeap_0 hown hK hP 0 rfl rfl 0 (by decide) (hts (.fieldLink RX11 14 "MistHeaps" "scene" "LMistHeaps$Scene;") kc_xHeap_1) (fun _ h9 => h9) rfl dX11_heap_69 ?_
                  refine va_get (D := (dC, dI)) (ci := 10) (v := .int (nI n)) (C := RX8) (T := TX8) (N := 14) hx hb hts kc_xHeap_2 hown hK hP 1 rfl rfl 8 (by decide) (hts (.fieldLink RX11 101 "MistHeaps$Scene" "heapCount" "I") kc_xHeap_3) (fun _ h9 => h9) rfl dX11_heap_72 ?_
                  refine lv_iload_n hx hb dX11_heap_75 rfl (lv_at hl 1 rfl) ?_
                  refine lv_aload_n hx hb dX11_heap_76 rfl (lv_at hl 0 rfl) ?_
                  refine va_get (D := (dC, dI)) (ci := 13) (v := .ref sc) (C := RX11) (T := TX11) (N := 7) hx hb hts kc_xHeap_0 hown hK hP 0 rfl rfl 0 (by decide) (hts (.fieldLink RX11 14 "MistHeaps" "scene" "LMistHeaps$Scene;") kc_xHeap_1) (fun _ h9 => h9) rfl dX11_heap_77 ?_
                  refine va_get (D := (dC, dI)) (ci := 10) (v := .int (nI n)) (C := RX8) (T := TX8) (N := 14) hx hb hts kc_xHeap_2 hown hK hP 1 rfl rfl 8 (by decide) (hts (.fieldLink RX11 101 "MistHeaps$Scene" "heapCount" "I") kc_xHeap_3) (fun _ h9 => h9) rfl dX11_heap_80 ?_
                  refine lv_iload_n hx hb dX11_heap_83 rfl (lv_at hl 2 rfl) ?_
                  refine lv_iload_n hx hb dX11_heap_84 rfl (lv_at hl 3 rfl) ?_
                  have hPc := hP.sub (ws' := []) [] rfl
                  have hDc := hD.sub (ws' := []) [] (by decide) rfl
                  have hKc := hK.sub (tys' := []) [] rfl
                  have hFc := va_free (wc := []) hD hS hA [] rfl
                  refine va_callq (va_runS (As := [.int 5, .int (nI n), .int (nI jv), .int (nI j_5)]) (rest := [.int (nI n), .ref aHs]) ⟨hx, hb, hml, hown, hts⟩ (c_hok5 l dC dI n (nI jv) (nI j_5) H.size) (va_cwS 4 hts gX11_heap_X11_heapOfKind rfl rfl rfl hd_yX11_heapOfKind.2 ⟨Nat.le_of_ble_eq_true rfl, Nat.le_of_ble_eq_true rfl⟩) ⟨fun a U g mk q => by obtain ⟨q0, q1, qP, qK, qD⟩ := q; exact ⟨q0, q1, qP, va_K.moved (u := U) (U := U.calling g mk a) (Vm.Alike.refl U.vm) qK, qD⟩, fun U hU hW => ⟨rfl, by rw [hU], by rw [hU]; exact hPc, va_K.moved hW.alike hKc, hDc.weaken (fun _ _ _ _ => trivial)⟩⟩ rfl rfl hl.1 rfl (lv_room (Nat.le_of_ble_eq_true rfl)) dX11_heap_85 ⟨Nat.le_of_ble_eq_true rfl, Nat.le_of_ble_eq_true rfl⟩) hS (fun q _ h => hFc q h) hFc (fun r_31 u tC H1 locs htC hvm hw_32 hB hz1 hk1 hS => ?_)
                  obtain ⟨qn_33, rfl⟩ : ∃ z, z = u := ⟨_, rfl⟩
                  try dsimp only at hw_32 hB
                  obtain ⟨hP1, hK1, hD1⟩ := hB
                  rw [htC] at hP1
                  have hK1 := va_K.moved hvm.symm hK1
                  obtain ⟨hP, hD⟩ := va_join (wr := [(zo13rrirrrr h0 sc kp ik bl go ch bo), (zo10ririliiriririr sc aTp (nI ts) aHl (nI nh) ed mi sn aHs (nI n) aWk (nI wz) aBk (nI bz) aFc), (zaR aHs cHs 8 fHs)]) (w1 := [(zo11iiii qn_33 5 (nI n) (nI jv) (nI j_5))]) hP hD [] [0, 1, 2] rfl rfl (by decide) (by decide) hk1 hFc hP1 hD1
                  have hK := (hK.sub (tys' := [(cHs, .object "MistHeaps$Heap")]) [0] rfl).app hK1
                  generalize H1 = H at hP hS ⊢
                  have hP : va_P (dC, dI) vwCl [(zo13rrirrrr h0 sc kp ik bl go ch bo), (zo10ririliiriririr sc aTp (nI ts) aHl (nI nh) ed mi sn aHs (nI n) aWk (nI wz) aBk (nI bz) aFc), (zaR aHs cHs 8 fHs), (zo11iiii qn_33 5 (nI n) (nI jv) (nI j_5))] H := hP
                  have hD : va_D A [(zo13rrirrrr h0 sc kp ik bl go ch bo), (zo10ririliiriririr sc aTp (nI ts) aHl (nI nh) ed mi sn aHs (nI n) aWk (nI wz) aBk (nI bz) aFc), (zaR aHs cHs 8 fHs), (zo11iiii qn_33 5 (nI n) (nI jv) (nI j_5))] := hD
                  have hK : va_K (dC, dI) vwCl [(cHs, .object "MistHeaps$Heap")] s := hK
                  refine W.widen (k := 1) (n := 4) (by omega) (by omega) ?_
                  refine qq_as (v := .ref qn_33) (by rw [hw_32]; rfl) ?_
                  refine va_astqO hx hb hK hP hD hS 2 0 3 11 (r := (RX9, TX9, 4)) rfl rfl (hC.castable (.castable RX9 "MistHeaps$Heap") (by decide +kernel)) rfl rfl (vp_in_nI (n := n) (N := 8) (by omega) (by omega)) dX11_heap_88 (fun H locs hP hD hS => ?_)
                  rw [nI_clamp (n := n) (by omega)] at hP hD
                  have hP : va_P (dC, dI) vwCl [(zo13rrirrrr h0 sc kp ik bl go ch bo), (zo10ririliiriririr sc aTp (nI ts) aHl (nI nh) ed mi sn aHs (nI n) aWk (nI wz) aBk (nI bz) aFc), (zaR aHs cHs 8 (va_up fHs n (some qn_33))), (zo11iiii qn_33 5 (nI n) (nI jv) (nI j_5))] H := hP
                  have hD : va_D A [(zo13rrirrrr h0 sc kp ik bl go ch bo), (zo10ririliiriririr sc aTp (nI ts) aHl (nI nh) ed mi sn aHs (nI n) aWk (nI wz) aBk (nI bz) aFc), (zaR aHs cHs 8 (va_up fHs n (some qn_33))), (zo11iiii qn_33 5 (nI n) (nI jv) (nI j_5))] := hD
                  refine lv_aload_n hx hb dX11_heap_89 rfl (lv_at hl 0 rfl) ?_
                  refine va_get (D := (dC, dI)) (ci := 13) (v := .ref sc) (C := RX11) (T := TX11) (N := 7) hx hb hts kc_xHeap_0 hown hK hP 0 rfl rfl 0 (by decide) (hts (.fieldLink RX11 14 "MistHeaps" "scene" "LMistHeaps$Scene;") kc_xHeap_1) (fun _ h9 => h9) rfl dX11_heap_90 ?_
                  refine lv_dup hx hb dX11_heap_93 rfl ?_
                  refine va_get (D := (dC, dI)) (ci := 10) (v := .int (nI n)) (C := RX8) (T := TX8) (N := 14) hx hb hts kc_xHeap_2 hown hK hP 1 rfl rfl 8 (by decide) (hts (.fieldLink RX11 101 "MistHeaps$Scene" "heapCount" "I") kc_xHeap_3) (fun _ h9 => h9) rfl dX11_heap_94 ?_
                  refine lv_iconst (v := 1) hx hb dX11_heap_97 (by decide) ?_
                  refine lv_iadd hx hb dX11_heap_98 ?_
                  refine qi_as (y := nI (n + 1)) (nI_add n 1) ?_
                  refine va_put (D := (dC, dI)) (ci := 10) (v := .int (nI (n + 1))) (ty := .int) (C := RX8) (T := TX8) (N := 14) hx hb hts kc_xHeap_2 tyX8 tyX8_ok nmX8 hown hK hP hD hS 1 rfl rfl 8 (by decide) (hts (.fieldLink RX11 101 "MistHeaps$Scene" "heapCount" "I") kc_xHeap_3) (fun _ h9 => h9) rfl (by decide +kernel) rfl rfl (Nat.le_of_ble_eq_true rfl) dX11_heap_99 (fun H locs hP hD hS => ?_)
                  have hP : va_P (dC, dI) vwCl [(zo13rrirrrr h0 sc kp ik bl go ch bo), (zo10ririliiriririr sc aTp (nI ts) aHl (nI nh) ed mi sn aHs (nI (n + 1)) aWk (nI wz) aBk (nI bz) aFc), (zaR aHs cHs 8 (va_up fHs n (some qn_33))), (zo11iiii qn_33 5 (nI n) (nI jv) (nI j_5))] H := hP
                  have hD : va_D A [(zo13rrirrrr h0 sc kp ik bl go ch bo), (zo10ririliiriririr sc aTp (nI ts) aHl (nI nh) ed mi sn aHs (nI (n + 1)) aWk (nI wz) aBk (nI bz) aFc), (zaR aHs cHs 8 (va_up fHs n (some qn_33))), (zo11iiii qn_33 5 (nI n) (nI jv) (nI j_5))] := hD
                  refine lv_aload_n hx hb dX11_heap_102 rfl (lv_at hl 0 rfl) ?_
                  refine va_get (D := (dC, dI)) (ci := 13) (v := .ref sc) (C := RX11) (T := TX11) (N := 7) hx hb hts kc_xHeap_0 hown hK hP 0 rfl rfl 0 (by decide) (hts (.fieldLink RX11 14 "MistHeaps" "scene" "LMistHeaps$Scene;") kc_xHeap_1) (fun _ h9 => h9) rfl dX11_heap_103 ?_
                  refine va_get (D := (dC, dI)) (ci := 10) (v := .int (nI (n + 1))) (C := RX8) (T := TX8) (N := 14) hx hb hts kc_xHeap_2 hown hK hP 1 rfl rfl 8 (by decide) (hts (.fieldLink RX11 101 "MistHeaps$Scene" "heapCount" "I") kc_xHeap_3) (fun _ h9 => h9) rfl dX11_heap_106 ?_
                  refine lv_iconst (v := 1) hx hb dX11_heap_109 (by decide) ?_
                  refine lv_isub hx hb dX11_heap_110 ?_
                  refine qi_as (y := nI ((n + 1) - 1)) (pk_sub (a := n + 1) (b := 1) (by omega)) ?_
                  rw [hQ]
                  have hP9 := hP.sub (ws' := [(zo13rrirrrr h0 sc kp ik bl go ch bo), (zo10ririliiriririr sc aTp (nI ts) aHl (nI nh) ed mi sn aHs (nI (n + 1)) aWk (nI wz) aBk (nI bz) aFc), (zaR aHs cHs 8 (va_up fHs n (some qn_33))), (zo11iiii qn_33 5 (nI n) (nI jv) (nI j_5))]) [0, 1, 2, 3] rfl
                  have hD9 := hD.sub (ws' := [(zo13rrirrrr h0 sc kp ik bl go ch bo), (zo10ririliiriririr sc aTp (nI ts) aHl (nI nh) ed mi sn aHs (nI (n + 1)) aWk (nI wz) aBk (nI bz) aFc), (zaR aHs cHs 8 (va_up fHs n (some qn_33))), (zo11iiii qn_33 5 (nI n) (nI jv) (nI j_5))]) [0, 1, 2, 3] (by decide) rfl
                  have hK9 := hK.sub (tys' := [(cHs, .object "MistHeaps$Heap")]) [0] rfl
                  refine W.widen (k := 1) (n := 4) (by omega) (by omega) ?_
                  exact W.iret (v := nI ((n + 1) - 1)) hx hb hr (fun tQ htQ hWQ => ⟨⟨(nI ((n + 1) - 1)), ((n + 1), (va_up fHs n (some qn_33)), [(zo11iiii qn_33 5 (nI n) (nI jv) (nI j_5))], []), rfl, ⟨hp_ok (by decide) (by decide) (nI_pos (by omega)) (nI_nlt (a := 35) (by omega) (by omega)) (nI_pos (by omega)) (nI_nlt (a := 9) (by omega) (by omega)) hk9 (by omega), Or.inr ⟨nI_pos (by omega), by omega, rfl, rfl, 11, qn_33, 5, jv, j_5, rfl, ⟨by unfold hpK; omega, hpT_5⟩, rfl, by omega, by omega, by omega, rfl, rfl, rfl⟩⟩, by rw [htQ]; exact hP9, va_K.moved hWQ.alike hK9, hD9⟩, hS.F htQ⟩) hS.2.2 dX11_heap_111
                · skip
                  refine lv_aload_n hx hb dX11_heap_61 rfl (lv_at hl 0 rfl) ?_
                  refine va_get (D := (dC, dI)) (ci := 13) (v := .ref sc) (C := RX11) (T := TX11) (N := 7) hx hb hts kc_xHeap_0 hown hK hP 0 rfl rfl 0 (by decide) (hts (.fieldLink RX11 14 "MistHeaps" "scene" "LMistHeaps$Scene;") kc_xHeap_1) (fun _ h9 => h9) rfl dX11_heap_62 ?_
                  refine va_get (D := (dC, dI)) (ci := 10) (v := .ref aHs) (C := RX8) (T := TX8) (N := 14) hx hb hts kc_xHeap_2 hown hK hP 1 rfl rfl 7 (by decide) (hts (.fieldLink RX11 104 "MistHeaps$Scene" "heaps" "[LMistHeaps$Heap;") kc_xHeap_4) (fun _ h9 => h9) rfl dX11_heap_65 ?_
                  refine lv_aload_n hx hb dX11_heap_68 rfl (lv_at hl 0 rfl) ?_
                  refine va_get (D := (dC, dI)) (ci := 13) (v := .ref sc) (C := RX11) (T := TX11) (N := 7) hx hb hts kc_xHeap_0 hown hK hP 0 rfl rfl 0 (by decide) (hts (.fieldLink RX11 14 "MistHeaps" "scene" "LMistHeaps$Scene;") kc_xHeap_1) (fun _ h9 => h9) rfl dX11_heap_69 ?_
                  refine va_get (D := (dC, dI)) (ci := 10) (v := .int (nI n)) (C := RX8) (T := TX8) (N := 14) hx hb hts kc_xHeap_2 hown hK hP 1 rfl rfl 8 (by decide) (hts (.fieldLink RX11 101 "MistHeaps$Scene" "heapCount" "I") kc_xHeap_3) (fun _ h9 => h9) rfl dX11_heap_72 ?_
                  refine lv_iload_n hx hb dX11_heap_75 rfl (lv_at hl 1 rfl) ?_
                  refine lv_aload_n hx hb dX11_heap_76 rfl (lv_at hl 0 rfl) ?_
                  refine va_get (D := (dC, dI)) (ci := 13) (v := .ref sc) (C := RX11) (T := TX11) (N := 7) hx hb hts kc_xHeap_0 hown hK hP 0 rfl rfl 0 (by decide) (hts (.fieldLink RX11 14 "MistHeaps" "scene" "LMistHeaps$Scene;") kc_xHeap_1) (fun _ h9 => h9) rfl dX11_heap_77 ?_
                  refine va_get (D := (dC, dI)) (ci := 10) (v := .int (nI n)) (C := RX8) (T := TX8) (N := 14) hx hb hts kc_xHeap_2 hown hK hP 1 rfl rfl 8 (by decide) (hts (.fieldLink RX11 101 "MistHeaps$Scene" "heapCount" "I") kc_xHeap_3) (fun _ h9 => h9) rfl dX11_heap_80 ?_
                  refine lv_iload_n hx hb dX11_heap_83 rfl (lv_at hl 2 rfl) ?_
                  refine lv_iload_n hx hb dX11_heap_84 rfl (lv_at hl 3 rfl) ?_
                  have hPc := hP.sub (ws' := []) [] rfl
                  have hDc := hD.sub (ws' := []) [] (by decide) rfl
                  have hKc := hK.sub (tys' := []) [] rfl
                  have hFc := va_free (wc := []) hD hS hA [] rfl
                  refine va_callq (va_runS (As := [.int 6, .int (nI n), .int (nI jv), .int (nI j_5)]) (rest := [.int (nI n), .ref aHs]) ⟨hx, hb, hml, hown, hts⟩ (c_hok6 l dC dI n (nI jv) (nI j_5) H.size) (va_cwS 4 hts gX11_heap_X11_heapOfKind rfl rfl rfl hd_yX11_heapOfKind.2 ⟨Nat.le_of_ble_eq_true rfl, Nat.le_of_ble_eq_true rfl⟩) ⟨fun a U g mk q => by obtain ⟨q0, q1, qP, qK, qD⟩ := q; exact ⟨q0, q1, qP, va_K.moved (u := U) (U := U.calling g mk a) (Vm.Alike.refl U.vm) qK, qD⟩, fun U hU hW => ⟨rfl, by rw [hU], by rw [hU]; exact hPc, va_K.moved hW.alike hKc, hDc.weaken (fun _ _ _ _ => trivial)⟩⟩ rfl rfl hl.1 rfl (lv_room (Nat.le_of_ble_eq_true rfl)) dX11_heap_85 ⟨Nat.le_of_ble_eq_true rfl, Nat.le_of_ble_eq_true rfl⟩) hS (fun q _ h => hFc q h) hFc (fun r_34 u tC H1 locs htC hvm hw_35 hB hz1 hk1 hS => ?_)
                  obtain ⟨qn_36, rfl⟩ : ∃ z, z = u := ⟨_, rfl⟩
                  try dsimp only at hw_35 hB
                  obtain ⟨hP1, hK1, hD1⟩ := hB
                  rw [htC] at hP1
                  have hK1 := va_K.moved hvm.symm hK1
                  obtain ⟨hP, hD⟩ := va_join (wr := [(zo13rrirrrr h0 sc kp ik bl go ch bo), (zo10ririliiriririr sc aTp (nI ts) aHl (nI nh) ed mi sn aHs (nI n) aWk (nI wz) aBk (nI bz) aFc), (zaR aHs cHs 8 fHs)]) (w1 := [(zo9iiii qn_36 6 (nI n) (nI jv) (nI j_5))]) hP hD [] [0, 1, 2] rfl rfl (by decide) (by decide) hk1 hFc hP1 hD1
                  have hK := (hK.sub (tys' := [(cHs, .object "MistHeaps$Heap")]) [0] rfl).app hK1
                  generalize H1 = H at hP hS ⊢
                  have hP : va_P (dC, dI) vwCl [(zo13rrirrrr h0 sc kp ik bl go ch bo), (zo10ririliiriririr sc aTp (nI ts) aHl (nI nh) ed mi sn aHs (nI n) aWk (nI wz) aBk (nI bz) aFc), (zaR aHs cHs 8 fHs), (zo9iiii qn_36 6 (nI n) (nI jv) (nI j_5))] H := hP
                  have hD : va_D A [(zo13rrirrrr h0 sc kp ik bl go ch bo), (zo10ririliiriririr sc aTp (nI ts) aHl (nI nh) ed mi sn aHs (nI n) aWk (nI wz) aBk (nI bz) aFc), (zaR aHs cHs 8 fHs), (zo9iiii qn_36 6 (nI n) (nI jv) (nI j_5))] := hD
                  have hK : va_K (dC, dI) vwCl [(cHs, .object "MistHeaps$Heap")] s := hK
                  refine W.widen (k := 1) (n := 4) (by omega) (by omega) ?_
                  refine qq_as (v := .ref qn_36) (by rw [hw_35]; rfl) ?_
                  refine va_astqO hx hb hK hP hD hS 2 0 3 9 (r := (RX7, TX7, 4)) rfl rfl (hC.castable (.castable RX7 "MistHeaps$Heap") (by decide +kernel)) rfl rfl (vp_in_nI (n := n) (N := 8) (by omega) (by omega)) dX11_heap_88 (fun H locs hP hD hS => ?_)
                  rw [nI_clamp (n := n) (by omega)] at hP hD
                  have hP : va_P (dC, dI) vwCl [(zo13rrirrrr h0 sc kp ik bl go ch bo), (zo10ririliiriririr sc aTp (nI ts) aHl (nI nh) ed mi sn aHs (nI n) aWk (nI wz) aBk (nI bz) aFc), (zaR aHs cHs 8 (va_up fHs n (some qn_36))), (zo9iiii qn_36 6 (nI n) (nI jv) (nI j_5))] H := hP
                  have hD : va_D A [(zo13rrirrrr h0 sc kp ik bl go ch bo), (zo10ririliiriririr sc aTp (nI ts) aHl (nI nh) ed mi sn aHs (nI n) aWk (nI wz) aBk (nI bz) aFc), (zaR aHs cHs 8 (va_up fHs n (some qn_36))), (zo9iiii qn_36 6 (nI n) (nI jv) (nI j_5))] := hD
                  refine lv_aload_n hx hb dX11_heap_89 rfl (lv_at hl 0 rfl) ?_
                  refine va_get (D := (dC, dI)) (ci := 13) (v := .ref sc) (C := RX11) (T := TX11) (N := 7) hx hb hts kc_xHeap_0 hown hK hP 0 rfl rfl 0 (by decide) (hts (.fieldLink RX11 14 "MistHeaps" "scene" "LMistHeaps$Scene;") kc_xHeap_1) (fun _ h9 => h9) rfl dX11_heap_90 ?_
                  refine lv_dup hx hb dX11_heap_93 rfl ?_
                  refine va_get (D := (dC, dI)) (ci := 10) (v := .int (nI n)) (C := RX8) (T := TX8) (N := 14) hx hb hts kc_xHeap_2 hown hK hP 1 rfl rfl 8 (by decide) (hts (.fieldLink RX11 101 "MistHeaps$Scene" "heapCount" "I") kc_xHeap_3) (fun _ h9 => h9) rfl dX11_heap_94 ?_
                  refine lv_iconst (v := 1) hx hb dX11_heap_97 (by decide) ?_
                  refine lv_iadd hx hb dX11_heap_98 ?_
                  refine qi_as (y := nI (n + 1)) (nI_add n 1) ?_
                  refine va_put (D := (dC, dI)) (ci := 10) (v := .int (nI (n + 1))) (ty := .int) (C := RX8) (T := TX8) (N := 14) hx hb hts kc_xHeap_2 tyX8 tyX8_ok nmX8 hown hK hP hD hS 1 rfl rfl 8 (by decide) (hts (.fieldLink RX11 101 "MistHeaps$Scene" "heapCount" "I") kc_xHeap_3) (fun _ h9 => h9) rfl (by decide +kernel) rfl rfl (Nat.le_of_ble_eq_true rfl) dX11_heap_99 (fun H locs hP hD hS => ?_)
                  have hP : va_P (dC, dI) vwCl [(zo13rrirrrr h0 sc kp ik bl go ch bo), (zo10ririliiriririr sc aTp (nI ts) aHl (nI nh) ed mi sn aHs (nI (n + 1)) aWk (nI wz) aBk (nI bz) aFc), (zaR aHs cHs 8 (va_up fHs n (some qn_36))), (zo9iiii qn_36 6 (nI n) (nI jv) (nI j_5))] H := hP
                  have hD : va_D A [(zo13rrirrrr h0 sc kp ik bl go ch bo), (zo10ririliiriririr sc aTp (nI ts) aHl (nI nh) ed mi sn aHs (nI (n + 1)) aWk (nI wz) aBk (nI bz) aFc), (zaR aHs cHs 8 (va_up fHs n (some qn_36))), (zo9iiii qn_36 6 (nI n) (nI jv) (nI j_5))] := hD
                  refine lv_aload_n hx hb dX11_heap_102 rfl (lv_at hl 0 rfl) ?_
                  refine va_get (D := (dC, dI)) (ci := 13) (v := .ref sc) (C := RX11) (T := TX11) (N := 7) hx hb hts kc_xHeap_0 hown hK hP 0 rfl rfl 0 (by decide) (hts (.fieldLink RX11 14 "MistHeaps" "scene" "LMistHeaps$Scene;") kc_xHeap_1) (fun _ h9 => h9) rfl dX11_heap_103 ?_
                  refine va_get (D := (dC, dI)) (ci := 10) (v := .int (nI (n + 1))) (C := RX8) (T := TX8) (N := 14) hx hb hts kc_xHeap_2 hown hK hP 1 rfl rfl 8 (by decide) (hts (.fieldLink RX11 101 "MistHeaps$Scene" "heapCount" "I") kc_xHeap_3) (fun _ h9 => h9) rfl dX11_heap_106 ?_
                  refine lv_iconst (v := 1) hx hb dX11_heap_109 (by decide) ?_
                  refine lv_isub hx hb dX11_heap_110 ?_
                  refine qi_as (y := nI ((n + 1) - 1)) (pk_sub (a := n + 1) (b := 1) (by omega)) ?_
                  rw [hQ]
                  have hP9 := hP.sub (ws' := [(zo13rrirrrr h0 sc kp ik bl go ch bo), (zo10ririliiriririr sc aTp (nI ts) aHl (nI nh) ed mi sn aHs (nI (n + 1)) aWk (nI wz) aBk (nI bz) aFc), (zaR aHs cHs 8 (va_up fHs n (some qn_36))), (zo9iiii qn_36 6 (nI n) (nI jv) (nI j_5))]) [0, 1, 2, 3] rfl
                  have hD9 := hD.sub (ws' := [(zo13rrirrrr h0 sc kp ik bl go ch bo), (zo10ririliiriririr sc aTp (nI ts) aHl (nI nh) ed mi sn aHs (nI (n + 1)) aWk (nI wz) aBk (nI bz) aFc), (zaR aHs cHs 8 (va_up fHs n (some qn_36))), (zo9iiii qn_36 6 (nI n) (nI jv) (nI j_5))]) [0, 1, 2, 3] (by decide) rfl
                  have hK9 := hK.sub (tys' := [(cHs, .object "MistHeaps$Heap")]) [0] rfl
                  refine W.widen (k := 1) (n := 4) (by omega) (by omega) ?_
                  exact W.iret (v := nI ((n + 1) - 1)) hx hb hr (fun tQ htQ hWQ => ⟨⟨(nI ((n + 1) - 1)), ((n + 1), (va_up fHs n (some qn_36)), [(zo9iiii qn_36 6 (nI n) (nI jv) (nI j_5))], []), rfl, ⟨hp_ok (by decide) (by decide) (nI_pos (by omega)) (nI_nlt (a := 35) (by omega) (by omega)) (nI_pos (by omega)) (nI_nlt (a := 9) (by omega) (by omega)) hk9 (by omega), Or.inr ⟨nI_pos (by omega), by omega, rfl, rfl, 9, qn_36, 6, jv, j_5, rfl, ⟨by unfold hpK; omega, hpT_6⟩, rfl, by omega, by omega, by omega, rfl, rfl, rfl⟩⟩, by rw [htQ]; exact hP9, va_K.moved hWQ.alike hK9, hD9⟩, hS.F htQ⟩) hS.2.2 dX11_heap_111
              · skip
                have c_15 : ¬ n < 8 := fun q => c_15 ((nI_ltI (a := n) (b := 8) (by omega) (by omega)).mpr q)
                refine lv_bipush (v := (-4)) hx hb dX11_heap_58 (by decide) ?_
                rw [hQ]
                have hP9 := hP.sub (ws' := [(zo13rrirrrr h0 sc kp ik bl go ch bo), (zo10ririliiriririr sc aTp (nI ts) aHl (nI nh) ed mi sn aHs (nI n) aWk (nI wz) aBk (nI bz) aFc), (zaR aHs cHs 8 fHs)]) [0, 1, 2] rfl
                have hD9 := hD.sub (ws' := [(zo13rrirrrr h0 sc kp ik bl go ch bo), (zo10ririliiriririr sc aTp (nI ts) aHl (nI nh) ed mi sn aHs (nI n) aWk (nI wz) aBk (nI bz) aFc), (zaR aHs cHs 8 fHs)]) [0, 1, 2] (by decide) rfl
                have hK9 := hK.sub (tys' := [(cHs, .object "MistHeaps$Heap")]) [0] rfl
                refine W.widen (k := 1) (n := 4) (by omega) (by omega) ?_
                exact W.iret (v := (-4)) hx hb hr (fun tQ htQ hWQ => ⟨⟨(-4), (n, fHs, [], []), rfl, ⟨hp_full (by assumption) (fun q => absurd (lt6_le7 q) (by assumption)) (nI_pos (by omega)) (nI_nlt (a := 35) (by omega) (by omega)) (by assumption) (Int32.not_lt.mpr (by assumption)) hk9 (by omega), Or.inl ⟨by decide, rfl, rfl, rfl, rfl⟩⟩, by rw [htQ]; exact hP9, va_K.moved hWQ.alike hK9, hD9⟩, hS.F htQ⟩) hS.2.2 dX11_heap_60
          · skip
            refine lv_bipush (v := (-2)) hx hb dX11_heap_29 (by decide) ?_
            rw [hQ]
            have hP9 := hP.sub (ws' := [(zo13rrirrrr h0 sc kp ik bl go ch bo), (zo10ririliiriririr sc aTp (nI ts) aHl (nI nh) ed mi sn aHs (nI n) aWk (nI wz) aBk (nI bz) aFc), (zaR aHs cHs 8 fHs)]) [0, 1, 2] rfl
            have hD9 := hD.sub (ws' := [(zo13rrirrrr h0 sc kp ik bl go ch bo), (zo10ririliiriririr sc aTp (nI ts) aHl (nI nh) ed mi sn aHs (nI n) aWk (nI wz) aBk (nI bz) aFc), (zaR aHs cHs 8 fHs)]) [0, 1, 2] (by decide) rfl
            have hK9 := hK.sub (tys' := [(cHs, .object "MistHeaps$Heap")]) [0] rfl
            refine W.widen (k := 1) (n := 4) (by omega) (by omega) ?_
            exact W.iret (v := (-2)) hx hb hr (fun tQ htQ hWQ => ⟨⟨(-2), (n, fHs, [], []), rfl, ⟨hp_bad (by assumption) (fun q => absurd (lt6_le7 q) (by assumption)) (nI_pos (by omega)) (nI_nlt (a := 35) (by omega) (by omega)) (by first | exact Or.inl (by assumption) | exact Or.inr (Int32.not_le.mp (by assumption))), Or.inl ⟨by decide, rfl, rfl, rfl, rfl⟩⟩, by rw [htQ]; exact hP9, va_K.moved hWQ.alike hK9, hD9⟩, hS.F htQ⟩) hS.2.2 dX11_heap_31
      · skip
        refine lv_if_ne (tgt := 19) hx hb dX11_heap_14 (by decide) (fun c_37 => absurd c_37 (by decide)) (fun _ => ?_)
        refine lv_iconst (v := (-1)) hx hb dX11_heap_17 (by decide) ?_
        rw [hQ]
        have hP9 := hP.sub (ws' := [(zo13rrirrrr h0 sc kp ik bl go ch bo), (zo10ririliiriririr sc aTp (nI ts) aHl (nI nh) ed mi sn aHs (nI n) aWk (nI wz) aBk (nI bz) aFc), (zaR aHs cHs 8 fHs)]) [0, 1, 2] rfl
        have hD9 := hD.sub (ws' := [(zo13rrirrrr h0 sc kp ik bl go ch bo), (zo10ririliiriririr sc aTp (nI ts) aHl (nI nh) ed mi sn aHs (nI n) aWk (nI wz) aBk (nI bz) aFc), (zaR aHs cHs 8 fHs)]) [0, 1, 2] (by decide) rfl
        have hK9 := hK.sub (tys' := [(cHs, .object "MistHeaps$Heap")]) [0] rfl
        refine W.widen (k := 1) (n := 4) (by omega) (by omega) ?_
        exact W.iret (v := (-1)) hx hb hr (fun tQ htQ hWQ => ⟨⟨(-1), (n, fHs, [], []), rfl, ⟨hp_none (by first | exact Or.inl (Or.inl (by assumption)) | exact Or.inl (Or.inr (le7_lt6 (by assumption))) | exact Or.inr (hp_cell (by assumption))), Or.inl ⟨by decide, rfl, rfl, rfl, rfl⟩⟩, by rw [htQ]; exact hP9, va_K.moved hWQ.alike hK9, hD9⟩, hS.F htQ⟩) hS.2.2 dX11_heap_18

theorem kc_xHill_0 : ∀ w ∈ wsX110, w ∈ wsX11_hill := fun w h => List.mem_cons_of_mem _ (gin_wsX110 w h)
theorem kc_xHill_1 : (.fieldLink RX11 14 "MistHeaps" "scene" "LMistHeaps$Scene;" : Cond) ∈ wsX11_hill := kc_of 328 rfl rfl rfl
theorem kc_xHill_2 : ∀ w ∈ wsX80, w ∈ wsX11_hill := fun w h => List.mem_cons_of_mem _ (gin_wsX80 w h)
theorem kc_xHill_3 : (.fieldLink RX11 61 "MistHeaps$Scene" "hills" "I" : Cond) ∈ wsX11_hill := kc_of 159 rfl rfl rfl
theorem kc_xHill_4 : (.fieldLink RX11 28 "MistHeaps" "blank" "LMistHeaps$Hill;" : Cond) ∈ wsX11_hill := kc_of 331 rfl rfl rfl
theorem kc_xHill_5 : (.fieldLink RX11 57 "MistHeaps$Scene" "tape" "[I" : Cond) ∈ wsX11_hill := kc_of 153 rfl rfl rfl
theorem kc_xHill_6 : (.fieldLink RX11 53 "MistHeaps$Scene" "tapeSize" "I" : Cond) ∈ wsX11_hill := kc_of 154 rfl rfl rfl
theorem kc_xHill_7 : (.fieldLink RX11 68 "MistHeaps$Scene" "hill" "LMistHeaps$Hill;" : Cond) ∈ wsX11_hill := kc_of 157 rfl rfl rfl
theorem kc_xHill_8 : ∀ w ∈ wsX50, w ∈ wsX11_hill := fun w h => List.mem_cons_of_mem _ (gin_wsX50 w h)
theorem kc_xHill_9 : (.classLink RX11 25 RX5 : Cond) ∈ wsX11_hill := kc_of 214 rfl rfl rfl
theorem kc_xHill_10 : (.instantiable RX5 11 : Cond) ∈ wsX11_hill := kc_of 108 rfl rfl rfl
theorem kc_xHill_11 : (.initialized RX5 : Cond) ∈ wsX11_hill := kc_of 65 rfl rfl rfl
theorem kc_xHill_12 : (.methodLink RX11 27 yX5_init : Cond) ∈ wsX11_hill := kc_of 215 rfl rfl rfl
theorem kc_xHill_13 : (.instanceMethod yX5_init : Cond) ∈ wsX11_hill := kc_of 110 rfl rfl rfl
set_option maxHeartbeats 4000000 in
set_option maxRecDepth 100000 in
theorem c_xHill (l : Launch) (dC : Nat → ClassId) (dI : Nat → Nat → Nat) (sK sV : Nat → Nat) (h0 : Nat) (sc : Nat) (kp : Nat) (bl : Nat) (go : Nat) (ch : Nat) (bo : Nat) (aTp : Nat) (aHl : Nat) (aHs : Nat) (aWk : Nat) (aBk : Nat) (aFc : Nat) (eW : Nat) (eA : Nat) (eE : Nat) (eC : Nat) (ts : Nat) (nh : Nat) (n : Nat) (wz : Nat) (bz : Nat) (ecl : Nat) (mi : Int32) (sn : Int32) (cdd : Int32) (szz : Int32) (att : Int32) (ik : Int32) (esg : Int32) (ed : Int64) (cTp : ClassId) (ceW : ClassId) (ceA : ClassId) (ceE : ClassId) (ceC : ClassId) (fTp : Nat → Int32) (feW : Nat → Int32) (feA : Nat → Int32) (feE : Nat → Int32) (feC : Nat → Int32) (etv : Value) (em : Nat) (tc : Nat → Nat) (sz : Nat) (hnh : nh ≤ 5) (hts0 : ts ≤ 100) (hcl : ecl ≤ 10) (hem : em ≤ 99) (zeE : ∀ k0, k0 < 10 → ∃ e0 : Nat, e0 ≤ 100 ∧ feE k0 = nI e0) (zeC : ∀ k0, k0 < 100 → okC (feC k0)) (gX : TX fTp ts tc) : Met l yX11_hill wsX11_hill ({ frames := 24, cells := 5, slots := 141, locals := 533 } : Room) (va_Pc [.ref h0] (fun U => U.heap.size = sz ∧ va_P (dC, dI) vwCl [(zo13rrirrrr h0 sc kp ik bl go ch bo), (zo10ririliiriririr sc aTp (nI ts) aHl (nI nh) ed mi sn aHs (nI n) aWk (nI wz) aBk (nI bz) aFc), (zaI aTp cTp 100 fTp), (zo7iirrrriviii bl esg (nI ecl) eW eA eE eC cdd etv szz att (nI em)), (zaI eW ceW 10 feW), (zaI eA ceA 10 feA), (zaI eE ceE 10 feE), (zaI eC ceC 100 feC)] U.heap ∧ va_K (dC, dI) vwCl [(cTp, .int), (ceW, .int), (ceA, .int), (ceE, .int), (ceC, .int)] U ∧ va_D (fun _ => True) [(zo13rrirrrr h0 sc kp ik bl go ch bo), (zo10ririliiriririr sc aTp (nI ts) aHl (nI nh) ed mi sn aHs (nI n) aWk (nI wz) aBk (nI bz) aFc), (zaI aTp cTp 100 fTp), (zo7iirrrriviii bl esg (nI ecl) eW eA eE eC cdd etv szz att (nI em)), (zaI eW ceW 10 feW), (zaI eA ceA 10 feA), (zaI eE ceE 10 feE), (zaI eC ceC 100 feC)] ∧ Gs sK sV (va_A [(zo13rrirrrr h0 sc kp ik bl go ch bo), (zo10ririliiriririr sc aTp (nI ts) aHl (nI nh) ed mi sn aHs (nI n) aWk (nI wz) aBk (nI bz) aFc), (zaI aTp cTp 100 fTp), (zo7iirrrriviii bl esg (nI ecl) eW eA eE eC cdd etv szz att (nI em)), (zaI eW ceW 10 feW), (zaI eA ceA 10 feA), (zaI eE ceE 10 feE), (zaI eC ceC 100 feC)] sz) U)) (va_Qi (fun (r : Int32) (u : (Nat) × (Nat) × (Nat) × (Nat) × (va_W) × (List (ClassId × FieldType))) => match u with | (bl9, ts9, aHl9, nh9, L9, K9) => nh9 ≤ 5 ∧ ts9 ≤ 100 ∧ ∃ (esg7 : Int32) (ecl7 : Nat) (cdd7 : Int32) (etv7 : Value) (szz7 : Int32) (att7 : Int32) (em7 : Nat) (feW7 : Nat → Int32) (feA7 : Nat → Int32) (feE7 : Nat → Int32) (feC7 : Nat → Int32), ((bl9 = bl ∧ aHl9 = aHl ∧ nh9 = nh ∧ L9 = [(zo7iirrrriviii bl esg7 (nI ecl7) eW eA eE eC cdd7 etv7 szz7 att7 (nI em7)), (zaI eW ceW 10 feW7), (zaI eA ceA 10 feA7), (zaI eE ceE 10 feE7), (zaI eC ceC 100 feC7)] ∧ K9 = [(ceW, .int), (ceA, .int), (ceE, .int), (ceC, .int)] ∧ ((nh = 5 ∧ r = -4 ∧ ts9 = ts) ∨ (nh < 5 ∧ ts9 = 0 ∧ ∃ q0 : Nat, r = -10 - nI q0 ∧ pHl tc ts = (none, q0)))) ∨ (aHl9 = bl ∧ nh9 = nh + 1 ∧ (nh < 5 ∧ ts9 = 0 ∧ r = nI nh ∧ ∃ C0 : List pCla, pHl tc ts = (some C0, ts) ∧ HC ecl7 esg7 feW7 feA7 feE7 feC7 C0) ∧ ∃ (qW qA qE qC : Nat) (cqW cqA cqE cqC : ClassId), L9 = [(zo7iirrrriniii bl9 3 0 qW qA qE qC 0 0 0 0), (zaI qW cqW 10 (fun _ => 0)), (zaI qA cqA 10 (fun _ => 0)), (zaI qE cqE 10 (fun _ => 0)), (zaI qC cqC 100 (fun _ => 0)), (zo7iirrrriviii bl esg7 (nI ecl7) eW eA eE eC cdd7 etv7 szz7 att7 (nI em7)), (zaI eW ceW 10 feW7), (zaI eA ceA 10 feA7), (zaI eE ceE 10 feE7), (zaI eC ceC 100 feC7)] ∧ K9 = [(cqW, .int), (cqA, .int), (cqE, .int), (cqC, .int), (ceW, .int), (ceA, .int), (ceE, .int), (ceC, .int)])) ∧ ecl7 ≤ 10 ∧ em7 ≤ 99 ∧ (∀ k0, k0 < 10 → ∃ e0 : Nat, e0 ≤ 100 ∧ feE7 k0 = nI e0) ∧ ∀ k0, k0 < 100 → okC (feC7 k0)) (fun (u : (Nat) × (Nat) × (Nat) × (Nat) × (va_W) × (List (ClassId × FieldType))) (t : State) => match u with | (bl9, ts9, aHl9, nh9, L9, K9) => va_P (dC, dI) vwCl ([(zo13rrirrrr h0 sc kp ik bl9 go ch bo), (zo10ririliiriririr sc aTp (nI ts9) aHl9 (nI nh9) ed mi sn aHs (nI n) aWk (nI wz) aBk (nI bz) aFc), (zaI aTp cTp 100 fTp)] ++ L9) t.heap ∧ va_K (dC, dI) vwCl ([(cTp, .int)] ++ K9) t ∧ va_D (va_A [(zo13rrirrrr h0 sc kp ik bl go ch bo), (zo10ririliiriririr sc aTp (nI ts) aHl (nI nh) ed mi sn aHs (nI n) aWk (nI wz) aBk (nI bz) aFc), (zaI aTp cTp 100 fTp), (zo7iirrrriviii bl esg (nI ecl) eW eA eE eC cdd etv szz att (nI em)), (zaI eW ceW 10 feW), (zaI eA ceA 10 feA), (zaI eE ceE 10 feE), (zaI eC ceC 100 feC)] sz) ([(zo13rrirrrr h0 sc kp ik bl9 go ch bo), (zo10ririliiriririr sc aTp (nI ts9) aHl9 (nI nh9) ed mi sn aHs (nI n) aWk (nI wz) aBk (nI bz) aFc), (zaI aTp cTp 100 fTp)] ++ L9)) (va_A [(zo13rrirrrr h0 sc kp ik bl go ch bo), (zo10ririliiriririr sc aTp (nI ts) aHl (nI nh) ed mi sn aHs (nI n) aWk (nI wz) aBk (nI bz) aFc), (zaI aTp cTp 100 fTp), (zo7iirrrriviii bl esg (nI ecl) eW eA eE eC cdd etv szz att (nI em)), (zaI eW ceW 10 feW), (zaI eA ceA 10 feA), (zaI eE ceE 10 feE), (zaI eC ceC 100 feC)] sz)) 5 141 (va_A [(zo13rrirrrr h0 sc kp ik bl go ch bo), (zo10ririliiriririr sc aTp (nI ts) aHl (nI nh) ed mi sn aHs (nI n) aWk (nI wz) aBk (nI bz) aFc), (zaI aTp cTp 100 fTp), (zo7iirrrriviii bl esg (nI ecl) eW eA eE eC cdd etv szz att (nI em)), (zaI eW ceW 10 feW), (zaI eA ceA 10 feA), (zaI eE ceE 10 feE), (zaI eC ceC 100 feC)] sz) := by
  refine met_ofQ (cc := cX11_hill) (maxL := 2) (ret := (some .int)) (by decide) rfl ?_
  intro p e s m args below meth c s₁ Q B hml hv hQ
  obtain ⟨rfl, hsz, hP, hK, hD0, hE⟩ := hv
  have hx := B.exec
  have hb := B.bytes
  have hr := B.returns
  have hts := atoms_spec (ws := wsX11_hill) B.pre
  have hown : s.vm.findClass RX11 = some m.cls := findClass_of_methodNamed B.named
  have hlocks := B.notSynchronized
  subst hsz
  have hD := hD0.self (sz := s.heap.size)
  generalize hAe : va_A [(zo13rrirrrr h0 sc kp ik bl go ch bo), (zo10ririliiriririr sc aTp (nI ts) aHl (nI nh) ed mi sn aHs (nI n) aWk (nI wz) aBk (nI bz) aFc), (zaI aTp cTp 100 fTp), (zo7iirrrriviii bl esg (nI ecl) eW eA eE eC cdd etv szz att (nI em)), (zaI eW ceW 10 feW), (zaI eA ceA 10 feA), (zaI eE ceE 10 feE), (zaI eC ceC 100 feC)] s.heap.size = A at hD hQ hE ⊢
  have hA : ∀ q : Nat, s.heap.size ≤ q → A q := fun q h => by rw [← hAe]; exact Or.inr h
  have hS : va_S A s.heap s.heap [] := va_S.rf
  have hl := lv_entry [.ref h0] (n := 2) (Nat.le_of_ble_eq_true rfl)
  rw [lg_entry_eq]
  generalize (lg_sl [.ref h0] ++ List.replicate (2 - (lg_sl [.ref h0]).length) Slot.unset).toArray = ls at hl ⊢
  generalize hag : ([.ref h0] : List Value).toArray = args at hts hQ ⊢
  have hl : lv_has ls 2 [(0, .ref h0)] := hl
  obtain ⟨H, hH⟩ : ∃ H : Heap, H = s.heap := ⟨_, rfl⟩
  rw [← hH] at hP
  rw [← hH]
  have hS : va_S A s.heap H [] := by rw [hH]; exact hS
  obtain ⟨locs, hlo⟩ : ∃ L : List Loc, L = [] := ⟨_, rfl⟩
  rw [← hlo] at hS
  rw [← hlo]
  clear hH hlo
  refine lv_aload_n hx hb dX11_hill_0 rfl (lv_at hl 0 rfl) ?_
  refine va_get (D := (dC, dI)) (ci := 13) (v := .ref sc) (C := RX11) (T := TX11) (N := 7) hx hb hts kc_xHill_0 hown hK hP 0 rfl rfl 0 (by decide) (hts (.fieldLink RX11 14 "MistHeaps" "scene" "LMistHeaps$Scene;") kc_xHill_1) (fun _ h9 => h9) rfl dX11_hill_1 ?_
  refine va_get (D := (dC, dI)) (ci := 10) (v := .int (nI nh)) (C := RX8) (T := TX8) (N := 14) hx hb hts kc_xHill_2 hown hK hP 1 rfl rfl 3 (by decide) (hts (.fieldLink RX11 61 "MistHeaps$Scene" "hills" "I") kc_xHill_3) (fun _ h9 => h9) rfl dX11_hill_4 ?_
  refine lv_iconst (v := 5) hx hb dX11_hill_7 (by decide) ?_
  refine lv_icmp_lt (tgt := 14) hx hb dX11_hill_8 (by decide) (fun c_1 => ?_) (fun c_1 => ?_)
  · skip
    have c_1 : nh < 5 := (nI_ltI (a := nh) (b := 5) (by omega) (by omega)).mp c_1
    refine lv_aload_n hx hb dX11_hill_14 rfl (lv_at hl 0 rfl) ?_
    refine va_get (D := (dC, dI)) (ci := 13) (v := .ref bl) (C := RX11) (T := TX11) (N := 7) hx hb hts kc_xHill_0 hown hK hP 0 rfl rfl 3 (by decide) (hts (.fieldLink RX11 28 "MistHeaps" "blank" "LMistHeaps$Hill;") kc_xHill_4) (fun _ h9 => h9) rfl dX11_hill_15 ?_
    refine lv_aload_n hx hb dX11_hill_18 rfl (lv_at hl 0 rfl) ?_
    refine va_get (D := (dC, dI)) (ci := 13) (v := .ref sc) (C := RX11) (T := TX11) (N := 7) hx hb hts kc_xHill_0 hown hK hP 0 rfl rfl 0 (by decide) (hts (.fieldLink RX11 14 "MistHeaps" "scene" "LMistHeaps$Scene;") kc_xHill_1) (fun _ h9 => h9) rfl dX11_hill_19 ?_
    refine va_get (D := (dC, dI)) (ci := 10) (v := .ref aTp) (C := RX8) (T := TX8) (N := 14) hx hb hts kc_xHill_2 hown hK hP 1 rfl rfl 0 (by decide) (hts (.fieldLink RX11 57 "MistHeaps$Scene" "tape" "[I") kc_xHill_5) (fun _ h9 => h9) rfl dX11_hill_22 ?_
    refine lv_aload_n hx hb dX11_hill_25 rfl (lv_at hl 0 rfl) ?_
    refine va_get (D := (dC, dI)) (ci := 13) (v := .ref sc) (C := RX11) (T := TX11) (N := 7) hx hb hts kc_xHill_0 hown hK hP 0 rfl rfl 0 (by decide) (hts (.fieldLink RX11 14 "MistHeaps" "scene" "LMistHeaps$Scene;") kc_xHill_1) (fun _ h9 => h9) rfl dX11_hill_26 ?_
    refine va_get (D := (dC, dI)) (ci := 10) (v := .int (nI ts)) (C := RX8) (T := TX8) (N := 14) hx hb hts kc_xHill_2 hown hK hP 1 rfl rfl 1 (by decide) (hts (.fieldLink RX11 53 "MistHeaps$Scene" "tapeSize" "I") kc_xHill_6) (fun _ h9 => h9) rfl dX11_hill_29 ?_
    have hPc := hP.sub (ws' := [(zo7iirrrriviii bl esg (nI ecl) eW eA eE eC cdd etv szz att (nI em)), (zaI aTp cTp 100 fTp), (zaI eW ceW 10 feW), (zaI eA ceA 10 feA), (zaI eE ceE 10 feE), (zaI eC ceC 100 feC)]) [3, 2, 4, 5, 6, 7] rfl
    have hDc := hD.sub (ws' := [(zo7iirrrriviii bl esg (nI ecl) eW eA eE eC cdd etv szz att (nI em)), (zaI aTp cTp 100 fTp), (zaI eW ceW 10 feW), (zaI eA ceA 10 feA), (zaI eE ceE 10 feE), (zaI eC ceC 100 feC)]) [3, 2, 4, 5, 6, 7] (by decide) rfl
    have hKc := hK.sub (tys' := [(cTp, .int), (ceW, .int), (ceA, .int), (ceE, .int), (ceC, .int)]) [0, 1, 2, 3, 4] rfl
    have hFc := va_free (wc := [(zo7iirrrriviii bl esg (nI ecl) eW eA eE eC cdd etv szz att (nI em)), (zaI aTp cTp 100 fTp), (zaI eW ceW 10 feW), (zaI eA ceA 10 feA), (zaI eE ceE 10 feE), (zaI eC ceC 100 feC)]) hD hS hA [3, 2, 4, 5, 6, 7] rfl
    refine va_calli (va_runV (As := [.ref aTp, .int (nI ts)]) (rest := []) ⟨hx, hb, hml, hown, hts⟩ (c_xRead l dC dI sK sV bl aTp eW eA eE eC ecl cdd szz att esg cTp ceW ceA ceE ceC fTp feW feA feE feC etv ts em tc H.size (by omega) (hcl) (hem) (zeE) (zeC) (gX)) (cwV 2 hts gX11_hill_X5_read rfl rfl rfl hd_yX5_read ⟨Nat.le_of_ble_eq_true rfl, Nat.le_of_ble_eq_true rfl⟩) ⟨fun a U g mk q => by obtain ⟨q0, q1, qP, qK, qD, qhE⟩ := q; exact ⟨q0, q1, qP, va_K.moved (u := U) (U := U.calling g mk a) (Vm.Alike.refl U.vm) qK, qD, qhE.same rfl rfl⟩, va_recv hK hP (ci := 7) (q := (RX5, TX5, 11)) (q0 := 3) rfl rfl, fun U hU hW => ⟨rfl, by rw [hU], by rw [hU]; exact hPc, va_K.moved hW.alike hKc, hDc.weaken (fun _ _ _ _ => trivial), hE.call hS hU hW (fun q h => hFc q h)⟩⟩ rfl rfl hl.1 rfl (lv_room (Nat.le_of_ble_eq_true rfl)) dX11_hill_32 ⟨Nat.le_of_ble_eq_true rfl, Nat.le_of_ble_eq_true rfl⟩) hS (fun q _ h => hFc q h) hFc (fun r_2 u tC H1 locs htC hvm hw_3 hB hz1 hk1 hS => ?_)
    obtain ⟨esg9_4, ecl9_5, ecd9_6, ep9_7, em9_8, feW9_9, feA9_10, feE9_11, feC9_12⟩ := u
    try dsimp only at hw_3 hB
    obtain ⟨hP1, hK1, hD1⟩ := hB
    rw [htC] at hP1
    have hK1 := va_K.moved hvm.symm hK1
    obtain ⟨hP, hD⟩ := va_join (wr := [(zo13rrirrrr h0 sc kp ik bl go ch bo), (zo10ririliiriririr sc aTp (nI ts) aHl (nI nh) ed mi sn aHs (nI n) aWk (nI wz) aBk (nI bz) aFc)]) (w1 := [(zo7iirrrririii bl esg9_4 (nI ecl9_5) eW eA eE eC (nI ecd9_6) aTp (nI ts) (nI ep9_7) (nI em9_8)), (zaI aTp cTp 100 fTp), (zaI eW ceW 10 feW9_9), (zaI eA ceA 10 feA9_10), (zaI eE ceE 10 feE9_11), (zaI eC ceC 100 feC9_12)]) hP hD [3, 2, 4, 5, 6, 7] [0, 1] rfl rfl (by decide) (by decide) hk1 hFc hP1 hD1
    have hK := (hK.sub (tys' := []) [] rfl).app hK1
    generalize H1 = H at hP hS ⊢
    have hP : va_P (dC, dI) vwCl [(zo13rrirrrr h0 sc kp ik bl go ch bo), (zo10ririliiriririr sc aTp (nI ts) aHl (nI nh) ed mi sn aHs (nI n) aWk (nI wz) aBk (nI bz) aFc), (zo7iirrrririii bl esg9_4 (nI ecl9_5) eW eA eE eC (nI ecd9_6) aTp (nI ts) (nI ep9_7) (nI em9_8)), (zaI aTp cTp 100 fTp), (zaI eW ceW 10 feW9_9), (zaI eA ceA 10 feA9_10), (zaI eE ceE 10 feE9_11), (zaI eC ceC 100 feC9_12)] H := hP
    have hD : va_D A [(zo13rrirrrr h0 sc kp ik bl go ch bo), (zo10ririliiriririr sc aTp (nI ts) aHl (nI nh) ed mi sn aHs (nI n) aWk (nI wz) aBk (nI bz) aFc), (zo7iirrrririii bl esg9_4 (nI ecl9_5) eW eA eE eC (nI ecd9_6) aTp (nI ts) (nI ep9_7) (nI em9_8)), (zaI aTp cTp 100 fTp), (zaI eW ceW 10 feW9_9), (zaI eA ceA 10 feA9_10), (zaI eE ceE 10 feE9_11), (zaI eC ceC 100 feC9_12)] := hD
    have hK : va_K (dC, dI) vwCl [(cTp, .int), (ceW, .int), (ceA, .int), (ceE, .int), (ceC, .int)] s := hK
    obtain ⟨⟨h_13, h_14, h_15, h_16⟩, hres⟩ := hw_3
    rcases hres with ⟨rfl, C0, eC0, hC0⟩ | ⟨q0, hq0, rfl, eC0⟩
    · skip
      refine lv_istore_n (lv' := [(1, .int (-1)), (0, .ref h0)]) hx hb dX11_hill_35 rfl hl (by decide) rfl (fun ls hl => ?_)
      refine lv_aload_n hx hb dX11_hill_36 rfl (lv_at hl 1 rfl) ?_
      refine va_get (D := (dC, dI)) (ci := 13) (v := .ref sc) (C := RX11) (T := TX11) (N := 7) hx hb hts kc_xHill_0 hown hK hP 0 rfl rfl 0 (by decide) (hts (.fieldLink RX11 14 "MistHeaps" "scene" "LMistHeaps$Scene;") kc_xHill_1) (fun _ h9 => h9) rfl dX11_hill_37 ?_
      refine lv_iconst (v := 0) hx hb dX11_hill_40 (by decide) ?_
      refine va_put (D := (dC, dI)) (ci := 10) (v := .int 0) (ty := .int) (C := RX8) (T := TX8) (N := 14) hx hb hts kc_xHill_2 tyX8 tyX8_ok nmX8 hown hK hP hD hS 1 rfl rfl 1 (by decide) (hts (.fieldLink RX11 53 "MistHeaps$Scene" "tapeSize" "I") kc_xHill_6) (fun _ h9 => h9) rfl (by decide +kernel) rfl rfl (Nat.le_of_ble_eq_true rfl) dX11_hill_41 (fun H locs hP hD hS => ?_)
      have hP : va_P (dC, dI) vwCl [(zo13rrirrrr h0 sc kp ik bl go ch bo), (zo10ririliiriririr sc aTp 0 aHl (nI nh) ed mi sn aHs (nI n) aWk (nI wz) aBk (nI bz) aFc), (zo7iirrrririii bl esg9_4 (nI ecl9_5) eW eA eE eC (nI ecd9_6) aTp (nI ts) (nI ep9_7) (nI em9_8)), (zaI aTp cTp 100 fTp), (zaI eW ceW 10 feW9_9), (zaI eA ceA 10 feA9_10), (zaI eE ceE 10 feE9_11), (zaI eC ceC 100 feC9_12)] H := hP
      have hD : va_D A [(zo13rrirrrr h0 sc kp ik bl go ch bo), (zo10ririliiriririr sc aTp 0 aHl (nI nh) ed mi sn aHs (nI n) aWk (nI wz) aBk (nI bz) aFc), (zo7iirrrririii bl esg9_4 (nI ecl9_5) eW eA eE eC (nI ecd9_6) aTp (nI ts) (nI ep9_7) (nI em9_8)), (zaI aTp cTp 100 fTp), (zaI eW ceW 10 feW9_9), (zaI eA ceA 10 feA9_10), (zaI eE ceE 10 feE9_11), (zaI eC ceC 100 feC9_12)] := hD
      refine lv_iload_n hx hb dX11_hill_44 rfl (lv_at hl 0 rfl) ?_
      refine lv_iconst (v := (-1)) hx hb dX11_hill_45 (by decide) ?_
      refine lv_icmp_eq (tgt := 54) hx hb dX11_hill_46 (by decide) (fun _ => ?_) (fun c_17 => absurd c_17 (by decide))
      refine lv_aload_n hx hb dX11_hill_54 rfl (lv_at hl 1 rfl) ?_
      refine va_get (D := (dC, dI)) (ci := 13) (v := .ref sc) (C := RX11) (T := TX11) (N := 7) hx hb hts kc_xHill_0 hown hK hP 0 rfl rfl 0 (by decide) (hts (.fieldLink RX11 14 "MistHeaps" "scene" "LMistHeaps$Scene;") kc_xHill_1) (fun _ h9 => h9) rfl dX11_hill_55 ?_
      refine lv_aload_n hx hb dX11_hill_58 rfl (lv_at hl 1 rfl) ?_
      refine va_get (D := (dC, dI)) (ci := 13) (v := .ref bl) (C := RX11) (T := TX11) (N := 7) hx hb hts kc_xHill_0 hown hK hP 0 rfl rfl 3 (by decide) (hts (.fieldLink RX11 28 "MistHeaps" "blank" "LMistHeaps$Hill;") kc_xHill_4) (fun _ h9 => h9) rfl dX11_hill_59 ?_
      refine va_put (D := (dC, dI)) (ci := 10) (v := .ref bl) (ty := .object "MistHeaps$Hill") (C := RX8) (T := TX8) (N := 14) hx hb hts kc_xHill_2 tyX8 tyX8_ok nmX8 hown hK hP hD hS 1 rfl rfl 2 (by decide) (hts (.fieldLink RX11 68 "MistHeaps$Scene" "hill" "LMistHeaps$Hill;") kc_xHill_7) (fun _ h9 => h9) rfl (by decide +kernel) rfl rfl (Nat.le_of_ble_eq_true rfl) dX11_hill_62 (fun H locs hP hD hS => ?_)
      have hP : va_P (dC, dI) vwCl [(zo13rrirrrr h0 sc kp ik bl go ch bo), (zo10ririliiriririr sc aTp 0 bl (nI nh) ed mi sn aHs (nI n) aWk (nI wz) aBk (nI bz) aFc), (zo7iirrrririii bl esg9_4 (nI ecl9_5) eW eA eE eC (nI ecd9_6) aTp (nI ts) (nI ep9_7) (nI em9_8)), (zaI aTp cTp 100 fTp), (zaI eW ceW 10 feW9_9), (zaI eA ceA 10 feA9_10), (zaI eE ceE 10 feE9_11), (zaI eC ceC 100 feC9_12)] H := hP
      have hD : va_D A [(zo13rrirrrr h0 sc kp ik bl go ch bo), (zo10ririliiriririr sc aTp 0 bl (nI nh) ed mi sn aHs (nI n) aWk (nI wz) aBk (nI bz) aFc), (zo7iirrrririii bl esg9_4 (nI ecl9_5) eW eA eE eC (nI ecd9_6) aTp (nI ts) (nI ep9_7) (nI em9_8)), (zaI aTp cTp 100 fTp), (zaI eW ceW 10 feW9_9), (zaI eA ceA 10 feA9_10), (zaI eE ceE 10 feE9_11), (zaI eC ceC 100 feC9_12)] := hD
      refine lv_aload_n hx hb dX11_hill_65 rfl (lv_at hl 1 rfl) ?_
      refine va_new (ci := 7) (fs := [.int 0, .int 0, .null, .null, .null, .null, .int 0, .null, .int 0, .int 0, .int 0]) (C := RX5) (T := TX5) (N := 11) hx hb hts kc_xHill_8 tyX5 tyX5_ok hown (hts (.classLink RX11 25 RX5) kc_xHill_9) (hts (.instantiable RX5 11) kc_xHill_10) (hts (.initialized RX5) kc_xHill_11) hK hP hD hS hA rfl (fun j hj => by rcases (show j = 0 ∨ j = 1 ∨ j = 2 ∨ j = 3 ∨ j = 4 ∨ j = 5 ∨ j = 6 ∨ j = 7 ∨ j = 8 ∨ j = 9 ∨ j = 10 by omega) with rfl | rfl | rfl | rfl | rfl | rfl | rfl | rfl | rfl | rfl | rfl <;> rfl) (Nat.le_of_ble_eq_true rfl) (Nat.le_of_ble_eq_true rfl) dX11_hill_66 (fun q_18 H hP hD hS => ?_)
      have hP : va_P (dC, dI) vwCl [(zo13rrirrrr h0 sc kp ik bl go ch bo), (zo10ririliiriririr sc aTp 0 bl (nI nh) ed mi sn aHs (nI n) aWk (nI wz) aBk (nI bz) aFc), (zo7iirrrririii bl esg9_4 (nI ecl9_5) eW eA eE eC (nI ecd9_6) aTp (nI ts) (nI ep9_7) (nI em9_8)), (zaI aTp cTp 100 fTp), (zaI eW ceW 10 feW9_9), (zaI eA ceA 10 feA9_10), (zaI eE ceE 10 feE9_11), (zaI eC ceC 100 feC9_12), (zo7iinnnniniii q_18 0 0 0 0 0 0)] H := hP
      have hD : va_D A [(zo13rrirrrr h0 sc kp ik bl go ch bo), (zo10ririliiriririr sc aTp 0 bl (nI nh) ed mi sn aHs (nI n) aWk (nI wz) aBk (nI bz) aFc), (zo7iirrrririii bl esg9_4 (nI ecl9_5) eW eA eE eC (nI ecd9_6) aTp (nI ts) (nI ep9_7) (nI em9_8)), (zaI aTp cTp 100 fTp), (zaI eW ceW 10 feW9_9), (zaI eA ceA 10 feA9_10), (zaI eE ceE 10 feE9_11), (zaI eC ceC 100 feC9_12), (zo7iinnnniniii q_18 0 0 0 0 0 0)] := hD
      refine W.widen (k := 1) (n := 11) (by omega) (by omega) ?_
      refine lv_dup hx hb dX11_hill_69 rfl ?_
      have hPc := hP.sub (ws' := [(zo7iinnnniniii q_18 0 0 0 0 0 0)]) [8] rfl
      have hDc := hD.sub (ws' := [(zo7iinnnniniii q_18 0 0 0 0 0 0)]) [8] (by decide) rfl
      have hKc := hK.sub (tys' := []) [] rfl
      have hFc := va_free (wc := [(zo7iinnnniniii q_18 0 0 0 0 0 0)]) hD hS hA [8] rfl
      refine va_callv (va_runI (As := []) (rest := [.ref q_18, .ref h0]) ⟨hx, hb, hml, hown, hts⟩ (c_hillInit l dC dI q_18 H.size) (cwI 0 hts ggX11_hill_X5_init rfl rfl rfl (hts (.initialized RX5) kc_xHill_11) (hts (.methodLink RX11 27 yX5_init) kc_xHill_12) (hts (.instanceMethod yX5_init) kc_xHill_13) rfl (by decide +kernel) ⟨Nat.le_of_ble_eq_true rfl, Nat.le_of_ble_eq_true rfl⟩) ⟨fun a U g mk q => by obtain ⟨q0, q1, qP, qK, qD⟩ := q; exact ⟨q0, q1, qP, va_K.moved (u := U) (U := U.calling g mk a) (Vm.Alike.refl U.vm) qK, qD⟩, fun U hU hW => ⟨rfl, by rw [hU], by rw [hU]; exact hPc, va_K.moved hW.alike hKc, hDc.weaken (fun _ _ _ _ => trivial)⟩⟩ rfl rfl hl.1 rfl (lv_room (Nat.le_of_ble_eq_true rfl)) dX11_hill_70 ⟨Nat.le_of_ble_eq_true rfl, Nat.le_of_ble_eq_true rfl⟩) hS (fun q _ h => hFc q h) hFc (fun u tC H1 locs htC hvm hw_20 hB hz1 hk1 hS => ?_)
      obtain ⟨⟩ := u
      try dsimp only at hw_20 hB
      obtain ⟨bW_21, bA_22, bE_23, bC_24, cbW_25, cbA_26, cbE_27, cbC_28, hP1, hK1, hD1⟩ := hB
      rw [htC] at hP1
      have hK1 := va_K.moved hvm.symm hK1
      obtain ⟨hP, hD⟩ := va_join (wr := [(zo13rrirrrr h0 sc kp ik bl go ch bo), (zo10ririliiriririr sc aTp 0 bl (nI nh) ed mi sn aHs (nI n) aWk (nI wz) aBk (nI bz) aFc), (zo7iirrrririii bl esg9_4 (nI ecl9_5) eW eA eE eC (nI ecd9_6) aTp (nI ts) (nI ep9_7) (nI em9_8)), (zaI aTp cTp 100 fTp), (zaI eW ceW 10 feW9_9), (zaI eA ceA 10 feA9_10), (zaI eE ceE 10 feE9_11), (zaI eC ceC 100 feC9_12)]) (w1 := [(zo7iirrrriniii q_18 3 0 bW_21 bA_22 bE_23 bC_24 0 0 0 0), (zaI bW_21 cbW_25 10 (fun _ => 0)), (zaI bA_22 cbA_26 10 (fun _ => 0)), (zaI bE_23 cbE_27 10 (fun _ => 0)), (zaI bC_24 cbC_28 100 (fun _ => 0))]) hP hD [8] [0, 1, 2, 3, 4, 5, 6, 7] rfl rfl (by decide) (by decide) hk1 hFc hP1 hD1
      have hK := (hK.sub (tys' := [(cTp, .int), (ceW, .int), (ceA, .int), (ceE, .int), (ceC, .int)]) [0, 1, 2, 3, 4] rfl).app hK1
      generalize H1 = H at hP hS ⊢
      have hP : va_P (dC, dI) vwCl [(zo13rrirrrr h0 sc kp ik bl go ch bo), (zo10ririliiriririr sc aTp 0 bl (nI nh) ed mi sn aHs (nI n) aWk (nI wz) aBk (nI bz) aFc), (zo7iirrrririii bl esg9_4 (nI ecl9_5) eW eA eE eC (nI ecd9_6) aTp (nI ts) (nI ep9_7) (nI em9_8)), (zaI aTp cTp 100 fTp), (zaI eW ceW 10 feW9_9), (zaI eA ceA 10 feA9_10), (zaI eE ceE 10 feE9_11), (zaI eC ceC 100 feC9_12), (zo7iirrrriniii q_18 3 0 bW_21 bA_22 bE_23 bC_24 0 0 0 0), (zaI bW_21 cbW_25 10 (fun _ => 0)), (zaI bA_22 cbA_26 10 (fun _ => 0)), (zaI bE_23 cbE_27 10 (fun _ => 0)), (zaI bC_24 cbC_28 100 (fun _ => 0))] H := hP
      have hD : va_D A [(zo13rrirrrr h0 sc kp ik bl go ch bo), (zo10ririliiriririr sc aTp 0 bl (nI nh) ed mi sn aHs (nI n) aWk (nI wz) aBk (nI bz) aFc), (zo7iirrrririii bl esg9_4 (nI ecl9_5) eW eA eE eC (nI ecd9_6) aTp (nI ts) (nI ep9_7) (nI em9_8)), (zaI aTp cTp 100 fTp), (zaI eW ceW 10 feW9_9), (zaI eA ceA 10 feA9_10), (zaI eE ceE 10 feE9_11), (zaI eC ceC 100 feC9_12), (zo7iirrrriniii q_18 3 0 bW_21 bA_22 bE_23 bC_24 0 0 0 0), (zaI bW_21 cbW_25 10 (fun _ => 0)), (zaI bA_22 cbA_26 10 (fun _ => 0)), (zaI bE_23 cbE_27 10 (fun _ => 0)), (zaI bC_24 cbC_28 100 (fun _ => 0))] := hD
      have hK : va_K (dC, dI) vwCl [(cTp, .int), (ceW, .int), (ceA, .int), (ceE, .int), (ceC, .int), (cbW_25, .int), (cbA_26, .int), (cbE_27, .int), (cbC_28, .int)] s := hK
      refine W.widen (k := 5) (n := 141) (by omega) (by omega) ?_
      refine va_put (D := (dC, dI)) (ci := 13) (v := .ref q_18) (ty := .object "MistHeaps$Hill") (C := RX11) (T := TX11) (N := 7) hx hb hts kc_xHill_0 tyX11 tyX11_ok nmX11 hown hK hP hD hS 0 rfl rfl 3 (by decide) (hts (.fieldLink RX11 28 "MistHeaps" "blank" "LMistHeaps$Hill;") kc_xHill_4) (fun _ h9 => h9) rfl (by decide +kernel) rfl rfl (Nat.le_of_ble_eq_true rfl) dX11_hill_73 (fun H locs hP hD hS => ?_)
      have hP : va_P (dC, dI) vwCl [(zo13rrirrrr h0 sc kp ik q_18 go ch bo), (zo10ririliiriririr sc aTp 0 bl (nI nh) ed mi sn aHs (nI n) aWk (nI wz) aBk (nI bz) aFc), (zo7iirrrririii bl esg9_4 (nI ecl9_5) eW eA eE eC (nI ecd9_6) aTp (nI ts) (nI ep9_7) (nI em9_8)), (zaI aTp cTp 100 fTp), (zaI eW ceW 10 feW9_9), (zaI eA ceA 10 feA9_10), (zaI eE ceE 10 feE9_11), (zaI eC ceC 100 feC9_12), (zo7iirrrriniii q_18 3 0 bW_21 bA_22 bE_23 bC_24 0 0 0 0), (zaI bW_21 cbW_25 10 (fun _ => 0)), (zaI bA_22 cbA_26 10 (fun _ => 0)), (zaI bE_23 cbE_27 10 (fun _ => 0)), (zaI bC_24 cbC_28 100 (fun _ => 0))] H := hP
      have hD : va_D A [(zo13rrirrrr h0 sc kp ik q_18 go ch bo), (zo10ririliiriririr sc aTp 0 bl (nI nh) ed mi sn aHs (nI n) aWk (nI wz) aBk (nI bz) aFc), (zo7iirrrririii bl esg9_4 (nI ecl9_5) eW eA eE eC (nI ecd9_6) aTp (nI ts) (nI ep9_7) (nI em9_8)), (zaI aTp cTp 100 fTp), (zaI eW ceW 10 feW9_9), (zaI eA ceA 10 feA9_10), (zaI eE ceE 10 feE9_11), (zaI eC ceC 100 feC9_12), (zo7iirrrriniii q_18 3 0 bW_21 bA_22 bE_23 bC_24 0 0 0 0), (zaI bW_21 cbW_25 10 (fun _ => 0)), (zaI bA_22 cbA_26 10 (fun _ => 0)), (zaI bE_23 cbE_27 10 (fun _ => 0)), (zaI bC_24 cbC_28 100 (fun _ => 0))] := hD
      refine lv_aload_n hx hb dX11_hill_76 rfl (lv_at hl 1 rfl) ?_
      refine va_get (D := (dC, dI)) (ci := 13) (v := .ref sc) (C := RX11) (T := TX11) (N := 7) hx hb hts kc_xHill_0 hown hK hP 0 rfl rfl 0 (by decide) (hts (.fieldLink RX11 14 "MistHeaps" "scene" "LMistHeaps$Scene;") kc_xHill_1) (fun _ h9 => h9) rfl dX11_hill_77 ?_
      refine lv_dup hx hb dX11_hill_80 rfl ?_
      refine va_get (D := (dC, dI)) (ci := 10) (v := .int (nI nh)) (C := RX8) (T := TX8) (N := 14) hx hb hts kc_xHill_2 hown hK hP 1 rfl rfl 3 (by decide) (hts (.fieldLink RX11 61 "MistHeaps$Scene" "hills" "I") kc_xHill_3) (fun _ h9 => h9) rfl dX11_hill_81 ?_
      refine lv_iconst (v := 1) hx hb dX11_hill_84 (by decide) ?_
      refine lv_iadd hx hb dX11_hill_85 ?_
      refine qi_as (y := nI (nh + 1)) (nI_add nh 1) ?_
      refine va_put (D := (dC, dI)) (ci := 10) (v := .int (nI (nh + 1))) (ty := .int) (C := RX8) (T := TX8) (N := 14) hx hb hts kc_xHill_2 tyX8 tyX8_ok nmX8 hown hK hP hD hS 1 rfl rfl 3 (by decide) (hts (.fieldLink RX11 61 "MistHeaps$Scene" "hills" "I") kc_xHill_3) (fun _ h9 => h9) rfl (by decide +kernel) rfl rfl (Nat.le_of_ble_eq_true rfl) dX11_hill_86 (fun H locs hP hD hS => ?_)
      have hP : va_P (dC, dI) vwCl [(zo13rrirrrr h0 sc kp ik q_18 go ch bo), (zo10ririliiriririr sc aTp 0 bl (nI (nh + 1)) ed mi sn aHs (nI n) aWk (nI wz) aBk (nI bz) aFc), (zo7iirrrririii bl esg9_4 (nI ecl9_5) eW eA eE eC (nI ecd9_6) aTp (nI ts) (nI ep9_7) (nI em9_8)), (zaI aTp cTp 100 fTp), (zaI eW ceW 10 feW9_9), (zaI eA ceA 10 feA9_10), (zaI eE ceE 10 feE9_11), (zaI eC ceC 100 feC9_12), (zo7iirrrriniii q_18 3 0 bW_21 bA_22 bE_23 bC_24 0 0 0 0), (zaI bW_21 cbW_25 10 (fun _ => 0)), (zaI bA_22 cbA_26 10 (fun _ => 0)), (zaI bE_23 cbE_27 10 (fun _ => 0)), (zaI bC_24 cbC_28 100 (fun _ => 0))] H := hP
      have hD : va_D A [(zo13rrirrrr h0 sc kp ik q_18 go ch bo), (zo10ririliiriririr sc aTp 0 bl (nI (nh + 1)) ed mi sn aHs (nI n) aWk (nI wz) aBk (nI bz) aFc), (zo7iirrrririii bl esg9_4 (nI ecl9_5) eW eA eE eC (nI ecd9_6) aTp (nI ts) (nI ep9_7) (nI em9_8)), (zaI aTp cTp 100 fTp), (zaI eW ceW 10 feW9_9), (zaI eA ceA 10 feA9_10), (zaI eE ceE 10 feE9_11), (zaI eC ceC 100 feC9_12), (zo7iirrrriniii q_18 3 0 bW_21 bA_22 bE_23 bC_24 0 0 0 0), (zaI bW_21 cbW_25 10 (fun _ => 0)), (zaI bA_22 cbA_26 10 (fun _ => 0)), (zaI bE_23 cbE_27 10 (fun _ => 0)), (zaI bC_24 cbC_28 100 (fun _ => 0))] := hD
      refine lv_aload_n hx hb dX11_hill_89 rfl (lv_at hl 1 rfl) ?_
      refine va_get (D := (dC, dI)) (ci := 13) (v := .ref sc) (C := RX11) (T := TX11) (N := 7) hx hb hts kc_xHill_0 hown hK hP 0 rfl rfl 0 (by decide) (hts (.fieldLink RX11 14 "MistHeaps" "scene" "LMistHeaps$Scene;") kc_xHill_1) (fun _ h9 => h9) rfl dX11_hill_90 ?_
      refine va_get (D := (dC, dI)) (ci := 10) (v := .int (nI (nh + 1))) (C := RX8) (T := TX8) (N := 14) hx hb hts kc_xHill_2 hown hK hP 1 rfl rfl 3 (by decide) (hts (.fieldLink RX11 61 "MistHeaps$Scene" "hills" "I") kc_xHill_3) (fun _ h9 => h9) rfl dX11_hill_93 ?_
      refine lv_iconst (v := 1) hx hb dX11_hill_96 (by decide) ?_
      refine lv_isub hx hb dX11_hill_97 ?_
      refine qi_as (y := nI ((nh + 1) - 1)) (pk_sub (a := nh + 1) (b := 1) (by omega)) ?_
      rw [hQ]
      have hP9 := hP.sub (ws' := [(zo13rrirrrr h0 sc kp ik q_18 go ch bo), (zo10ririliiriririr sc aTp 0 bl (nI (nh + 1)) ed mi sn aHs (nI n) aWk (nI wz) aBk (nI bz) aFc), (zaI aTp cTp 100 fTp), (zo7iirrrriniii q_18 3 0 bW_21 bA_22 bE_23 bC_24 0 0 0 0), (zaI bW_21 cbW_25 10 (fun _ => 0)), (zaI bA_22 cbA_26 10 (fun _ => 0)), (zaI bE_23 cbE_27 10 (fun _ => 0)), (zaI bC_24 cbC_28 100 (fun _ => 0)), (zo7iirrrririii bl esg9_4 (nI ecl9_5) eW eA eE eC (nI ecd9_6) aTp (nI ts) (nI ep9_7) (nI em9_8)), (zaI eW ceW 10 feW9_9), (zaI eA ceA 10 feA9_10), (zaI eE ceE 10 feE9_11), (zaI eC ceC 100 feC9_12)]) [0, 1, 3, 8, 9, 10, 11, 12, 2, 4, 5, 6, 7] rfl
      have hD9 := hD.sub (ws' := [(zo13rrirrrr h0 sc kp ik q_18 go ch bo), (zo10ririliiriririr sc aTp 0 bl (nI (nh + 1)) ed mi sn aHs (nI n) aWk (nI wz) aBk (nI bz) aFc), (zaI aTp cTp 100 fTp), (zo7iirrrriniii q_18 3 0 bW_21 bA_22 bE_23 bC_24 0 0 0 0), (zaI bW_21 cbW_25 10 (fun _ => 0)), (zaI bA_22 cbA_26 10 (fun _ => 0)), (zaI bE_23 cbE_27 10 (fun _ => 0)), (zaI bC_24 cbC_28 100 (fun _ => 0)), (zo7iirrrririii bl esg9_4 (nI ecl9_5) eW eA eE eC (nI ecd9_6) aTp (nI ts) (nI ep9_7) (nI em9_8)), (zaI eW ceW 10 feW9_9), (zaI eA ceA 10 feA9_10), (zaI eE ceE 10 feE9_11), (zaI eC ceC 100 feC9_12)]) [0, 1, 3, 8, 9, 10, 11, 12, 2, 4, 5, 6, 7] (by decide) rfl
      have hK9 := hK.sub (tys' := [(cTp, .int), (cbW_25, .int), (cbA_26, .int), (cbE_27, .int), (cbC_28, .int), (ceW, .int), (ceA, .int), (ceE, .int), (ceC, .int)]) [0, 5, 6, 7, 8, 1, 2, 3, 4] rfl
      refine W.widen (k := 5) (n := 141) (by omega) (by omega) ?_
      exact W.iret (v := nI ((nh + 1) - 1)) hx hb hr (fun tQ htQ hWQ => ⟨⟨(nI ((nh + 1) - 1)), (q_18, 0, bl, (nh + 1), [(zo7iirrrriniii q_18 3 0 bW_21 bA_22 bE_23 bC_24 0 0 0 0), (zaI bW_21 cbW_25 10 (fun _ => 0)), (zaI bA_22 cbA_26 10 (fun _ => 0)), (zaI bE_23 cbE_27 10 (fun _ => 0)), (zaI bC_24 cbC_28 100 (fun _ => 0)), (zo7iirrrririii bl esg9_4 (nI ecl9_5) eW eA eE eC (nI ecd9_6) aTp (nI ts) (nI ep9_7) (nI em9_8)), (zaI eW ceW 10 feW9_9), (zaI eA ceA 10 feA9_10), (zaI eE ceE 10 feE9_11), (zaI eC ceC 100 feC9_12)], [(cbW_25, .int), (cbA_26, .int), (cbE_27, .int), (cbC_28, .int), (ceW, .int), (ceA, .int), (ceE, .int), (ceC, .int)]), rfl, ⟨by omega, by omega, (esg9_4), (ecl9_5), (nI ecd9_6), (.ref aTp), (nI ts), (nI ep9_7), (em9_8), (feW9_9), (feA9_10), (feE9_11), (feC9_12), Or.inr ⟨rfl, rfl, ⟨by omega, rfl, rfl, C0, eC0, hC0⟩, bW_21, bA_22, bE_23, bC_24, cbW_25, cbA_26, cbE_27, cbC_28, rfl, rfl⟩, by omega, by omega, h_15, h_16⟩, by rw [htQ]; exact hP9, va_K.moved hWQ.alike hK9, hD9⟩, hS.F htQ⟩) hS.2.2 dX11_hill_98
    · skip
      refine lv_istore_n (lv' := [(1, .int (nI q0)), (0, .ref h0)]) hx hb dX11_hill_35 rfl hl (by decide) rfl (fun ls hl => ?_)
      refine lv_aload_n hx hb dX11_hill_36 rfl (lv_at hl 1 rfl) ?_
      refine va_get (D := (dC, dI)) (ci := 13) (v := .ref sc) (C := RX11) (T := TX11) (N := 7) hx hb hts kc_xHill_0 hown hK hP 0 rfl rfl 0 (by decide) (hts (.fieldLink RX11 14 "MistHeaps" "scene" "LMistHeaps$Scene;") kc_xHill_1) (fun _ h9 => h9) rfl dX11_hill_37 ?_
      refine lv_iconst (v := 0) hx hb dX11_hill_40 (by decide) ?_
      refine va_put (D := (dC, dI)) (ci := 10) (v := .int 0) (ty := .int) (C := RX8) (T := TX8) (N := 14) hx hb hts kc_xHill_2 tyX8 tyX8_ok nmX8 hown hK hP hD hS 1 rfl rfl 1 (by decide) (hts (.fieldLink RX11 53 "MistHeaps$Scene" "tapeSize" "I") kc_xHill_6) (fun _ h9 => h9) rfl (by decide +kernel) rfl rfl (Nat.le_of_ble_eq_true rfl) dX11_hill_41 (fun H locs hP hD hS => ?_)
      have hP : va_P (dC, dI) vwCl [(zo13rrirrrr h0 sc kp ik bl go ch bo), (zo10ririliiriririr sc aTp 0 aHl (nI nh) ed mi sn aHs (nI n) aWk (nI wz) aBk (nI bz) aFc), (zo7iirrrririii bl esg9_4 (nI ecl9_5) eW eA eE eC (nI ecd9_6) aTp (nI ts) (nI ep9_7) (nI em9_8)), (zaI aTp cTp 100 fTp), (zaI eW ceW 10 feW9_9), (zaI eA ceA 10 feA9_10), (zaI eE ceE 10 feE9_11), (zaI eC ceC 100 feC9_12)] H := hP
      have hD : va_D A [(zo13rrirrrr h0 sc kp ik bl go ch bo), (zo10ririliiriririr sc aTp 0 aHl (nI nh) ed mi sn aHs (nI n) aWk (nI wz) aBk (nI bz) aFc), (zo7iirrrririii bl esg9_4 (nI ecl9_5) eW eA eE eC (nI ecd9_6) aTp (nI ts) (nI ep9_7) (nI em9_8)), (zaI aTp cTp 100 fTp), (zaI eW ceW 10 feW9_9), (zaI eA ceA 10 feA9_10), (zaI eE ceE 10 feE9_11), (zaI eC ceC 100 feC9_12)] := hD
      refine lv_iload_n hx hb dX11_hill_44 rfl (lv_at hl 0 rfl) ?_
      refine lv_iconst (v := (-1)) hx hb dX11_hill_45 (by decide) ?_
      refine lv_icmp_eq (tgt := 54) hx hb dX11_hill_46 (by decide) (fun c_29 => absurd c_29 (nI_nm1 (by omega))) (fun c_29 => ?_)
      refine lv_bipush (v := (-10)) hx hb dX11_hill_49 (by decide) ?_
      refine lv_iload_n hx hb dX11_hill_51 rfl (lv_at hl 0 rfl) ?_
      refine lv_isub hx hb dX11_hill_52 ?_
      rw [hQ]
      have hP9 := hP.sub (ws' := [(zo13rrirrrr h0 sc kp ik bl go ch bo), (zo10ririliiriririr sc aTp 0 aHl (nI nh) ed mi sn aHs (nI n) aWk (nI wz) aBk (nI bz) aFc), (zaI aTp cTp 100 fTp), (zo7iirrrririii bl esg9_4 (nI ecl9_5) eW eA eE eC (nI ecd9_6) aTp (nI ts) (nI ep9_7) (nI em9_8)), (zaI eW ceW 10 feW9_9), (zaI eA ceA 10 feA9_10), (zaI eE ceE 10 feE9_11), (zaI eC ceC 100 feC9_12)]) [0, 1, 3, 2, 4, 5, 6, 7] rfl
      have hD9 := hD.sub (ws' := [(zo13rrirrrr h0 sc kp ik bl go ch bo), (zo10ririliiriririr sc aTp 0 aHl (nI nh) ed mi sn aHs (nI n) aWk (nI wz) aBk (nI bz) aFc), (zaI aTp cTp 100 fTp), (zo7iirrrririii bl esg9_4 (nI ecl9_5) eW eA eE eC (nI ecd9_6) aTp (nI ts) (nI ep9_7) (nI em9_8)), (zaI eW ceW 10 feW9_9), (zaI eA ceA 10 feA9_10), (zaI eE ceE 10 feE9_11), (zaI eC ceC 100 feC9_12)]) [0, 1, 3, 2, 4, 5, 6, 7] (by decide) rfl
      have hK9 := hK.sub (tys' := [(cTp, .int), (ceW, .int), (ceA, .int), (ceE, .int), (ceC, .int)]) [0, 1, 2, 3, 4] rfl
      refine W.widen (k := 5) (n := 141) (by omega) (by omega) ?_
      exact W.iret (v := (-10) - (nI q0)) hx hb hr (fun tQ htQ hWQ => ⟨⟨((-10) - (nI q0)), (bl, 0, aHl, nh, [(zo7iirrrririii bl esg9_4 (nI ecl9_5) eW eA eE eC (nI ecd9_6) aTp (nI ts) (nI ep9_7) (nI em9_8)), (zaI eW ceW 10 feW9_9), (zaI eA ceA 10 feA9_10), (zaI eE ceE 10 feE9_11), (zaI eC ceC 100 feC9_12)], [(ceW, .int), (ceA, .int), (ceE, .int), (ceC, .int)]), rfl, ⟨by omega, by omega, (esg9_4), (ecl9_5), (nI ecd9_6), (.ref aTp), (nI ts), (nI ep9_7), (em9_8), (feW9_9), (feA9_10), (feE9_11), (feC9_12), Or.inl ⟨rfl, rfl, rfl, rfl, rfl, Or.inr ⟨by omega, rfl, q0, rfl, eC0⟩⟩, by omega, by omega, h_15, h_16⟩, by rw [htQ]; exact hP9, va_K.moved hWQ.alike hK9, hD9⟩, hS.F htQ⟩) hS.2.2 dX11_hill_53
  · skip
    have c_1 : ¬ nh < 5 := fun q => c_1 ((nI_ltI (a := nh) (b := 5) (by omega) (by omega)).mpr q)
    refine lv_bipush (v := (-4)) hx hb dX11_hill_11 (by decide) ?_
    rw [hQ]
    have hP9 := hP.sub (ws' := [(zo13rrirrrr h0 sc kp ik bl go ch bo), (zo10ririliiriririr sc aTp (nI ts) aHl (nI nh) ed mi sn aHs (nI n) aWk (nI wz) aBk (nI bz) aFc), (zaI aTp cTp 100 fTp), (zo7iirrrriviii bl esg (nI ecl) eW eA eE eC cdd etv szz att (nI em)), (zaI eW ceW 10 feW), (zaI eA ceA 10 feA), (zaI eE ceE 10 feE), (zaI eC ceC 100 feC)]) [0, 1, 2, 3, 4, 5, 6, 7] rfl
    have hD9 := hD.sub (ws' := [(zo13rrirrrr h0 sc kp ik bl go ch bo), (zo10ririliiriririr sc aTp (nI ts) aHl (nI nh) ed mi sn aHs (nI n) aWk (nI wz) aBk (nI bz) aFc), (zaI aTp cTp 100 fTp), (zo7iirrrriviii bl esg (nI ecl) eW eA eE eC cdd etv szz att (nI em)), (zaI eW ceW 10 feW), (zaI eA ceA 10 feA), (zaI eE ceE 10 feE), (zaI eC ceC 100 feC)]) [0, 1, 2, 3, 4, 5, 6, 7] (by decide) rfl
    have hK9 := hK.sub (tys' := [(cTp, .int), (ceW, .int), (ceA, .int), (ceE, .int), (ceC, .int)]) [0, 1, 2, 3, 4] rfl
    refine W.widen (k := 5) (n := 141) (by omega) (by omega) ?_
    exact W.iret (v := (-4)) hx hb hr (fun tQ htQ hWQ => ⟨⟨(-4), (bl, ts, aHl, nh, [(zo7iirrrriviii bl esg (nI ecl) eW eA eE eC cdd etv szz att (nI em)), (zaI eW ceW 10 feW), (zaI eA ceA 10 feA), (zaI eE ceE 10 feE), (zaI eC ceC 100 feC)], [(ceW, .int), (ceA, .int), (ceE, .int), (ceC, .int)]), rfl, ⟨by omega, by omega, (esg), (ecl), (cdd), (etv), (szz), (att), (em), (feW), (feA), (feE), (feC), Or.inl ⟨rfl, rfl, rfl, rfl, rfl, Or.inl ⟨by omega, rfl, rfl⟩⟩, by omega, by omega, zeE, zeC⟩, by rw [htQ]; exact hP9, va_K.moved hWQ.alike hK9, hD9⟩, hS.F htQ⟩) hS.2.2 dX11_hill_13
