theorem ggX12_factor_X12_here : GoodIn wsX12_factor wsX12_here := gga_of 1229 rfl rfl rfl
theorem gX12_factor_X12_here : GoodIn wsX12_factor (wsV RX12 69 RX12 yX12_here wsX12_here) := goodIn_app (ggh_of [1226, 1228, 22, 72] rfl rfl rfl) ggX12_factor_X12_here
theorem ggX12_factor_X12_factor : GoodIn wsX12_factor wsX12_factor := gga_of 1264 rfl rfl rfl
theorem gX12_factor_X12_factor : GoodIn wsX12_factor (wsV RX12 92 RX12 yX12_factor wsX12_factor) := goodIn_app (ggh_of [1261, 1263, 30, 72] rfl rfl rfl) ggX12_factor_X12_factor
theorem ggX12_factor_X12_emits : GoodIn wsX12_factor wsX12_emits := gga_of 1268 rfl rfl rfl
theorem gX12_factor_X12_emits : GoodIn wsX12_factor (wsV RX12 95 RX12 yX12_emits wsX12_emits) := goodIn_app (ggh_of [1265, 1267, 31, 72] rfl rfl rfl) ggX12_factor_X12_emits
theorem ggX12_factor_X12_among : GoodIn wsX12_factor wsX12_among := gga_of 1273 rfl rfl rfl
theorem gX12_factor_X12_among : GoodIn wsX12_factor (wsV RX12 103 RX12 yX12_among wsX12_among) := goodIn_app (ggh_of [1270, 1272, 32, 72] rfl rfl rfl) ggX12_factor_X12_among
theorem ggX12_factor_X12_figures : GoodIn wsX12_factor wsX12_figures := gga_of 1252 rfl rfl rfl
theorem gX12_factor_X12_figures : GoodIn wsX12_factor (wsV RX12 109 RX12 yX12_figures wsX12_figures) := goodIn_app (ggh_of [1249, 1251, 27, 72] rfl rfl rfl) ggX12_factor_X12_figures
theorem ggX12_factor_X12_some : GoodIn wsX12_factor wsX12_some := gga_of 1256 rfl rfl rfl
theorem gX12_factor_X12_some : GoodIn wsX12_factor (wsV RX12 98 RX12 yX12_some wsX12_some) := goodIn_app (ggh_of [1253, 1255, 28, 72] rfl rfl rfl) ggX12_factor_X12_some
theorem ggX12_factor_X12_must : GoodIn wsX12_factor wsX12_must := gga_of 1237 rfl rfl rfl
theorem gX12_factor_X12_must : GoodIn wsX12_factor (wsV RX12 82 RX12 yX12_must wsX12_must) := goodIn_app (ggh_of [1234, 1236, 24, 72] rfl rfl rfl) ggX12_factor_X12_must
theorem ggX12_every_X12_here : GoodIn wsX12_every wsX12_here := gga_of 1229 rfl rfl rfl
theorem gX12_every_X12_here : GoodIn wsX12_every (wsV RX12 69 RX12 yX12_here wsX12_here) := goodIn_app (ggh_of [1226, 1228, 22, 72] rfl rfl rfl) ggX12_every_X12_here
theorem ggX12_every_X12_emits : GoodIn wsX12_every wsX12_emits := gga_of 1268 rfl rfl rfl
theorem gX12_every_X12_emits : GoodIn wsX12_every (wsV RX12 95 RX12 yX12_emits wsX12_emits) := goodIn_app (ggh_of [1265, 1267, 31, 72] rfl rfl rfl) ggX12_every_X12_emits
theorem ggX12_some_X12_here : GoodIn wsX12_some wsX12_here := gga_of 1229 rfl rfl rfl
theorem gX12_some_X12_here : GoodIn wsX12_some (wsV RX12 69 RX12 yX12_here wsX12_here) := goodIn_app (ggh_of [1226, 1228, 22, 72] rfl rfl rfl) ggX12_some_X12_here
theorem ggX12_some_X12_emits : GoodIn wsX12_some wsX12_emits := gga_of 1268 rfl rfl rfl
theorem gX12_some_X12_emits : GoodIn wsX12_some (wsV RX12 95 RX12 yX12_emits wsX12_emits) := goodIn_app (ggh_of [1265, 1267, 31, 72] rfl rfl rfl) ggX12_some_X12_emits
noncomputable def dk12blev_cX12_factor_0 : List (Nat × Instr × Nat) := [(8, .aload_n 0, 1), (9, .invokevirtual 69, 3), (12, .istore_n 1, 1), (13, .iload_n 1, 1), (14, .bipush 33, 2), (16, .if_icmp .eq 9, 3), (25, .aload_n 0, 1), (26, .aload_n 0, 1), (27, .getfield 89, 3), (30, .iconst 5, 1), (31, .if_icmp .ne 7, 3), (34, .iconst 1, 1), (35, .goto 4, 3), (39, .putfield 65, 3), (42, .aload_n 0, 1), (43, .dup, 1), (44, .getfield 89, 3), (47, .iconst 1, 1), (48, .iadd, 1), (49, .putfield 89, 3), (52, .aload_n 0, 1), (53, .dup, 1), (54, .getfield 59, 3), (57, .aload_n 0, 1), (58, .getfield 65, 3), (61, .ifCond .eq 7, 3), (64, .iconst 0, 1), (65, .goto 4, 3), (69, .iadd, 1), (70, .putfield 59, 3), (73, .iload_n 1, 1), (74, .bipush 33, 2), (76, .if_icmp .ne 15, 3), (79, .aload_n 0, 1), (80, .invokevirtual 92, 3), (83, .aload_n 0, 1), (84, .iconst (-1), 1), (85, .invokevirtual 95, 3), (88, .goto 13, 3), (101, .aload_n 0, 1)]
set_option maxRecDepth 100000 in
theorem dk12blev_cX12_factor_0_a : dkA cX12_factor dk12blev_cX12_factor_0 = true := by decide +kernel
theorem dX12_factor_8 : decode cX12_factor 8 = .ok (.aload_n 0, 1) := dkAt dk12blev_cX12_factor_0_a 0 rfl
theorem dX12_factor_9 : decode cX12_factor 9 = .ok (.invokevirtual 69, 3) := dkAt dk12blev_cX12_factor_0_a 1 rfl
theorem dX12_factor_12 : decode cX12_factor 12 = .ok (.istore_n 1, 1) := dkAt dk12blev_cX12_factor_0_a 2 rfl
theorem dX12_factor_13 : decode cX12_factor 13 = .ok (.iload_n 1, 1) := dkAt dk12blev_cX12_factor_0_a 3 rfl
theorem dX12_factor_14 : decode cX12_factor 14 = .ok (.bipush 33, 2) := dkAt dk12blev_cX12_factor_0_a 4 rfl
theorem dX12_factor_16 : decode cX12_factor 16 = .ok (.if_icmp .eq 9, 3) := dkAt dk12blev_cX12_factor_0_a 5 rfl
theorem dX12_factor_25 : decode cX12_factor 25 = .ok (.aload_n 0, 1) := dkAt dk12blev_cX12_factor_0_a 6 rfl
theorem dX12_factor_26 : decode cX12_factor 26 = .ok (.aload_n 0, 1) := dkAt dk12blev_cX12_factor_0_a 7 rfl
theorem dX12_factor_27 : decode cX12_factor 27 = .ok (.getfield 89, 3) := dkAt dk12blev_cX12_factor_0_a 8 rfl
theorem dX12_factor_30 : decode cX12_factor 30 = .ok (.iconst 5, 1) := dkAt dk12blev_cX12_factor_0_a 9 rfl
theorem dX12_factor_31 : decode cX12_factor 31 = .ok (.if_icmp .ne 7, 3) := dkAt dk12blev_cX12_factor_0_a 10 rfl
theorem dX12_factor_34 : decode cX12_factor 34 = .ok (.iconst 1, 1) := dkAt dk12blev_cX12_factor_0_a 11 rfl
theorem dX12_factor_35 : decode cX12_factor 35 = .ok (.goto 4, 3) := dkAt dk12blev_cX12_factor_0_a 12 rfl
theorem dX12_factor_39 : decode cX12_factor 39 = .ok (.putfield 65, 3) := dkAt dk12blev_cX12_factor_0_a 13 rfl
theorem dX12_factor_42 : decode cX12_factor 42 = .ok (.aload_n 0, 1) := dkAt dk12blev_cX12_factor_0_a 14 rfl
theorem dX12_factor_43 : decode cX12_factor 43 = .ok (.dup, 1) := dkAt dk12blev_cX12_factor_0_a 15 rfl
theorem dX12_factor_44 : decode cX12_factor 44 = .ok (.getfield 89, 3) := dkAt dk12blev_cX12_factor_0_a 16 rfl
theorem dX12_factor_47 : decode cX12_factor 47 = .ok (.iconst 1, 1) := dkAt dk12blev_cX12_factor_0_a 17 rfl
theorem dX12_factor_48 : decode cX12_factor 48 = .ok (.iadd, 1) := dkAt dk12blev_cX12_factor_0_a 18 rfl
theorem dX12_factor_49 : decode cX12_factor 49 = .ok (.putfield 89, 3) := dkAt dk12blev_cX12_factor_0_a 19 rfl
theorem dX12_factor_52 : decode cX12_factor 52 = .ok (.aload_n 0, 1) := dkAt dk12blev_cX12_factor_0_a 20 rfl
theorem dX12_factor_53 : decode cX12_factor 53 = .ok (.dup, 1) := dkAt dk12blev_cX12_factor_0_a 21 rfl
theorem dX12_factor_54 : decode cX12_factor 54 = .ok (.getfield 59, 3) := dkAt dk12blev_cX12_factor_0_a 22 rfl
theorem dX12_factor_57 : decode cX12_factor 57 = .ok (.aload_n 0, 1) := dkAt dk12blev_cX12_factor_0_a 23 rfl
theorem dX12_factor_58 : decode cX12_factor 58 = .ok (.getfield 65, 3) := dkAt dk12blev_cX12_factor_0_a 24 rfl
theorem dX12_factor_61 : decode cX12_factor 61 = .ok (.ifCond .eq 7, 3) := dkAt dk12blev_cX12_factor_0_a 25 rfl
theorem dX12_factor_64 : decode cX12_factor 64 = .ok (.iconst 0, 1) := dkAt dk12blev_cX12_factor_0_a 26 rfl
theorem dX12_factor_65 : decode cX12_factor 65 = .ok (.goto 4, 3) := dkAt dk12blev_cX12_factor_0_a 27 rfl
theorem dX12_factor_69 : decode cX12_factor 69 = .ok (.iadd, 1) := dkAt dk12blev_cX12_factor_0_a 28 rfl
theorem dX12_factor_70 : decode cX12_factor 70 = .ok (.putfield 59, 3) := dkAt dk12blev_cX12_factor_0_a 29 rfl
theorem dX12_factor_73 : decode cX12_factor 73 = .ok (.iload_n 1, 1) := dkAt dk12blev_cX12_factor_0_a 30 rfl
theorem dX12_factor_74 : decode cX12_factor 74 = .ok (.bipush 33, 2) := dkAt dk12blev_cX12_factor_0_a 31 rfl
theorem dX12_factor_76 : decode cX12_factor 76 = .ok (.if_icmp .ne 15, 3) := dkAt dk12blev_cX12_factor_0_a 32 rfl
theorem dX12_factor_79 : decode cX12_factor 79 = .ok (.aload_n 0, 1) := dkAt dk12blev_cX12_factor_0_a 33 rfl
theorem dX12_factor_80 : decode cX12_factor 80 = .ok (.invokevirtual 92, 3) := dkAt dk12blev_cX12_factor_0_a 34 rfl
theorem dX12_factor_83 : decode cX12_factor 83 = .ok (.aload_n 0, 1) := dkAt dk12blev_cX12_factor_0_a 35 rfl
theorem dX12_factor_84 : decode cX12_factor 84 = .ok (.iconst (-1), 1) := dkAt dk12blev_cX12_factor_0_a 36 rfl
theorem dX12_factor_85 : decode cX12_factor 85 = .ok (.invokevirtual 95, 3) := dkAt dk12blev_cX12_factor_0_a 37 rfl
theorem dX12_factor_88 : decode cX12_factor 88 = .ok (.goto 13, 3) := dkAt dk12blev_cX12_factor_0_a 38 rfl
theorem dX12_factor_101 : decode cX12_factor 101 = .ok (.aload_n 0, 1) := dkAt dk12blev_cX12_factor_0_a 39 rfl
noncomputable def dk12blev_cX12_factor_40 : List (Nat × Instr × Nat) := [(102, .dup, 1), (103, .getfield 89, 3), (106, .iconst 1, 1), (107, .isub, 1), (108, .putfield 89, 3), (111, .return_, 1), (19, .iload_n 1, 1), (20, .bipush 40, 2), (22, .if_icmp .ne 90, 3), (112, .aload_n 0, 1), (113, .ldc 101, 2), (115, .invokevirtual 103, 3), (118, .istore_n 2, 1), (119, .aload_n 0, 1), (120, .iload_n 2, 1), (121, .iconst (-1), 1), (122, .if_icmp .ne 7, 3), (125, .iconst 1, 1), (126, .goto 4, 3), (130, .putfield 65, 3), (133, .aload_n 0, 1), (134, .getfield 65, 3), (137, .ifCond .eq 7, 3), (140, .iconst 0, 1), (141, .goto 9, 3), (150, .istore_n 3, 1), (151, .aload_n 0, 1), (152, .aload_n 0, 1), (153, .getfield 65, 3), (156, .ifCond .ne 8, 3), (164, .iconst 1, 1), (165, .goto 4, 3), (169, .putfield 65, 3), (172, .aload_n 0, 1), (173, .invokevirtual 109, 3), (176, .istore 4, 2), (178, .aload_n 0, 1), (179, .iload_n 2, 1), (180, .bipush 8, 2), (182, .iload_n 3, 1)]
set_option maxRecDepth 100000 in
theorem dk12blev_cX12_factor_40_a : dkA cX12_factor dk12blev_cX12_factor_40 = true := by decide +kernel
theorem dX12_factor_102 : decode cX12_factor 102 = .ok (.dup, 1) := dkAt dk12blev_cX12_factor_40_a 0 rfl
theorem dX12_factor_103 : decode cX12_factor 103 = .ok (.getfield 89, 3) := dkAt dk12blev_cX12_factor_40_a 1 rfl
theorem dX12_factor_106 : decode cX12_factor 106 = .ok (.iconst 1, 1) := dkAt dk12blev_cX12_factor_40_a 2 rfl
theorem dX12_factor_107 : decode cX12_factor 107 = .ok (.isub, 1) := dkAt dk12blev_cX12_factor_40_a 3 rfl
theorem dX12_factor_108 : decode cX12_factor 108 = .ok (.putfield 89, 3) := dkAt dk12blev_cX12_factor_40_a 4 rfl
theorem dX12_factor_111 : decode cX12_factor 111 = .ok (.return_, 1) := dkAt dk12blev_cX12_factor_40_a 5 rfl
theorem dX12_factor_19 : decode cX12_factor 19 = .ok (.iload_n 1, 1) := dkAt dk12blev_cX12_factor_40_a 6 rfl
theorem dX12_factor_20 : decode cX12_factor 20 = .ok (.bipush 40, 2) := dkAt dk12blev_cX12_factor_40_a 7 rfl
theorem dX12_factor_22 : decode cX12_factor 22 = .ok (.if_icmp .ne 90, 3) := dkAt dk12blev_cX12_factor_40_a 8 rfl
theorem dX12_factor_112 : decode cX12_factor 112 = .ok (.aload_n 0, 1) := dkAt dk12blev_cX12_factor_40_a 9 rfl
theorem dX12_factor_113 : decode cX12_factor 113 = .ok (.ldc 101, 2) := dkAt dk12blev_cX12_factor_40_a 10 rfl
theorem dX12_factor_115 : decode cX12_factor 115 = .ok (.invokevirtual 103, 3) := dkAt dk12blev_cX12_factor_40_a 11 rfl
theorem dX12_factor_118 : decode cX12_factor 118 = .ok (.istore_n 2, 1) := dkAt dk12blev_cX12_factor_40_a 12 rfl
theorem dX12_factor_119 : decode cX12_factor 119 = .ok (.aload_n 0, 1) := dkAt dk12blev_cX12_factor_40_a 13 rfl
theorem dX12_factor_120 : decode cX12_factor 120 = .ok (.iload_n 2, 1) := dkAt dk12blev_cX12_factor_40_a 14 rfl
theorem dX12_factor_121 : decode cX12_factor 121 = .ok (.iconst (-1), 1) := dkAt dk12blev_cX12_factor_40_a 15 rfl
theorem dX12_factor_122 : decode cX12_factor 122 = .ok (.if_icmp .ne 7, 3) := dkAt dk12blev_cX12_factor_40_a 16 rfl
theorem dX12_factor_125 : decode cX12_factor 125 = .ok (.iconst 1, 1) := dkAt dk12blev_cX12_factor_40_a 17 rfl
theorem dX12_factor_126 : decode cX12_factor 126 = .ok (.goto 4, 3) := dkAt dk12blev_cX12_factor_40_a 18 rfl
theorem dX12_factor_130 : decode cX12_factor 130 = .ok (.putfield 65, 3) := dkAt dk12blev_cX12_factor_40_a 19 rfl
theorem dX12_factor_133 : decode cX12_factor 133 = .ok (.aload_n 0, 1) := dkAt dk12blev_cX12_factor_40_a 20 rfl
theorem dX12_factor_134 : decode cX12_factor 134 = .ok (.getfield 65, 3) := dkAt dk12blev_cX12_factor_40_a 21 rfl
theorem dX12_factor_137 : decode cX12_factor 137 = .ok (.ifCond .eq 7, 3) := dkAt dk12blev_cX12_factor_40_a 22 rfl
theorem dX12_factor_140 : decode cX12_factor 140 = .ok (.iconst 0, 1) := dkAt dk12blev_cX12_factor_40_a 23 rfl
theorem dX12_factor_141 : decode cX12_factor 141 = .ok (.goto 9, 3) := dkAt dk12blev_cX12_factor_40_a 24 rfl
theorem dX12_factor_150 : decode cX12_factor 150 = .ok (.istore_n 3, 1) := dkAt dk12blev_cX12_factor_40_a 25 rfl
theorem dX12_factor_151 : decode cX12_factor 151 = .ok (.aload_n 0, 1) := dkAt dk12blev_cX12_factor_40_a 26 rfl
theorem dX12_factor_152 : decode cX12_factor 152 = .ok (.aload_n 0, 1) := dkAt dk12blev_cX12_factor_40_a 27 rfl
theorem dX12_factor_153 : decode cX12_factor 153 = .ok (.getfield 65, 3) := dkAt dk12blev_cX12_factor_40_a 28 rfl
theorem dX12_factor_156 : decode cX12_factor 156 = .ok (.ifCond .ne 8, 3) := dkAt dk12blev_cX12_factor_40_a 29 rfl
theorem dX12_factor_164 : decode cX12_factor 164 = .ok (.iconst 1, 1) := dkAt dk12blev_cX12_factor_40_a 30 rfl
theorem dX12_factor_165 : decode cX12_factor 165 = .ok (.goto 4, 3) := dkAt dk12blev_cX12_factor_40_a 31 rfl
theorem dX12_factor_169 : decode cX12_factor 169 = .ok (.putfield 65, 3) := dkAt dk12blev_cX12_factor_40_a 32 rfl
theorem dX12_factor_172 : decode cX12_factor 172 = .ok (.aload_n 0, 1) := dkAt dk12blev_cX12_factor_40_a 33 rfl
theorem dX12_factor_173 : decode cX12_factor 173 = .ok (.invokevirtual 109, 3) := dkAt dk12blev_cX12_factor_40_a 34 rfl
theorem dX12_factor_176 : decode cX12_factor 176 = .ok (.istore 4, 2) := dkAt dk12blev_cX12_factor_40_a 35 rfl
theorem dX12_factor_178 : decode cX12_factor 178 = .ok (.aload_n 0, 1) := dkAt dk12blev_cX12_factor_40_a 36 rfl
theorem dX12_factor_179 : decode cX12_factor 179 = .ok (.iload_n 2, 1) := dkAt dk12blev_cX12_factor_40_a 37 rfl
theorem dX12_factor_180 : decode cX12_factor 180 = .ok (.bipush 8, 2) := dkAt dk12blev_cX12_factor_40_a 38 rfl
theorem dX12_factor_182 : decode cX12_factor 182 = .ok (.iload_n 3, 1) := dkAt dk12blev_cX12_factor_40_a 39 rfl
noncomputable def dk12blev_cX12_factor_80 : List (Nat × Instr × Nat) := [(183, .imul, 1), (184, .iadd, 1), (185, .bipush 32, 2), (187, .iload 4, 2), (189, .imul, 1), (190, .iadd, 1), (191, .invokevirtual 95, 3), (194, .return_, 1), (129, .iconst 0, 1), (144, .aload_n 0, 1), (145, .ldc 107, 2), (147, .invokevirtual 103, 3), (159, .iload_n 3, 1), (160, .iconst (-1), 1), (161, .if_icmp .ne 7, 3), (168, .iconst 0, 1), (91, .aload_n 0, 1), (92, .invokevirtual 98, 3), (95, .aload_n 0, 1), (96, .bipush 41, 2), (98, .invokevirtual 82, 3)]
set_option maxRecDepth 100000 in
theorem dk12blev_cX12_factor_80_a : dkA cX12_factor dk12blev_cX12_factor_80 = true := by decide +kernel
theorem dX12_factor_183 : decode cX12_factor 183 = .ok (.imul, 1) := dkAt dk12blev_cX12_factor_80_a 0 rfl
theorem dX12_factor_184 : decode cX12_factor 184 = .ok (.iadd, 1) := dkAt dk12blev_cX12_factor_80_a 1 rfl
theorem dX12_factor_185 : decode cX12_factor 185 = .ok (.bipush 32, 2) := dkAt dk12blev_cX12_factor_80_a 2 rfl
theorem dX12_factor_187 : decode cX12_factor 187 = .ok (.iload 4, 2) := dkAt dk12blev_cX12_factor_80_a 3 rfl
theorem dX12_factor_189 : decode cX12_factor 189 = .ok (.imul, 1) := dkAt dk12blev_cX12_factor_80_a 4 rfl
theorem dX12_factor_190 : decode cX12_factor 190 = .ok (.iadd, 1) := dkAt dk12blev_cX12_factor_80_a 5 rfl
theorem dX12_factor_191 : decode cX12_factor 191 = .ok (.invokevirtual 95, 3) := dkAt dk12blev_cX12_factor_80_a 6 rfl
theorem dX12_factor_194 : decode cX12_factor 194 = .ok (.return_, 1) := dkAt dk12blev_cX12_factor_80_a 7 rfl
theorem dX12_factor_129 : decode cX12_factor 129 = .ok (.iconst 0, 1) := dkAt dk12blev_cX12_factor_80_a 8 rfl
theorem dX12_factor_144 : decode cX12_factor 144 = .ok (.aload_n 0, 1) := dkAt dk12blev_cX12_factor_80_a 9 rfl
theorem dX12_factor_145 : decode cX12_factor 145 = .ok (.ldc 107, 2) := dkAt dk12blev_cX12_factor_80_a 10 rfl
theorem dX12_factor_147 : decode cX12_factor 147 = .ok (.invokevirtual 103, 3) := dkAt dk12blev_cX12_factor_80_a 11 rfl
theorem dX12_factor_159 : decode cX12_factor 159 = .ok (.iload_n 3, 1) := dkAt dk12blev_cX12_factor_80_a 12 rfl
theorem dX12_factor_160 : decode cX12_factor 160 = .ok (.iconst (-1), 1) := dkAt dk12blev_cX12_factor_80_a 13 rfl
theorem dX12_factor_161 : decode cX12_factor 161 = .ok (.if_icmp .ne 7, 3) := dkAt dk12blev_cX12_factor_80_a 14 rfl
theorem dX12_factor_168 : decode cX12_factor 168 = .ok (.iconst 0, 1) := dkAt dk12blev_cX12_factor_80_a 15 rfl
theorem dX12_factor_91 : decode cX12_factor 91 = .ok (.aload_n 0, 1) := dkAt dk12blev_cX12_factor_80_a 16 rfl
theorem dX12_factor_92 : decode cX12_factor 92 = .ok (.invokevirtual 98, 3) := dkAt dk12blev_cX12_factor_80_a 17 rfl
theorem dX12_factor_95 : decode cX12_factor 95 = .ok (.aload_n 0, 1) := dkAt dk12blev_cX12_factor_80_a 18 rfl
theorem dX12_factor_96 : decode cX12_factor 96 = .ok (.bipush 41, 2) := dkAt dk12blev_cX12_factor_80_a 19 rfl
theorem dX12_factor_98 : decode cX12_factor 98 = .ok (.invokevirtual 82, 3) := dkAt dk12blev_cX12_factor_80_a 20 rfl
noncomputable def dk12blev_cX12_every_0 : List (Nat × Instr × Nat) := [(11, .aload_n 0, 1), (12, .invokevirtual 69, 3), (15, .bipush 38, 2), (17, .if_icmp .ne 26, 3), (20, .aload_n 0, 1), (21, .dup, 1), (22, .getfield 59, 3), (25, .iconst 1, 1), (26, .iadd, 1), (27, .putfield 59, 3), (30, .aload_n 0, 1), (31, .invokevirtual 92, 3), (34, .aload_n 0, 1), (35, .bipush (-2), 2), (37, .invokevirtual 95, 3), (40, .goto (-36), 3)]
set_option maxRecDepth 100000 in
theorem dk12blev_cX12_every_0_a : dkA cX12_every dk12blev_cX12_every_0 = true := by decide +kernel
theorem dX12_every_11 : decode cX12_every 11 = .ok (.aload_n 0, 1) := dkAt dk12blev_cX12_every_0_a 0 rfl
theorem dX12_every_12 : decode cX12_every 12 = .ok (.invokevirtual 69, 3) := dkAt dk12blev_cX12_every_0_a 1 rfl
theorem dX12_every_15 : decode cX12_every 15 = .ok (.bipush 38, 2) := dkAt dk12blev_cX12_every_0_a 2 rfl
theorem dX12_every_17 : decode cX12_every 17 = .ok (.if_icmp .ne 26, 3) := dkAt dk12blev_cX12_every_0_a 3 rfl
theorem dX12_every_20 : decode cX12_every 20 = .ok (.aload_n 0, 1) := dkAt dk12blev_cX12_every_0_a 4 rfl
theorem dX12_every_21 : decode cX12_every 21 = .ok (.dup, 1) := dkAt dk12blev_cX12_every_0_a 5 rfl
theorem dX12_every_22 : decode cX12_every 22 = .ok (.getfield 59, 3) := dkAt dk12blev_cX12_every_0_a 6 rfl
theorem dX12_every_25 : decode cX12_every 25 = .ok (.iconst 1, 1) := dkAt dk12blev_cX12_every_0_a 7 rfl
theorem dX12_every_26 : decode cX12_every 26 = .ok (.iadd, 1) := dkAt dk12blev_cX12_every_0_a 8 rfl
theorem dX12_every_27 : decode cX12_every 27 = .ok (.putfield 59, 3) := dkAt dk12blev_cX12_every_0_a 9 rfl
theorem dX12_every_30 : decode cX12_every 30 = .ok (.aload_n 0, 1) := dkAt dk12blev_cX12_every_0_a 10 rfl
theorem dX12_every_31 : decode cX12_every 31 = .ok (.invokevirtual 92, 3) := dkAt dk12blev_cX12_every_0_a 11 rfl
theorem dX12_every_34 : decode cX12_every 34 = .ok (.aload_n 0, 1) := dkAt dk12blev_cX12_every_0_a 12 rfl
theorem dX12_every_35 : decode cX12_every 35 = .ok (.bipush (-2), 2) := dkAt dk12blev_cX12_every_0_a 13 rfl
theorem dX12_every_37 : decode cX12_every 37 = .ok (.invokevirtual 95, 3) := dkAt dk12blev_cX12_every_0_a 14 rfl
theorem dX12_every_40 : decode cX12_every 40 = .ok (.goto (-36), 3) := dkAt dk12blev_cX12_every_0_a 15 rfl
noncomputable def dk12blev_cX12_some_0 : List (Nat × Instr × Nat) := [(11, .aload_n 0, 1), (12, .invokevirtual 69, 3), (15, .bipush 124, 2), (17, .if_icmp .ne 26, 3), (20, .aload_n 0, 1), (21, .dup, 1), (22, .getfield 59, 3), (25, .iconst 1, 1), (26, .iadd, 1), (27, .putfield 59, 3), (30, .aload_n 0, 1), (31, .invokevirtual 112, 3), (34, .aload_n 0, 1), (35, .bipush (-3), 2), (37, .invokevirtual 95, 3), (40, .goto (-36), 3)]
set_option maxRecDepth 100000 in
theorem dk12blev_cX12_some_0_a : dkA cX12_some dk12blev_cX12_some_0 = true := by decide +kernel
theorem dX12_some_11 : decode cX12_some 11 = .ok (.aload_n 0, 1) := dkAt dk12blev_cX12_some_0_a 0 rfl
theorem dX12_some_12 : decode cX12_some 12 = .ok (.invokevirtual 69, 3) := dkAt dk12blev_cX12_some_0_a 1 rfl
theorem dX12_some_15 : decode cX12_some 15 = .ok (.bipush 124, 2) := dkAt dk12blev_cX12_some_0_a 2 rfl
theorem dX12_some_17 : decode cX12_some 17 = .ok (.if_icmp .ne 26, 3) := dkAt dk12blev_cX12_some_0_a 3 rfl
theorem dX12_some_20 : decode cX12_some 20 = .ok (.aload_n 0, 1) := dkAt dk12blev_cX12_some_0_a 4 rfl
theorem dX12_some_21 : decode cX12_some 21 = .ok (.dup, 1) := dkAt dk12blev_cX12_some_0_a 5 rfl
theorem dX12_some_22 : decode cX12_some 22 = .ok (.getfield 59, 3) := dkAt dk12blev_cX12_some_0_a 6 rfl
theorem dX12_some_25 : decode cX12_some 25 = .ok (.iconst 1, 1) := dkAt dk12blev_cX12_some_0_a 7 rfl
theorem dX12_some_26 : decode cX12_some 26 = .ok (.iadd, 1) := dkAt dk12blev_cX12_some_0_a 8 rfl
theorem dX12_some_27 : decode cX12_some 27 = .ok (.putfield 59, 3) := dkAt dk12blev_cX12_some_0_a 9 rfl
theorem dX12_some_30 : decode cX12_some 30 = .ok (.aload_n 0, 1) := dkAt dk12blev_cX12_some_0_a 10 rfl
theorem dX12_some_31 : decode cX12_some 31 = .ok (.invokevirtual 112, 3) := dkAt dk12blev_cX12_some_0_a 11 rfl
theorem dX12_some_34 : decode cX12_some 34 = .ok (.aload_n 0, 1) := dkAt dk12blev_cX12_some_0_a 12 rfl
theorem dX12_some_35 : decode cX12_some 35 = .ok (.bipush (-3), 2) := dkAt dk12blev_cX12_some_0_a 13 rfl
theorem dX12_some_37 : decode cX12_some 37 = .ok (.invokevirtual 95, 3) := dkAt dk12blev_cX12_some_0_a 14 rfl
theorem dX12_some_40 : decode cX12_some 40 = .ok (.goto (-36), 3) := dkAt dk12blev_cX12_some_0_a 15 rfl
theorem kc_factor5_0 : ∀ w ∈ wsX120, w ∈ wsX12_factor := fun w h => List.mem_cons_of_mem _ (gin_wsX120 w h)
theorem kc_factor5_1 : (.fieldLink RX12 65 "MistHeapsModel" "isWrong" "Z" : Cond) ∈ wsX12_factor := kc_of 1147 rfl rfl rfl
theorem kc_factor5_2 : (.fieldLink RX12 89 "MistHeapsModel" "open" "I" : Cond) ∈ wsX12_factor := kc_of 1148 rfl rfl rfl
theorem kc_factor5_3 : (.fieldLink RX12 59 "MistHeapsModel" "spot" "I" : Cond) ∈ wsX12_factor := kc_of 1145 rfl rfl rfl
set_option maxHeartbeats 4000000 in
set_option maxRecDepth 100000 in
theorem c_factor5 (l : Launch) (dC : Nat → ClassId) (dI : Nat → Nat → Nat) (sK sV : Nat → Nat) (m0 aS aI aB aT aG aO aN aD aY : Nat) (th im ac sp en wg op se dn rn kd nu tv : Int32) (bv : Int64) (cS : ClassId) (fS : Nat → Int32) (a p0 E : Nat) (K : List Nat) (d : Nat) (ss : Nat → Nat) (sz : Nat) (gI : PI fS a K d p0 E) (gT : TP fS E ss) : Met l yX12_factor wsX12_factor ({ frames := 5, cells := 0, slots := 0, locals := 107 } : Room) (va_Pc [.ref m0] (fun U => U.heap.size = sz ∧ va_P (dC, dI) vwCl [(zo14irriiiiiirriirrrrlriiii m0 th aS aI im (nI a) (nI p0) (nI E) 0 5 aB aT se dn aG aO aN aD bv aY rn kd nu tv), (zaI aS cS 901 fS)] U.heap ∧ va_K (dC, dI) vwCl [(cS, .int)] U ∧ va_D (fun _ => True) [(zo14irriiiiiirriirrrrlriiii m0 th aS aI im (nI a) (nI p0) (nI E) 0 5 aB aT se dn aG aO aN aD bv aY rn kd nu tv), (zaI aS cS 901 fS)] ∧ Gs sK sV (va_A [(zo14irriiiiiirriirrrrlriiii m0 th aS aI im (nI a) (nI p0) (nI E) 0 5 aB aT se dn aG aO aN aD bv aY rn kd nu tv), (zaI aS cS 901 fS)] sz) U)) (va_Qv (fun (u : (Nat → Int32) × (Int32) × (Int32)) => match u with | (fS9, sp9, wg9) => ∃ p9 : Nat, sp9 = nI p9 ∧ p0 ≤ p9 ∧ p9 ≤ E ∧ PF a fS fS9 ∧ ((wg9 = 1 ∧ pFac ss 0 p0 = (none, p9)) ∨ (wg9 = 0 ∧ ∃ L : List Nat, pFac ss 0 p0 = (some L, p9) ∧ p0 + 3 ≤ p9 ∧ PI fS9 a (K ++ L) (d + 1) p9 E ∧ L.length + p0 ≤ p9))) (fun (u : (Nat → Int32) × (Int32) × (Int32)) (t : State) => match u with | (fS9, sp9, wg9) => va_P (dC, dI) vwCl [(zo14irriiiiiirriirrrrlriiii m0 th aS aI im (nI a) sp9 (nI E) wg9 5 aB aT se dn aG aO aN aD bv aY rn kd nu tv), (zaI aS cS 901 fS9)] t.heap ∧ va_K (dC, dI) vwCl [(cS, .int)] t ∧ va_D (va_A [(zo14irriiiiiirriirrrrlriiii m0 th aS aI im (nI a) (nI p0) (nI E) 0 5 aB aT se dn aG aO aN aD bv aY rn kd nu tv), (zaI aS cS 901 fS)] sz) [(zo14irriiiiiirriirrrrlriiii m0 th aS aI im (nI a) sp9 (nI E) wg9 5 aB aT se dn aG aO aN aD bv aY rn kd nu tv), (zaI aS cS 901 fS9)]) (va_A [(zo14irriiiiiirriirrrrlriiii m0 th aS aI im (nI a) (nI p0) (nI E) 0 5 aB aT se dn aG aO aN aD bv aY rn kd nu tv), (zaI aS cS 901 fS)] sz)) 0 0 (va_A [(zo14irriiiiiirriirrrrlriiii m0 th aS aI im (nI a) (nI p0) (nI E) 0 5 aB aT se dn aG aO aN aD bv aY rn kd nu tv), (zaI aS cS 901 fS)] sz) := by
  refine met_ofQ (cc := cX12_factor) (maxL := 5) (ret := none) (by decide) rfl ?_
  intro p e s m args below meth c s₁ Q B hml hv hQ
  obtain ⟨rfl, hsz, hP, hK, hD0, hE⟩ := hv
  have hx := B.exec
  have hb := B.bytes
  have hr := B.returns
  have hts := atoms_spec (ws := wsX12_factor) B.pre
  have hown : s.vm.findClass RX12 = some m.cls := findClass_of_methodNamed B.named
  have hlocks := B.notSynchronized
  subst hsz
  have hD := hD0.self (sz := s.heap.size)
  generalize hAe : va_A [(zo14irriiiiiirriirrrrlriiii m0 th aS aI im (nI a) (nI p0) (nI E) 0 5 aB aT se dn aG aO aN aD bv aY rn kd nu tv), (zaI aS cS 901 fS)] s.heap.size = A at hD hQ hE ⊢
  have hA : ∀ q : Nat, s.heap.size ≤ q → A q := fun q h => by rw [← hAe]; exact Or.inr h
  have hS : va_S A s.heap s.heap [] := va_S.rf
  have hl := lv_entry [.ref m0] (n := 5) (Nat.le_of_ble_eq_true rfl)
  rw [lg_entry_eq]
  generalize (lg_sl [.ref m0] ++ List.replicate (5 - (lg_sl [.ref m0]).length) Slot.unset).toArray = ls at hl ⊢
  generalize hag : ([.ref m0] : List Value).toArray = args at hts hQ ⊢
  have hl : lv_has ls 5 [(0, .ref m0)] := hl
  obtain ⟨H, hH⟩ : ∃ H : Heap, H = s.heap := ⟨_, rfl⟩
  rw [← hH] at hP
  rw [← hH]
  have hS : va_S A s.heap H [] := by rw [hH]; exact hS
  obtain ⟨locs, hlo⟩ : ∃ L : List Loc, L = [] := ⟨_, rfl⟩
  rw [← hlo] at hS
  rw [← hlo]
  clear hH hlo
  obtain ⟨ga, gp, gE, zk, gkp, gd, gs, gcd⟩ := id gI
  refine lv_aload_n hx hb dX12_factor_0 rfl (lv_at hl 0 rfl) ?_
  refine va_get (D := (dC, dI)) (ci := 14) (v := .int 0) (C := RX12) (T := TX12) (N := 23) hx hb hts kc_factor5_0 hown hK hP 0 rfl rfl 7 (by decide) (hts (.fieldLink RX12 65 "MistHeapsModel" "isWrong" "Z") kc_factor5_1) (fun _ h9 => h9) rfl dX12_factor_1 ?_
  refine lv_if_eq (tgt := 8) hx hb dX12_factor_4 (by decide) (fun _ => ?_) (fun c_1 => absurd c_1 (by decide))
  refine lv_aload_n hx hb dX12_factor_8 rfl (lv_at hl 0 rfl) ?_
  have hPc := hP.sub (ws' := [(zo14irriiiiiirriirrrrlriiii m0 th aS aI im (nI a) (nI p0) (nI E) 0 5 aB aT se dn aG aO aN aD bv aY rn kd nu tv), (zaI aS cS 901 fS)]) [0, 1] rfl
  have hKc := hK.sub (tys' := [(cS, .int)]) [0] rfl
  refine vp_callSi (va_runV (As := []) (rest := []) ⟨hx, hb, hml, hown, hts⟩ (c_here l dC dI m0 aS aI aB aT aG aO aN aD aY th im (nI a) (nI p0) (nI E) 0 5 se dn rn kd nu tv bv cS fS a p0 E (by omega) (by omega) (by omega)) (cwV 0 hts gX12_factor_X12_here rfl rfl rfl hd_yX12_here ⟨Nat.le_of_ble_eq_true rfl, Nat.le_of_ble_eq_true rfl⟩) ⟨fun a U g mk q => by obtain ⟨q0, qP, qK⟩ := q; exact ⟨q0, qP, va_K.moved (u := U) (U := U.calling g mk a) (Vm.Alike.refl U.vm) qK⟩, va_recv hK hP (ci := 14) (q := (RX12, TX12, 23)) (q0 := 0) rfl rfl, fun U hU hW => ⟨rfl, by rw [hU]; exact hPc, va_K.moved hW.alike hKc⟩⟩ rfl rfl hl.1 rfl (lv_room (Nat.le_of_ble_eq_true rfl)) dX12_factor_9 ⟨Nat.le_of_ble_eq_true rfl, Nat.le_of_ble_eq_true rfl⟩).run (fun r_2 hw_3 => ?_)
  refine lv_istore_n (lv' := [(1, .int r_2), (0, .ref m0)]) hx hb dX12_factor_12 rfl hl (by decide) rfl (fun ls hl => ?_)
  refine lv_iload_n hx hb dX12_factor_13 rfl (lv_at hl 0 rfl) ?_
  refine lv_bipush (v := 33) hx hb dX12_factor_14 (by decide) ?_
  refine lv_icmp_eq (tgt := 25) hx hb dX12_factor_16 (by decide) (fun c_4 => ?_) (fun c_4 => ?_)
  · skip
    subst c_4
    have hs : ss p0 = 33 := (gT.eq (c := 33) (by omega) (by omega)).mp hw_3.symm
    have hlt : p0 < E := Nat.lt_of_not_le (fun z => by have := gT.2.1 p0 z; omega)
    refine lv_aload_n hx hb dX12_factor_25 rfl (lv_at hl 1 rfl) ?_
    refine lv_aload_n hx hb dX12_factor_26 rfl (lv_at hl 1 rfl) ?_
    refine va_get (D := (dC, dI)) (ci := 14) (v := .int 5) (C := RX12) (T := TX12) (N := 23) hx hb hts kc_factor5_0 hown hK hP 0 rfl rfl 8 (by decide) (hts (.fieldLink RX12 89 "MistHeapsModel" "open" "I") kc_factor5_2) (fun _ h9 => h9) rfl dX12_factor_27 ?_
    refine lv_iconst (v := 5) hx hb dX12_factor_30 (by decide) ?_
    refine lv_icmp_ne (tgt := 38) hx hb dX12_factor_31 (by decide) (fun c_5 => absurd c_5 (by decide)) (fun _ => ?_)
    refine lv_iconst (v := 1) hx hb dX12_factor_34 (by decide) ?_
    refine lv_goto (tgt := 39) hx hb dX12_factor_35 (by decide) ?_
    refine va_put (D := (dC, dI)) (ci := 14) (v := .int 1) (ty := .boolean) (C := RX12) (T := TX12) (N := 23) hx hb hts kc_factor5_0 tyX12 tyX12_ok nmX12 hown hK hP hD hS 0 rfl rfl 7 (by decide) (hts (.fieldLink RX12 65 "MistHeapsModel" "isWrong" "Z") kc_factor5_1) (fun _ h9 => h9) rfl (by decide +kernel) rfl rfl (Nat.le_of_ble_eq_true rfl) dX12_factor_39 (fun H locs hP hD hS => ?_)
    have hP : va_P (dC, dI) vwCl [(zo14irriiiiiirriirrrrlriiii m0 th aS aI im (nI a) (nI p0) (nI E) 1 5 aB aT se dn aG aO aN aD bv aY rn kd nu tv), (zaI aS cS 901 fS)] H := hP
    have hD : va_D A [(zo14irriiiiiirriirrrrlriiii m0 th aS aI im (nI a) (nI p0) (nI E) 1 5 aB aT se dn aG aO aN aD bv aY rn kd nu tv), (zaI aS cS 901 fS)] := hD
    refine lv_aload_n hx hb dX12_factor_42 rfl (lv_at hl 1 rfl) ?_
    refine lv_dup hx hb dX12_factor_43 rfl ?_
    refine va_get (D := (dC, dI)) (ci := 14) (v := .int 5) (C := RX12) (T := TX12) (N := 23) hx hb hts kc_factor5_0 hown hK hP 0 rfl rfl 8 (by decide) (hts (.fieldLink RX12 89 "MistHeapsModel" "open" "I") kc_factor5_2) (fun _ h9 => h9) rfl dX12_factor_44 ?_
    refine lv_iconst (v := 1) hx hb dX12_factor_47 (by decide) ?_
    refine lv_iadd hx hb dX12_factor_48 ?_
    refine qi_as (y := 6) (by decide) ?_
    refine va_put (D := (dC, dI)) (ci := 14) (v := .int 6) (ty := .int) (C := RX12) (T := TX12) (N := 23) hx hb hts kc_factor5_0 tyX12 tyX12_ok nmX12 hown hK hP hD hS 0 rfl rfl 8 (by decide) (hts (.fieldLink RX12 89 "MistHeapsModel" "open" "I") kc_factor5_2) (fun _ h9 => h9) rfl (by decide +kernel) rfl rfl (Nat.le_of_ble_eq_true rfl) dX12_factor_49 (fun H locs hP hD hS => ?_)
    have hP : va_P (dC, dI) vwCl [(zo14irriiiiiirriirrrrlriiii m0 th aS aI im (nI a) (nI p0) (nI E) 1 6 aB aT se dn aG aO aN aD bv aY rn kd nu tv), (zaI aS cS 901 fS)] H := hP
    have hD : va_D A [(zo14irriiiiiirriirrrrlriiii m0 th aS aI im (nI a) (nI p0) (nI E) 1 6 aB aT se dn aG aO aN aD bv aY rn kd nu tv), (zaI aS cS 901 fS)] := hD
    refine lv_aload_n hx hb dX12_factor_52 rfl (lv_at hl 1 rfl) ?_
    refine lv_dup hx hb dX12_factor_53 rfl ?_
    refine va_get (D := (dC, dI)) (ci := 14) (v := .int (nI p0)) (C := RX12) (T := TX12) (N := 23) hx hb hts kc_factor5_0 hown hK hP 0 rfl rfl 5 (by decide) (hts (.fieldLink RX12 59 "MistHeapsModel" "spot" "I") kc_factor5_3) (fun _ h9 => h9) rfl dX12_factor_54 ?_
    refine lv_aload_n hx hb dX12_factor_57 rfl (lv_at hl 1 rfl) ?_
    refine va_get (D := (dC, dI)) (ci := 14) (v := .int 1) (C := RX12) (T := TX12) (N := 23) hx hb hts kc_factor5_0 hown hK hP 0 rfl rfl 7 (by decide) (hts (.fieldLink RX12 65 "MistHeapsModel" "isWrong" "Z") kc_factor5_1) (fun _ h9 => h9) rfl dX12_factor_58 ?_
    refine lv_if_eq (tgt := 68) hx hb dX12_factor_61 (by decide) (fun c_6 => absurd c_6 (by decide)) (fun _ => ?_)
    refine lv_iconst (v := 0) hx hb dX12_factor_64 (by decide) ?_
    refine lv_goto (tgt := 69) hx hb dX12_factor_65 (by decide) ?_
    refine lv_iadd hx hb dX12_factor_69 ?_
    refine qi_as (y := nI (p0 + 0)) (nI_add p0 0) ?_
    refine va_put (D := (dC, dI)) (ci := 14) (v := .int (nI (p0 + 0))) (ty := .int) (C := RX12) (T := TX12) (N := 23) hx hb hts kc_factor5_0 tyX12 tyX12_ok nmX12 hown hK hP hD hS 0 rfl rfl 5 (by decide) (hts (.fieldLink RX12 59 "MistHeapsModel" "spot" "I") kc_factor5_3) (fun _ h9 => h9) rfl (by decide +kernel) rfl rfl (Nat.le_of_ble_eq_true rfl) dX12_factor_70 (fun H locs hP hD hS => ?_)
    have hP : va_P (dC, dI) vwCl [(zo14irriiiiiirriirrrrlriiii m0 th aS aI im (nI a) (nI (p0 + 0)) (nI E) 1 6 aB aT se dn aG aO aN aD bv aY rn kd nu tv), (zaI aS cS 901 fS)] H := hP
    have hD : va_D A [(zo14irriiiiiirriirrrrlriiii m0 th aS aI im (nI a) (nI (p0 + 0)) (nI E) 1 6 aB aT se dn aG aO aN aD bv aY rn kd nu tv), (zaI aS cS 901 fS)] := hD
    refine lv_iload_n hx hb dX12_factor_73 rfl (lv_at hl 0 rfl) ?_
    refine lv_bipush (v := 33) hx hb dX12_factor_74 (by decide) ?_
    refine lv_icmp_ne (tgt := 91) hx hb dX12_factor_76 (by decide) (fun c_7 => absurd c_7 (by decide)) (fun _ => ?_)
    refine lv_aload_n hx hb dX12_factor_79 rfl (lv_at hl 1 rfl) ?_
    have hPc := hP.sub (ws' := [(zo14irriiiiiirriirrrrlriiii m0 th aS aI im (nI a) (nI (p0 + 0)) (nI E) 1 6 aB aT se dn aG aO aN aD bv aY rn kd nu tv)]) [0] rfl
    have hKc := hK.sub (tys' := []) [] rfl
    refine va_csv (va_runV (As := []) (rest := []) ⟨hx, hb, hml, hown, hts⟩ (c_factorW l dC dI m0 aS aI aB aT aG aO aN aD aY th im (nI a) (nI (p0 + 0)) (nI E) 1 6 se dn rn kd nu tv bv) (cwV 0 hts gX12_factor_X12_factor rfl rfl rfl hd_yX12_factor ⟨Nat.le_of_ble_eq_true rfl, Nat.le_of_ble_eq_true rfl⟩) ⟨fun a U g mk q => by obtain ⟨q0, qP, qK⟩ := q; exact ⟨q0, qP, va_K.moved (u := U) (U := U.calling g mk a) (Vm.Alike.refl U.vm) qK⟩, va_recv hK hP (ci := 14) (q := (RX12, TX12, 23)) (q0 := 0) rfl rfl, fun U hU hW => ⟨rfl, by rw [hU]; exact hPc, va_K.moved hW.alike hKc⟩⟩ rfl rfl hl.1 rfl (lv_room (Nat.le_of_ble_eq_true rfl)) dX12_factor_80 ⟨Nat.le_of_ble_eq_true rfl, Nat.le_of_ble_eq_true rfl⟩).run (fun hw_9 => ?_)
    refine lv_aload_n hx hb dX12_factor_83 rfl (lv_at hl 1 rfl) ?_
    refine lv_iconst (v := (-1)) hx hb dX12_factor_84 (by decide) ?_
    have hPc := hP.sub (ws' := [(zo14irriiiiiirriirrrrlriiii m0 th aS aI im (nI a) (nI (p0 + 0)) (nI E) 1 6 aB aT se dn aG aO aN aD bv aY rn kd nu tv)]) [0] rfl
    have hKc := hK.sub (tys' := []) [] rfl
    refine va_csv (va_runV (As := [.int (-1)]) (rest := []) ⟨hx, hb, hml, hown, hts⟩ (c_emitsW l dC dI m0 aS aI aB aT aG aO aN aD aY th im (nI a) (nI (p0 + 0)) (nI E) 1 6 se dn rn kd nu tv bv (-1)) (cwV 1 hts gX12_factor_X12_emits rfl rfl rfl hd_yX12_emits ⟨Nat.le_of_ble_eq_true rfl, Nat.le_of_ble_eq_true rfl⟩) ⟨fun a U g mk q => by obtain ⟨q0, qP, qK⟩ := q; exact ⟨q0, qP, va_K.moved (u := U) (U := U.calling g mk a) (Vm.Alike.refl U.vm) qK⟩, va_recv hK hP (ci := 14) (q := (RX12, TX12, 23)) (q0 := 0) rfl rfl, fun U hU hW => ⟨rfl, by rw [hU]; exact hPc, va_K.moved hW.alike hKc⟩⟩ rfl rfl hl.1 rfl (lv_room (Nat.le_of_ble_eq_true rfl)) dX12_factor_85 ⟨Nat.le_of_ble_eq_true rfl, Nat.le_of_ble_eq_true rfl⟩).run (fun hw_11 => ?_)
    refine lv_goto (tgt := 101) hx hb dX12_factor_88 (by decide) ?_
    refine lv_aload_n hx hb dX12_factor_101 rfl (lv_at hl 1 rfl) ?_
    refine lv_dup hx hb dX12_factor_102 rfl ?_
    refine va_get (D := (dC, dI)) (ci := 14) (v := .int 6) (C := RX12) (T := TX12) (N := 23) hx hb hts kc_factor5_0 hown hK hP 0 rfl rfl 8 (by decide) (hts (.fieldLink RX12 89 "MistHeapsModel" "open" "I") kc_factor5_2) (fun _ h9 => h9) rfl dX12_factor_103 ?_
    refine lv_iconst (v := 1) hx hb dX12_factor_106 (by decide) ?_
    refine lv_isub hx hb dX12_factor_107 ?_
    refine qi_as (y := 5) (by decide) ?_
    refine va_put (D := (dC, dI)) (ci := 14) (v := .int 5) (ty := .int) (C := RX12) (T := TX12) (N := 23) hx hb hts kc_factor5_0 tyX12 tyX12_ok nmX12 hown hK hP hD hS 0 rfl rfl 8 (by decide) (hts (.fieldLink RX12 89 "MistHeapsModel" "open" "I") kc_factor5_2) (fun _ h9 => h9) rfl (by decide +kernel) rfl rfl (Nat.le_of_ble_eq_true rfl) dX12_factor_108 (fun H locs hP hD hS => ?_)
    have hP : va_P (dC, dI) vwCl [(zo14irriiiiiirriirrrrlriiii m0 th aS aI im (nI a) (nI (p0 + 0)) (nI E) 1 5 aB aT se dn aG aO aN aD bv aY rn kd nu tv), (zaI aS cS 901 fS)] H := hP
    have hD : va_D A [(zo14irriiiiiirriirrrrlriiii m0 th aS aI im (nI a) (nI (p0 + 0)) (nI E) 1 5 aB aT se dn aG aO aN aD bv aY rn kd nu tv), (zaI aS cS 901 fS)] := hD
    rw [hQ]
    have hP9 := hP.sub (ws' := [(zo14irriiiiiirriirrrrlriiii m0 th aS aI im (nI a) (nI (p0 + 0)) (nI E) 1 5 aB aT se dn aG aO aN aD bv aY rn kd nu tv), (zaI aS cS 901 fS)]) [0, 1] rfl
    have hD9 := hD.sub (ws' := [(zo14irriiiiiirriirrrrlriiii m0 th aS aI im (nI a) (nI (p0 + 0)) (nI E) 1 5 aB aT se dn aG aO aN aD bv aY rn kd nu tv), (zaI aS cS 901 fS)]) [0, 1] (by decide) rfl
    have hK9 := hK.sub (tys' := [(cS, .int)]) [0] rfl
    exact W.vret hx hb hr (fun tQ htQ hWQ => ⟨⟨(fS, (nI (p0 + 0)), 1), rfl, ⟨p0 + 0, rfl, by omega, by omega, PF.rf, Or.inl ⟨rfl, pf_0 (Or.inl hs)⟩⟩, by rw [htQ]; exact hP9, va_K.moved hWQ.alike hK9, hD9⟩, hS.F htQ⟩) hS.2.2 dX12_factor_111
  · skip
    have hn33 : ¬ ss p0 = 33 := fun z => c_4 (hw_3.trans ((gT.eq (c := 33) (by omega) (by omega)).mpr z))
    refine lv_iload_n hx hb dX12_factor_19 rfl (lv_at hl 0 rfl) ?_
    refine lv_bipush (v := 40) hx hb dX12_factor_20 (by decide) ?_
    refine lv_icmp_ne (tgt := 112) hx hb dX12_factor_22 (by decide) (fun c_12 => ?_) (fun c_12 => ?_)
    · skip
      have hn40 : ¬ ss p0 = 40 := fun z => c_12 (hw_3.trans ((gT.eq (c := 40) (by omega) (by omega)).mpr z))
      refine lv_aload_n hx hb dX12_factor_112 rfl (lv_at hl 1 rfl) ?_
      refine va_ldcS hx hb hown (show vk_R RX12 101 "hkrcms" (sK 6) s from hE.1 6 (by decide)) dX12_factor_113 ?_
      have hPc := hP.sub (ws' := [(zo14irriiiiiirriirrrrlriiii m0 th aS aI im (nI a) (nI p0) (nI E) 0 5 aB aT se dn aG aO aN aD bv aY rn kd nu tv), (zaI aS cS 901 fS)]) [0, 1] rfl
      have hDc := hD.sub (ws' := [(zo14irriiiiiirriirrrrlriiii m0 th aS aI im (nI a) (nI p0) (nI E) 0 5 aB aT se dn aG aO aN aD bv aY rn kd nu tv), (zaI aS cS 901 fS)]) [0, 1] (by decide) rfl
      have hKc := hK.sub (tys' := [(cS, .int)]) [0] rfl
      have hFc := va_free (wc := [(zo14irriiiiiirriirrrrlriiii m0 th aS aI im (nI a) (nI p0) (nI E) 0 5 aB aT se dn aG aO aN aD bv aY rn kd nu tv), (zaI aS cS 901 fS)]) hD hS hA [0, 1] rfl
      refine va_calli (va_runV (As := [.ref (sK 6)]) (rest := []) ⟨hx, hb, hml, hown, hts⟩ (c_among l dC dI sK sV m0 aS aI aB aT aG aO aN aD aY th im (nI a) (nI p0) (nI E) 0 5 se dn rn kd nu tv bv cS fS a p0 E 6 ss H.size (by omega) (by omega) (by omega) (by decide) (gT)) (cwV 1 hts gX12_factor_X12_among rfl rfl rfl hd_yX12_among ⟨Nat.le_of_ble_eq_true rfl, Nat.le_of_ble_eq_true rfl⟩) ⟨fun a U g mk q => by obtain ⟨q0, q1, qP, qK, qD, qhE⟩ := q; exact ⟨q0, q1, qP, va_K.moved (u := U) (U := U.calling g mk a) (Vm.Alike.refl U.vm) qK, qD, qhE.same rfl rfl⟩, va_recv hK hP (ci := 14) (q := (RX12, TX12, 23)) (q0 := 0) rfl rfl, fun U hU hW => ⟨rfl, by rw [hU], by rw [hU]; exact hPc, va_K.moved hW.alike hKc, hDc.weaken (fun _ _ _ _ => trivial), hE.call hS hU hW (fun q h => hFc q h)⟩⟩ rfl rfl hl.1 rfl (lv_room (Nat.le_of_ble_eq_true rfl)) dX12_factor_115 ⟨Nat.le_of_ble_eq_true rfl, Nat.le_of_ble_eq_true rfl⟩) hS (fun q _ h => hFc q h) hFc (fun r_13 u tC H1 locs htC hvm hw_14 hB hz1 hk1 hS => ?_)
      obtain ⟨sp9_15, rfl⟩ : ∃ z, z = u := ⟨_, rfl⟩
      try dsimp only at hw_14 hB
      obtain ⟨hP1, hK1, hD1⟩ := hB
      rw [htC] at hP1
      have hK1 := va_K.moved hvm.symm hK1
      obtain ⟨hP, hD⟩ := va_join (wr := []) (w1 := [(zo14irriiiiiirriirrrrlriiii m0 th aS aI im (nI a) sp9_15 (nI E) 0 5 aB aT se dn aG aO aN aD bv aY rn kd nu tv), (zaI aS cS 901 fS)]) hP hD [0, 1] [] rfl rfl (by decide) (by decide) hk1 hFc hP1 hD1
      have hK := (hK.sub (tys' := []) [] rfl).app hK1
      generalize H1 = H at hP hS ⊢
      have hP : va_P (dC, dI) vwCl [(zo14irriiiiiirriirrrrlriiii m0 th aS aI im (nI a) sp9_15 (nI E) 0 5 aB aT se dn aG aO aN aD bv aY rn kd nu tv), (zaI aS cS 901 fS)] H := hP
      have hD : va_D A [(zo14irriiiiiirriirrrrlriiii m0 th aS aI im (nI a) sp9_15 (nI E) 0 5 aB aT se dn aG aO aN aD bv aY rn kd nu tv), (zaI aS cS 901 fS)] := hD
      have hK : va_K (dC, dI) vwCl [(cS, .int)] s := hK
      rcases hw_14 with ⟨rfl, rfl, h_19⟩ | ⟨j_16, hj_17, rfl, h_18, rfl, h_19⟩
      · skip
        have hx6 := am6_n (fun q hq => h_19 q hq)
        refine lv_istore_n (lv' := [(2, .int (-1)), (1, .int r_2), (0, .ref m0)]) hx hb dX12_factor_118 rfl hl (by decide) rfl (fun ls hl => ?_)
        refine lv_aload_n hx hb dX12_factor_119 rfl (lv_at hl 2 rfl) ?_
        refine lv_iload_n hx hb dX12_factor_120 rfl (lv_at hl 0 rfl) ?_
        refine lv_iconst (v := (-1)) hx hb dX12_factor_121 (by decide) ?_
        refine lv_icmp_ne (tgt := 129) hx hb dX12_factor_122 (by decide) (fun c_20 => absurd c_20 (by decide)) (fun _ => ?_)
        refine lv_iconst (v := 1) hx hb dX12_factor_125 (by decide) ?_
        refine lv_goto (tgt := 130) hx hb dX12_factor_126 (by decide) ?_
        refine va_put (D := (dC, dI)) (ci := 14) (v := .int 1) (ty := .boolean) (C := RX12) (T := TX12) (N := 23) hx hb hts kc_factor5_0 tyX12 tyX12_ok nmX12 hown hK hP hD hS 0 rfl rfl 7 (by decide) (hts (.fieldLink RX12 65 "MistHeapsModel" "isWrong" "Z") kc_factor5_1) (fun _ h9 => h9) rfl (by decide +kernel) rfl rfl (Nat.le_of_ble_eq_true rfl) dX12_factor_130 (fun H locs hP hD hS => ?_)
        have hP : va_P (dC, dI) vwCl [(zo14irriiiiiirriirrrrlriiii m0 th aS aI im (nI a) (nI p0) (nI E) 1 5 aB aT se dn aG aO aN aD bv aY rn kd nu tv), (zaI aS cS 901 fS)] H := hP
        have hD : va_D A [(zo14irriiiiiirriirrrrlriiii m0 th aS aI im (nI a) (nI p0) (nI E) 1 5 aB aT se dn aG aO aN aD bv aY rn kd nu tv), (zaI aS cS 901 fS)] := hD
        refine lv_aload_n hx hb dX12_factor_133 rfl (lv_at hl 2 rfl) ?_
        refine va_get (D := (dC, dI)) (ci := 14) (v := .int 1) (C := RX12) (T := TX12) (N := 23) hx hb hts kc_factor5_0 hown hK hP 0 rfl rfl 7 (by decide) (hts (.fieldLink RX12 65 "MistHeapsModel" "isWrong" "Z") kc_factor5_1) (fun _ h9 => h9) rfl dX12_factor_134 ?_
        refine lv_if_eq (tgt := 144) hx hb dX12_factor_137 (by decide) (fun c_21 => absurd c_21 (by decide)) (fun _ => ?_)
        refine lv_iconst (v := 0) hx hb dX12_factor_140 (by decide) ?_
        refine lv_goto (tgt := 150) hx hb dX12_factor_141 (by decide) ?_
        refine lv_istore_n (lv' := [(3, .int 0), (2, .int (-1)), (1, .int r_2), (0, .ref m0)]) hx hb dX12_factor_150 rfl hl (by decide) rfl (fun ls hl => ?_)
        refine lv_aload_n hx hb dX12_factor_151 rfl (lv_at hl 3 rfl) ?_
        refine lv_aload_n hx hb dX12_factor_152 rfl (lv_at hl 3 rfl) ?_
        refine va_get (D := (dC, dI)) (ci := 14) (v := .int 1) (C := RX12) (T := TX12) (N := 23) hx hb hts kc_factor5_0 hown hK hP 0 rfl rfl 7 (by decide) (hts (.fieldLink RX12 65 "MistHeapsModel" "isWrong" "Z") kc_factor5_1) (fun _ h9 => h9) rfl dX12_factor_153 ?_
        refine lv_if_ne (tgt := 164) hx hb dX12_factor_156 (by decide) (fun _ => ?_) (fun c_22 => absurd c_22 (by decide))
        refine lv_iconst (v := 1) hx hb dX12_factor_164 (by decide) ?_
        refine lv_goto (tgt := 169) hx hb dX12_factor_165 (by decide) ?_
        refine va_put (D := (dC, dI)) (ci := 14) (v := .int 1) (ty := .boolean) (C := RX12) (T := TX12) (N := 23) hx hb hts kc_factor5_0 tyX12 tyX12_ok nmX12 hown hK hP hD hS 0 rfl rfl 7 (by decide) (hts (.fieldLink RX12 65 "MistHeapsModel" "isWrong" "Z") kc_factor5_1) (fun _ h9 => h9) rfl (by decide +kernel) rfl rfl (Nat.le_of_ble_eq_true rfl) dX12_factor_169 (fun H locs hP hD hS => ?_)
        have hP : va_P (dC, dI) vwCl [(zo14irriiiiiirriirrrrlriiii m0 th aS aI im (nI a) (nI p0) (nI E) 1 5 aB aT se dn aG aO aN aD bv aY rn kd nu tv), (zaI aS cS 901 fS)] H := hP
        have hD : va_D A [(zo14irriiiiiirriirrrrlriiii m0 th aS aI im (nI a) (nI p0) (nI E) 1 5 aB aT se dn aG aO aN aD bv aY rn kd nu tv), (zaI aS cS 901 fS)] := hD
        refine lv_aload_n hx hb dX12_factor_172 rfl (lv_at hl 3 rfl) ?_
        have hPc := hP.sub (ws' := [(zo14irriiiiiirriirrrrlriiii m0 th aS aI im (nI a) (nI p0) (nI E) 1 5 aB aT se dn aG aO aN aD bv aY rn kd nu tv), (zaI aS cS 901 fS)]) [0, 1] rfl
        have hDc := hD.sub (ws' := [(zo14irriiiiiirriirrrrlriiii m0 th aS aI im (nI a) (nI p0) (nI E) 1 5 aB aT se dn aG aO aN aD bv aY rn kd nu tv), (zaI aS cS 901 fS)]) [0, 1] (by decide) rfl
        have hKc := hK.sub (tys' := [(cS, .int)]) [0] rfl
        have hFc := va_free (wc := [(zo14irriiiiiirriirrrrlriiii m0 th aS aI im (nI a) (nI p0) (nI E) 1 5 aB aT se dn aG aO aN aD bv aY rn kd nu tv), (zaI aS cS 901 fS)]) hD hS hA [0, 1] rfl
        refine va_calli (va_runV (As := []) (rest := []) ⟨hx, hb, hml, hown, hts⟩ (c_figures l dC dI m0 aS aI aB aT aG aO aN aD aY th im (nI a) (nI p0) (nI E) 1 5 se dn rn kd nu tv bv cS fS a p0 E ss H.size (by omega) (by omega) (by omega) (Or.inr rfl) (gT)) (cwV 0 hts gX12_factor_X12_figures rfl rfl rfl hd_yX12_figures ⟨Nat.le_of_ble_eq_true rfl, Nat.le_of_ble_eq_true rfl⟩) ⟨fun a U g mk q => by obtain ⟨q0, q1, qP, qK, qD⟩ := q; exact ⟨q0, q1, qP, va_K.moved (u := U) (U := U.calling g mk a) (Vm.Alike.refl U.vm) qK, qD⟩, va_recv hK hP (ci := 14) (q := (RX12, TX12, 23)) (q0 := 0) rfl rfl, fun U hU hW => ⟨rfl, by rw [hU], by rw [hU]; exact hPc, va_K.moved hW.alike hKc, hDc.weaken (fun _ _ _ _ => trivial)⟩⟩ rfl rfl hl.1 rfl (lv_room (Nat.le_of_ble_eq_true rfl)) dX12_factor_173 ⟨Nat.le_of_ble_eq_true rfl, Nat.le_of_ble_eq_true rfl⟩) hS (fun q _ h => hFc q h) hFc (fun r_23 u tC H1 locs htC hvm hw_24 hB hz1 hk1 hS => ?_)
        obtain ⟨sp9_25, wg9_26⟩ := u
        try dsimp only at hw_24 hB
        obtain ⟨hP1, hK1, hD1⟩ := hB
        rw [htC] at hP1
        have hK1 := va_K.moved hvm.symm hK1
        obtain ⟨hP, hD⟩ := va_join (wr := []) (w1 := [(zo14irriiiiiirriirrrrlriiii m0 th aS aI im (nI a) sp9_25 (nI E) wg9_26 5 aB aT se dn aG aO aN aD bv aY rn kd nu tv), (zaI aS cS 901 fS)]) hP hD [0, 1] [] rfl rfl (by decide) (by decide) hk1 hFc hP1 hD1
        have hK := (hK.sub (tys' := []) [] rfl).app hK1
        generalize H1 = H at hP hS ⊢
        have hP : va_P (dC, dI) vwCl [(zo14irriiiiiirriirrrrlriiii m0 th aS aI im (nI a) sp9_25 (nI E) wg9_26 5 aB aT se dn aG aO aN aD bv aY rn kd nu tv), (zaI aS cS 901 fS)] H := hP
        have hD : va_D A [(zo14irriiiiiirriirrrrlriiii m0 th aS aI im (nI a) sp9_25 (nI E) wg9_26 5 aB aT se dn aG aO aN aD bv aY rn kd nu tv), (zaI aS cS 901 fS)] := hD
        have hK : va_K (dC, dI) vwCl [(cS, .int)] s := hK
        rcases hw_24 with ⟨rfl, rfl, hN_34, v_27, h_29, rfl⟩ | ⟨rfl, h_33, v_27, p_28, h_29, h_30, h_31, rfl, rfl, hN_34⟩
        · skip
          refine lv_istore (lv' := [(4, .int (nI v_27)), (3, .int 0), (2, .int (-1)), (1, .int r_2), (0, .ref m0)]) hx hb dX12_factor_176 hl (by decide) rfl (fun ls hl => ?_)
          refine lv_aload_n hx hb dX12_factor_178 rfl (lv_at hl 4 rfl) ?_
          refine lv_iload_n hx hb dX12_factor_179 rfl (lv_at hl 2 rfl) ?_
          refine lv_bipush (v := 8) hx hb dX12_factor_180 (by decide) ?_
          refine lv_iload_n hx hb dX12_factor_182 rfl (lv_at hl 1 rfl) ?_
          refine lv_imul hx hb dX12_factor_183 ?_
          refine qi_as (y := 0) (by decide) ?_
          refine lv_iadd hx hb dX12_factor_184 ?_
          refine qi_as (y := (-1)) (by decide) ?_
          refine lv_bipush (v := 32) hx hb dX12_factor_185 (by decide) ?_
          refine lv_iload hx hb dX12_factor_187 (lv_at hl 0 rfl) ?_
          refine lv_imul hx hb dX12_factor_189 ?_
          refine qi_as (y := nI (32 * v_27)) (pk_mul 32 v_27) ?_
          refine lv_iadd hx hb dX12_factor_190 ?_
          have hPc := hP.sub (ws' := [(zo14irriiiiiirriirrrrlriiii m0 th aS aI im (nI a) (nI p0) (nI E) 1 5 aB aT se dn aG aO aN aD bv aY rn kd nu tv)]) [0] rfl
          have hKc := hK.sub (tys' := []) [] rfl
          refine va_csv (va_runV (As := [.int ((-1) + (nI (32 * v_27)))]) (rest := []) ⟨hx, hb, hml, hown, hts⟩ (c_emitsW l dC dI m0 aS aI aB aT aG aO aN aD aY th im (nI a) (nI p0) (nI E) 1 5 se dn rn kd nu tv bv ((-1) + (nI (32 * v_27)))) (cwV 1 hts gX12_factor_X12_emits rfl rfl rfl hd_yX12_emits ⟨Nat.le_of_ble_eq_true rfl, Nat.le_of_ble_eq_true rfl⟩) ⟨fun a U g mk q => by obtain ⟨q0, qP, qK⟩ := q; exact ⟨q0, qP, va_K.moved (u := U) (U := U.calling g mk a) (Vm.Alike.refl U.vm) qK⟩, va_recv hK hP (ci := 14) (q := (RX12, TX12, 23)) (q0 := 0) rfl rfl, fun U hU hW => ⟨rfl, by rw [hU]; exact hPc, va_K.moved hW.alike hKc⟩⟩ rfl rfl hl.1 rfl (lv_room (Nat.le_of_ble_eq_true rfl)) dX12_factor_191 ⟨Nat.le_of_ble_eq_true rfl, Nat.le_of_ble_eq_true rfl⟩).run (fun hw_36 => ?_)
          rw [hQ]
          have hP9 := hP.sub (ws' := [(zo14irriiiiiirriirrrrlriiii m0 th aS aI im (nI a) (nI p0) (nI E) 1 5 aB aT se dn aG aO aN aD bv aY rn kd nu tv), (zaI aS cS 901 fS)]) [0, 1] rfl
          have hD9 := hD.sub (ws' := [(zo14irriiiiiirriirrrrlriiii m0 th aS aI im (nI a) (nI p0) (nI E) 1 5 aB aT se dn aG aO aN aD bv aY rn kd nu tv), (zaI aS cS 901 fS)]) [0, 1] (by decide) rfl
          have hK9 := hK.sub (tys' := [(cS, .int)]) [0] rfl
          exact W.vret hx hb hr (fun tQ htQ hWQ => ⟨⟨(fS, (nI p0), 1), rfl, ⟨p0, rfl, by omega, by omega, PF.rf, Or.inl ⟨rfl, (pf_t hn33 hn40).trans (pt_1 hx6)⟩⟩, by rw [htQ]; exact hP9, va_K.moved hWQ.alike hK9, hD9⟩, hS.F htQ⟩) hS.2.2 dX12_factor_194
        · skip
          exact absurd h_33 (by decide)
      · skip
        have hj_17 : j_16 < 6 := hj_17
        have hx6 := am6_y hj_17 h_19
        refine lv_istore_n (lv' := [(2, .int (nI j_16)), (1, .int r_2), (0, .ref m0)]) hx hb dX12_factor_118 rfl hl (by decide) rfl (fun ls hl => ?_)
        refine lv_aload_n hx hb dX12_factor_119 rfl (lv_at hl 2 rfl) ?_
        refine lv_iload_n hx hb dX12_factor_120 rfl (lv_at hl 0 rfl) ?_
        refine lv_iconst (v := (-1)) hx hb dX12_factor_121 (by decide) ?_
        refine lv_icmp_ne (tgt := 129) hx hb dX12_factor_122 (by decide) (fun c_37 => ?_) (fun c_37 => absurd c_37 (nI_nm1 (by omega)))
        refine lv_iconst (v := 0) hx hb dX12_factor_129 (by decide) ?_
        refine va_put (D := (dC, dI)) (ci := 14) (v := .int 0) (ty := .boolean) (C := RX12) (T := TX12) (N := 23) hx hb hts kc_factor5_0 tyX12 tyX12_ok nmX12 hown hK hP hD hS 0 rfl rfl 7 (by decide) (hts (.fieldLink RX12 65 "MistHeapsModel" "isWrong" "Z") kc_factor5_1) (fun _ h9 => h9) rfl (by decide +kernel) rfl rfl (Nat.le_of_ble_eq_true rfl) dX12_factor_130 (fun H locs hP hD hS => ?_)
        have hP : va_P (dC, dI) vwCl [(zo14irriiiiiirriirrrrlriiii m0 th aS aI im (nI a) (nI (p0 + 1)) (nI E) 0 5 aB aT se dn aG aO aN aD bv aY rn kd nu tv), (zaI aS cS 901 fS)] H := hP
        have hD : va_D A [(zo14irriiiiiirriirrrrlriiii m0 th aS aI im (nI a) (nI (p0 + 1)) (nI E) 0 5 aB aT se dn aG aO aN aD bv aY rn kd nu tv), (zaI aS cS 901 fS)] := hD
        refine lv_aload_n hx hb dX12_factor_133 rfl (lv_at hl 2 rfl) ?_
        refine va_get (D := (dC, dI)) (ci := 14) (v := .int 0) (C := RX12) (T := TX12) (N := 23) hx hb hts kc_factor5_0 hown hK hP 0 rfl rfl 7 (by decide) (hts (.fieldLink RX12 65 "MistHeapsModel" "isWrong" "Z") kc_factor5_1) (fun _ h9 => h9) rfl dX12_factor_134 ?_
        refine lv_if_eq (tgt := 144) hx hb dX12_factor_137 (by decide) (fun _ => ?_) (fun c_38 => absurd c_38 (by decide))
        refine lv_aload_n hx hb dX12_factor_144 rfl (lv_at hl 2 rfl) ?_
        refine va_ldcS hx hb hown (show vk_R RX12 107 "<=>" (sK 7) s from hE.1 7 (by decide)) dX12_factor_145 ?_
        have hPc := hP.sub (ws' := [(zo14irriiiiiirriirrrrlriiii m0 th aS aI im (nI a) (nI (p0 + 1)) (nI E) 0 5 aB aT se dn aG aO aN aD bv aY rn kd nu tv), (zaI aS cS 901 fS)]) [0, 1] rfl
        have hDc := hD.sub (ws' := [(zo14irriiiiiirriirrrrlriiii m0 th aS aI im (nI a) (nI (p0 + 1)) (nI E) 0 5 aB aT se dn aG aO aN aD bv aY rn kd nu tv), (zaI aS cS 901 fS)]) [0, 1] (by decide) rfl
        have hKc := hK.sub (tys' := [(cS, .int)]) [0] rfl
        have hFc := va_free (wc := [(zo14irriiiiiirriirrrrlriiii m0 th aS aI im (nI a) (nI (p0 + 1)) (nI E) 0 5 aB aT se dn aG aO aN aD bv aY rn kd nu tv), (zaI aS cS 901 fS)]) hD hS hA [0, 1] rfl
        refine va_calli (va_runV (As := [.ref (sK 7)]) (rest := []) ⟨hx, hb, hml, hown, hts⟩ (c_among l dC dI sK sV m0 aS aI aB aT aG aO aN aD aY th im (nI a) (nI (p0 + 1)) (nI E) 0 5 se dn rn kd nu tv bv cS fS a (p0 + 1) E 7 ss H.size (by omega) (by omega) (by omega) (by decide) (gT)) (cwV 1 hts gX12_factor_X12_among rfl rfl rfl hd_yX12_among ⟨Nat.le_of_ble_eq_true rfl, Nat.le_of_ble_eq_true rfl⟩) ⟨fun a U g mk q => by obtain ⟨q0, q1, qP, qK, qD, qhE⟩ := q; exact ⟨q0, q1, qP, va_K.moved (u := U) (U := U.calling g mk a) (Vm.Alike.refl U.vm) qK, qD, qhE.same rfl rfl⟩, va_recv hK hP (ci := 14) (q := (RX12, TX12, 23)) (q0 := 0) rfl rfl, fun U hU hW => ⟨rfl, by rw [hU], by rw [hU]; exact hPc, va_K.moved hW.alike hKc, hDc.weaken (fun _ _ _ _ => trivial), hE.call hS hU hW (fun q h => hFc q h)⟩⟩ rfl rfl hl.1 rfl (lv_room (Nat.le_of_ble_eq_true rfl)) dX12_factor_147 ⟨Nat.le_of_ble_eq_true rfl, Nat.le_of_ble_eq_true rfl⟩) hS (fun q _ h => hFc q h) hFc (fun r_39 u tC H1 locs htC hvm hw_40 hB hz1 hk1 hS => ?_)
        obtain ⟨sp9_41, rfl⟩ : ∃ z, z = u := ⟨_, rfl⟩
        try dsimp only at hw_40 hB
        obtain ⟨hP1, hK1, hD1⟩ := hB
        rw [htC] at hP1
        have hK1 := va_K.moved hvm.symm hK1
        obtain ⟨hP, hD⟩ := va_join (wr := []) (w1 := [(zo14irriiiiiirriirrrrlriiii m0 th aS aI im (nI a) sp9_41 (nI E) 0 5 aB aT se dn aG aO aN aD bv aY rn kd nu tv), (zaI aS cS 901 fS)]) hP hD [0, 1] [] rfl rfl (by decide) (by decide) hk1 hFc hP1 hD1
        have hK := (hK.sub (tys' := []) [] rfl).app hK1
        generalize H1 = H at hP hS ⊢
        have hP : va_P (dC, dI) vwCl [(zo14irriiiiiirriirrrrlriiii m0 th aS aI im (nI a) sp9_41 (nI E) 0 5 aB aT se dn aG aO aN aD bv aY rn kd nu tv), (zaI aS cS 901 fS)] H := hP
        have hD : va_D A [(zo14irriiiiiirriirrrrlriiii m0 th aS aI im (nI a) sp9_41 (nI E) 0 5 aB aT se dn aG aO aN aD bv aY rn kd nu tv), (zaI aS cS 901 fS)] := hD
        have hK : va_K (dC, dI) vwCl [(cS, .int)] s := hK
        rcases hw_40 with ⟨rfl, rfl, h_45⟩ | ⟨j_42, hj_43, rfl, h_44, rfl, h_45⟩
        · skip
          have hx3 := am3_n (fun q hq => h_45 q hq)
          refine lv_istore_n (lv' := [(3, .int (-1)), (2, .int (nI j_16)), (1, .int r_2), (0, .ref m0)]) hx hb dX12_factor_150 rfl hl (by decide) rfl (fun ls hl => ?_)
          refine lv_aload_n hx hb dX12_factor_151 rfl (lv_at hl 3 rfl) ?_
          refine lv_aload_n hx hb dX12_factor_152 rfl (lv_at hl 3 rfl) ?_
          refine va_get (D := (dC, dI)) (ci := 14) (v := .int 0) (C := RX12) (T := TX12) (N := 23) hx hb hts kc_factor5_0 hown hK hP 0 rfl rfl 7 (by decide) (hts (.fieldLink RX12 65 "MistHeapsModel" "isWrong" "Z") kc_factor5_1) (fun _ h9 => h9) rfl dX12_factor_153 ?_
          refine lv_if_ne (tgt := 164) hx hb dX12_factor_156 (by decide) (fun c_46 => absurd c_46 (by decide)) (fun _ => ?_)
          refine lv_iload_n hx hb dX12_factor_159 rfl (lv_at hl 0 rfl) ?_
          refine lv_iconst (v := (-1)) hx hb dX12_factor_160 (by decide) ?_
          refine lv_icmp_ne (tgt := 168) hx hb dX12_factor_161 (by decide) (fun c_47 => absurd c_47 (by decide)) (fun _ => ?_)
          refine lv_iconst (v := 1) hx hb dX12_factor_164 (by decide) ?_
          refine lv_goto (tgt := 169) hx hb dX12_factor_165 (by decide) ?_
          refine va_put (D := (dC, dI)) (ci := 14) (v := .int 1) (ty := .boolean) (C := RX12) (T := TX12) (N := 23) hx hb hts kc_factor5_0 tyX12 tyX12_ok nmX12 hown hK hP hD hS 0 rfl rfl 7 (by decide) (hts (.fieldLink RX12 65 "MistHeapsModel" "isWrong" "Z") kc_factor5_1) (fun _ h9 => h9) rfl (by decide +kernel) rfl rfl (Nat.le_of_ble_eq_true rfl) dX12_factor_169 (fun H locs hP hD hS => ?_)
          have hP : va_P (dC, dI) vwCl [(zo14irriiiiiirriirrrrlriiii m0 th aS aI im (nI a) (nI (p0 + 1)) (nI E) 1 5 aB aT se dn aG aO aN aD bv aY rn kd nu tv), (zaI aS cS 901 fS)] H := hP
          have hD : va_D A [(zo14irriiiiiirriirrrrlriiii m0 th aS aI im (nI a) (nI (p0 + 1)) (nI E) 1 5 aB aT se dn aG aO aN aD bv aY rn kd nu tv), (zaI aS cS 901 fS)] := hD
          refine lv_aload_n hx hb dX12_factor_172 rfl (lv_at hl 3 rfl) ?_
          have hPc := hP.sub (ws' := [(zo14irriiiiiirriirrrrlriiii m0 th aS aI im (nI a) (nI (p0 + 1)) (nI E) 1 5 aB aT se dn aG aO aN aD bv aY rn kd nu tv), (zaI aS cS 901 fS)]) [0, 1] rfl
          have hDc := hD.sub (ws' := [(zo14irriiiiiirriirrrrlriiii m0 th aS aI im (nI a) (nI (p0 + 1)) (nI E) 1 5 aB aT se dn aG aO aN aD bv aY rn kd nu tv), (zaI aS cS 901 fS)]) [0, 1] (by decide) rfl
          have hKc := hK.sub (tys' := [(cS, .int)]) [0] rfl
          have hFc := va_free (wc := [(zo14irriiiiiirriirrrrlriiii m0 th aS aI im (nI a) (nI (p0 + 1)) (nI E) 1 5 aB aT se dn aG aO aN aD bv aY rn kd nu tv), (zaI aS cS 901 fS)]) hD hS hA [0, 1] rfl
          refine va_calli (va_runV (As := []) (rest := []) ⟨hx, hb, hml, hown, hts⟩ (c_figures l dC dI m0 aS aI aB aT aG aO aN aD aY th im (nI a) (nI (p0 + 1)) (nI E) 1 5 se dn rn kd nu tv bv cS fS a (p0 + 1) E ss H.size (by omega) (by omega) (by omega) (Or.inr rfl) (gT)) (cwV 0 hts gX12_factor_X12_figures rfl rfl rfl hd_yX12_figures ⟨Nat.le_of_ble_eq_true rfl, Nat.le_of_ble_eq_true rfl⟩) ⟨fun a U g mk q => by obtain ⟨q0, q1, qP, qK, qD⟩ := q; exact ⟨q0, q1, qP, va_K.moved (u := U) (U := U.calling g mk a) (Vm.Alike.refl U.vm) qK, qD⟩, va_recv hK hP (ci := 14) (q := (RX12, TX12, 23)) (q0 := 0) rfl rfl, fun U hU hW => ⟨rfl, by rw [hU], by rw [hU]; exact hPc, va_K.moved hW.alike hKc, hDc.weaken (fun _ _ _ _ => trivial)⟩⟩ rfl rfl hl.1 rfl (lv_room (Nat.le_of_ble_eq_true rfl)) dX12_factor_173 ⟨Nat.le_of_ble_eq_true rfl, Nat.le_of_ble_eq_true rfl⟩) hS (fun q _ h => hFc q h) hFc (fun r_48 u tC H1 locs htC hvm hw_49 hB hz1 hk1 hS => ?_)
          obtain ⟨sp9_50, wg9_51⟩ := u
          try dsimp only at hw_49 hB
          obtain ⟨hP1, hK1, hD1⟩ := hB
          rw [htC] at hP1
          have hK1 := va_K.moved hvm.symm hK1
          obtain ⟨hP, hD⟩ := va_join (wr := []) (w1 := [(zo14irriiiiiirriirrrrlriiii m0 th aS aI im (nI a) sp9_50 (nI E) wg9_51 5 aB aT se dn aG aO aN aD bv aY rn kd nu tv), (zaI aS cS 901 fS)]) hP hD [0, 1] [] rfl rfl (by decide) (by decide) hk1 hFc hP1 hD1
          have hK := (hK.sub (tys' := []) [] rfl).app hK1
          generalize H1 = H at hP hS ⊢
          have hP : va_P (dC, dI) vwCl [(zo14irriiiiiirriirrrrlriiii m0 th aS aI im (nI a) sp9_50 (nI E) wg9_51 5 aB aT se dn aG aO aN aD bv aY rn kd nu tv), (zaI aS cS 901 fS)] H := hP
          have hD : va_D A [(zo14irriiiiiirriirrrrlriiii m0 th aS aI im (nI a) sp9_50 (nI E) wg9_51 5 aB aT se dn aG aO aN aD bv aY rn kd nu tv), (zaI aS cS 901 fS)] := hD
          have hK : va_K (dC, dI) vwCl [(cS, .int)] s := hK
          rcases hw_49 with ⟨rfl, rfl, hN_59, v_52, h_54, rfl⟩ | ⟨rfl, h_58, v_52, p_53, h_54, h_55, h_56, rfl, rfl, hN_59⟩
          · skip
            refine lv_istore (lv' := [(4, .int (nI v_52)), (3, .int (-1)), (2, .int (nI j_16)), (1, .int r_2), (0, .ref m0)]) hx hb dX12_factor_176 hl (by decide) rfl (fun ls hl => ?_)
            refine lv_aload_n hx hb dX12_factor_178 rfl (lv_at hl 4 rfl) ?_
            refine lv_iload_n hx hb dX12_factor_179 rfl (lv_at hl 2 rfl) ?_
            refine lv_bipush (v := 8) hx hb dX12_factor_180 (by decide) ?_
            refine lv_iload_n hx hb dX12_factor_182 rfl (lv_at hl 1 rfl) ?_
            refine lv_imul hx hb dX12_factor_183 ?_
            refine qi_as (y := (-8)) (by decide) ?_
            refine lv_iadd hx hb dX12_factor_184 ?_
            refine lv_bipush (v := 32) hx hb dX12_factor_185 (by decide) ?_
            refine lv_iload hx hb dX12_factor_187 (lv_at hl 0 rfl) ?_
            refine lv_imul hx hb dX12_factor_189 ?_
            refine qi_as (y := nI (32 * v_52)) (pk_mul 32 v_52) ?_
            refine lv_iadd hx hb dX12_factor_190 ?_
            have hPc := hP.sub (ws' := [(zo14irriiiiiirriirrrrlriiii m0 th aS aI im (nI a) (nI (p0 + 1)) (nI E) 1 5 aB aT se dn aG aO aN aD bv aY rn kd nu tv)]) [0] rfl
            have hKc := hK.sub (tys' := []) [] rfl
            refine va_csv (va_runV (As := [.int (((nI j_16) + (-8)) + (nI (32 * v_52)))]) (rest := []) ⟨hx, hb, hml, hown, hts⟩ (c_emitsW l dC dI m0 aS aI aB aT aG aO aN aD aY th im (nI a) (nI (p0 + 1)) (nI E) 1 5 se dn rn kd nu tv bv (((nI j_16) + (-8)) + (nI (32 * v_52)))) (cwV 1 hts gX12_factor_X12_emits rfl rfl rfl hd_yX12_emits ⟨Nat.le_of_ble_eq_true rfl, Nat.le_of_ble_eq_true rfl⟩) ⟨fun a U g mk q => by obtain ⟨q0, qP, qK⟩ := q; exact ⟨q0, qP, va_K.moved (u := U) (U := U.calling g mk a) (Vm.Alike.refl U.vm) qK⟩, va_recv hK hP (ci := 14) (q := (RX12, TX12, 23)) (q0 := 0) rfl rfl, fun U hU hW => ⟨rfl, by rw [hU]; exact hPc, va_K.moved hW.alike hKc⟩⟩ rfl rfl hl.1 rfl (lv_room (Nat.le_of_ble_eq_true rfl)) dX12_factor_191 ⟨Nat.le_of_ble_eq_true rfl, Nat.le_of_ble_eq_true rfl⟩).run (fun hw_61 => ?_)
            rw [hQ]
            have hP9 := hP.sub (ws' := [(zo14irriiiiiirriirrrrlriiii m0 th aS aI im (nI a) (nI (p0 + 1)) (nI E) 1 5 aB aT se dn aG aO aN aD bv aY rn kd nu tv), (zaI aS cS 901 fS)]) [0, 1] rfl
            have hD9 := hD.sub (ws' := [(zo14irriiiiiirriirrrrlriiii m0 th aS aI im (nI a) (nI (p0 + 1)) (nI E) 1 5 aB aT se dn aG aO aN aD bv aY rn kd nu tv), (zaI aS cS 901 fS)]) [0, 1] (by decide) rfl
            have hK9 := hK.sub (tys' := [(cS, .int)]) [0] rfl
            exact W.vret hx hb hr (fun tQ htQ hWQ => ⟨⟨(fS, (nI (p0 + 1)), 1), rfl, ⟨p0 + 1, rfl, by omega, by omega, PF.rf, Or.inl ⟨rfl, (pf_t hn33 hn40).trans (pt_2 hx6 hx3)⟩⟩, by rw [htQ]; exact hP9, va_K.moved hWQ.alike hK9, hD9⟩, hS.F htQ⟩) hS.2.2 dX12_factor_194
          · skip
            exact absurd h_58 (by decide)
        · skip
          have hj_43 : j_42 < 3 := hj_43
          have hx3 := am3_y hj_43 h_45
          refine lv_istore_n (lv' := [(3, .int (nI j_42)), (2, .int (nI j_16)), (1, .int r_2), (0, .ref m0)]) hx hb dX12_factor_150 rfl hl (by decide) rfl (fun ls hl => ?_)
          refine lv_aload_n hx hb dX12_factor_151 rfl (lv_at hl 3 rfl) ?_
          refine lv_aload_n hx hb dX12_factor_152 rfl (lv_at hl 3 rfl) ?_
          refine va_get (D := (dC, dI)) (ci := 14) (v := .int 0) (C := RX12) (T := TX12) (N := 23) hx hb hts kc_factor5_0 hown hK hP 0 rfl rfl 7 (by decide) (hts (.fieldLink RX12 65 "MistHeapsModel" "isWrong" "Z") kc_factor5_1) (fun _ h9 => h9) rfl dX12_factor_153 ?_
          refine lv_if_ne (tgt := 164) hx hb dX12_factor_156 (by decide) (fun c_62 => absurd c_62 (by decide)) (fun _ => ?_)
          refine lv_iload_n hx hb dX12_factor_159 rfl (lv_at hl 0 rfl) ?_
          refine lv_iconst (v := (-1)) hx hb dX12_factor_160 (by decide) ?_
          refine lv_icmp_ne (tgt := 168) hx hb dX12_factor_161 (by decide) (fun c_63 => ?_) (fun c_63 => absurd c_63 (nI_nm1 (by omega)))
          refine lv_iconst (v := 0) hx hb dX12_factor_168 (by decide) ?_
          refine va_put (D := (dC, dI)) (ci := 14) (v := .int 0) (ty := .boolean) (C := RX12) (T := TX12) (N := 23) hx hb hts kc_factor5_0 tyX12 tyX12_ok nmX12 hown hK hP hD hS 0 rfl rfl 7 (by decide) (hts (.fieldLink RX12 65 "MistHeapsModel" "isWrong" "Z") kc_factor5_1) (fun _ h9 => h9) rfl (by decide +kernel) rfl rfl (Nat.le_of_ble_eq_true rfl) dX12_factor_169 (fun H locs hP hD hS => ?_)
          have hP : va_P (dC, dI) vwCl [(zo14irriiiiiirriirrrrlriiii m0 th aS aI im (nI a) (nI ((p0 + 1) + 1)) (nI E) 0 5 aB aT se dn aG aO aN aD bv aY rn kd nu tv), (zaI aS cS 901 fS)] H := hP
          have hD : va_D A [(zo14irriiiiiirriirrrrlriiii m0 th aS aI im (nI a) (nI ((p0 + 1) + 1)) (nI E) 0 5 aB aT se dn aG aO aN aD bv aY rn kd nu tv), (zaI aS cS 901 fS)] := hD
          refine lv_aload_n hx hb dX12_factor_172 rfl (lv_at hl 3 rfl) ?_
          have hPc := hP.sub (ws' := [(zo14irriiiiiirriirrrrlriiii m0 th aS aI im (nI a) (nI ((p0 + 1) + 1)) (nI E) 0 5 aB aT se dn aG aO aN aD bv aY rn kd nu tv), (zaI aS cS 901 fS)]) [0, 1] rfl
          have hDc := hD.sub (ws' := [(zo14irriiiiiirriirrrrlriiii m0 th aS aI im (nI a) (nI ((p0 + 1) + 1)) (nI E) 0 5 aB aT se dn aG aO aN aD bv aY rn kd nu tv), (zaI aS cS 901 fS)]) [0, 1] (by decide) rfl
          have hKc := hK.sub (tys' := [(cS, .int)]) [0] rfl
          have hFc := va_free (wc := [(zo14irriiiiiirriirrrrlriiii m0 th aS aI im (nI a) (nI ((p0 + 1) + 1)) (nI E) 0 5 aB aT se dn aG aO aN aD bv aY rn kd nu tv), (zaI aS cS 901 fS)]) hD hS hA [0, 1] rfl
          refine va_calli (va_runV (As := []) (rest := []) ⟨hx, hb, hml, hown, hts⟩ (c_figures l dC dI m0 aS aI aB aT aG aO aN aD aY th im (nI a) (nI ((p0 + 1) + 1)) (nI E) 0 5 se dn rn kd nu tv bv cS fS a ((p0 + 1) + 1) E ss H.size (by omega) (by omega) (by omega) (Or.inl rfl) (gT)) (cwV 0 hts gX12_factor_X12_figures rfl rfl rfl hd_yX12_figures ⟨Nat.le_of_ble_eq_true rfl, Nat.le_of_ble_eq_true rfl⟩) ⟨fun a U g mk q => by obtain ⟨q0, q1, qP, qK, qD⟩ := q; exact ⟨q0, q1, qP, va_K.moved (u := U) (U := U.calling g mk a) (Vm.Alike.refl U.vm) qK, qD⟩, va_recv hK hP (ci := 14) (q := (RX12, TX12, 23)) (q0 := 0) rfl rfl, fun U hU hW => ⟨rfl, by rw [hU], by rw [hU]; exact hPc, va_K.moved hW.alike hKc, hDc.weaken (fun _ _ _ _ => trivial)⟩⟩ rfl rfl hl.1 rfl (lv_room (Nat.le_of_ble_eq_true rfl)) dX12_factor_173 ⟨Nat.le_of_ble_eq_true rfl, Nat.le_of_ble_eq_true rfl⟩) hS (fun q _ h => hFc q h) hFc (fun r_64 u tC H1 locs htC hvm hw_65 hB hz1 hk1 hS => ?_)
          obtain ⟨sp9_66, wg9_67⟩ := u
          try dsimp only at hw_65 hB
          obtain ⟨hP1, hK1, hD1⟩ := hB
          rw [htC] at hP1
          have hK1 := va_K.moved hvm.symm hK1
          obtain ⟨hP, hD⟩ := va_join (wr := []) (w1 := [(zo14irriiiiiirriirrrrlriiii m0 th aS aI im (nI a) sp9_66 (nI E) wg9_67 5 aB aT se dn aG aO aN aD bv aY rn kd nu tv), (zaI aS cS 901 fS)]) hP hD [0, 1] [] rfl rfl (by decide) (by decide) hk1 hFc hP1 hD1
          have hK := (hK.sub (tys' := []) [] rfl).app hK1
          generalize H1 = H at hP hS ⊢
          have hP : va_P (dC, dI) vwCl [(zo14irriiiiiirriirrrrlriiii m0 th aS aI im (nI a) sp9_66 (nI E) wg9_67 5 aB aT se dn aG aO aN aD bv aY rn kd nu tv), (zaI aS cS 901 fS)] H := hP
          have hD : va_D A [(zo14irriiiiiirriirrrrlriiii m0 th aS aI im (nI a) sp9_66 (nI E) wg9_67 5 aB aT se dn aG aO aN aD bv aY rn kd nu tv), (zaI aS cS 901 fS)] := hD
          have hK : va_K (dC, dI) vwCl [(cS, .int)] s := hK
          rcases hw_65 with ⟨rfl, rfl, hN_75, v_68, h_70, rfl⟩ | ⟨rfl, h_74, v_68, p_69, h_70, h_71, h_72, rfl, rfl, hN_75⟩
          · skip
            have hN := hN_75 rfl
            refine lv_istore (lv' := [(4, .int (nI v_68)), (3, .int (nI j_42)), (2, .int (nI j_16)), (1, .int r_2), (0, .ref m0)]) hx hb dX12_factor_176 hl (by decide) rfl (fun ls hl => ?_)
            refine lv_aload_n hx hb dX12_factor_178 rfl (lv_at hl 4 rfl) ?_
            refine lv_iload_n hx hb dX12_factor_179 rfl (lv_at hl 2 rfl) ?_
            refine lv_bipush (v := 8) hx hb dX12_factor_180 (by decide) ?_
            refine lv_iload_n hx hb dX12_factor_182 rfl (lv_at hl 1 rfl) ?_
            refine lv_imul hx hb dX12_factor_183 ?_
            refine qi_as (y := nI (8 * j_42)) (pk_mul 8 j_42) ?_
            refine lv_iadd hx hb dX12_factor_184 ?_
            refine qi_as (y := nI (j_16 + (8 * j_42))) (nI_add j_16 (8 * j_42)) ?_
            refine lv_bipush (v := 32) hx hb dX12_factor_185 (by decide) ?_
            refine lv_iload hx hb dX12_factor_187 (lv_at hl 0 rfl) ?_
            refine lv_imul hx hb dX12_factor_189 ?_
            refine qi_as (y := nI (32 * v_68)) (pk_mul 32 v_68) ?_
            refine lv_iadd hx hb dX12_factor_190 ?_
            refine qi_as (y := nI ((j_16 + (8 * j_42)) + (32 * v_68))) (nI_add (j_16 + (8 * j_42)) (32 * v_68)) ?_
            have hPc := hP.sub (ws' := [(zo14irriiiiiirriirrrrlriiii m0 th aS aI im (nI a) (nI ((p0 + 1) + 1)) (nI E) 1 5 aB aT se dn aG aO aN aD bv aY rn kd nu tv)]) [0] rfl
            have hKc := hK.sub (tys' := []) [] rfl
            refine va_csv (va_runV (As := [.int (nI ((j_16 + (8 * j_42)) + (32 * v_68)))]) (rest := []) ⟨hx, hb, hml, hown, hts⟩ (c_emitsW l dC dI m0 aS aI aB aT aG aO aN aD aY th im (nI a) (nI ((p0 + 1) + 1)) (nI E) 1 5 se dn rn kd nu tv bv (nI ((j_16 + (8 * j_42)) + (32 * v_68)))) (cwV 1 hts gX12_factor_X12_emits rfl rfl rfl hd_yX12_emits ⟨Nat.le_of_ble_eq_true rfl, Nat.le_of_ble_eq_true rfl⟩) ⟨fun a U g mk q => by obtain ⟨q0, qP, qK⟩ := q; exact ⟨q0, qP, va_K.moved (u := U) (U := U.calling g mk a) (Vm.Alike.refl U.vm) qK⟩, va_recv hK hP (ci := 14) (q := (RX12, TX12, 23)) (q0 := 0) rfl rfl, fun U hU hW => ⟨rfl, by rw [hU]; exact hPc, va_K.moved hW.alike hKc⟩⟩ rfl rfl hl.1 rfl (lv_room (Nat.le_of_ble_eq_true rfl)) dX12_factor_191 ⟨Nat.le_of_ble_eq_true rfl, Nat.le_of_ble_eq_true rfl⟩).run (fun hw_77 => ?_)
            rw [hQ]
            have hP9 := hP.sub (ws' := [(zo14irriiiiiirriirrrrlriiii m0 th aS aI im (nI a) (nI ((p0 + 1) + 1)) (nI E) 1 5 aB aT se dn aG aO aN aD bv aY rn kd nu tv), (zaI aS cS 901 fS)]) [0, 1] rfl
            have hD9 := hD.sub (ws' := [(zo14irriiiiiirriirrrrlriiii m0 th aS aI im (nI a) (nI ((p0 + 1) + 1)) (nI E) 1 5 aB aT se dn aG aO aN aD bv aY rn kd nu tv), (zaI aS cS 901 fS)]) [0, 1] (by decide) rfl
            have hK9 := hK.sub (tys' := [(cS, .int)]) [0] rfl
            exact W.vret hx hb hr (fun tQ htQ hWQ => ⟨⟨(fS, (nI ((p0 + 1) + 1)), 1), rfl, ⟨(p0 + 1) + 1, rfl, by omega, by omega, PF.rf, Or.inl ⟨rfl, (pf_t hn33 hn40).trans (pt_3 hx6 hx3 hN)⟩⟩, by rw [htQ]; exact hP9, va_K.moved hWQ.alike hK9, hD9⟩, hS.F htQ⟩) hS.2.2 dX12_factor_194
          · skip
            have hN := hN_75
            refine lv_istore (lv' := [(4, .int (nI v_68)), (3, .int (nI j_42)), (2, .int (nI j_16)), (1, .int r_2), (0, .ref m0)]) hx hb dX12_factor_176 hl (by decide) rfl (fun ls hl => ?_)
            refine lv_aload_n hx hb dX12_factor_178 rfl (lv_at hl 4 rfl) ?_
            refine lv_iload_n hx hb dX12_factor_179 rfl (lv_at hl 2 rfl) ?_
            refine lv_bipush (v := 8) hx hb dX12_factor_180 (by decide) ?_
            refine lv_iload_n hx hb dX12_factor_182 rfl (lv_at hl 1 rfl) ?_
            refine lv_imul hx hb dX12_factor_183 ?_
            refine qi_as (y := nI (8 * j_42)) (pk_mul 8 j_42) ?_
            refine lv_iadd hx hb dX12_factor_184 ?_
            refine qi_as (y := nI (j_16 + (8 * j_42))) (nI_add j_16 (8 * j_42)) ?_
            refine lv_bipush (v := 32) hx hb dX12_factor_185 (by decide) ?_
            refine lv_iload hx hb dX12_factor_187 (lv_at hl 0 rfl) ?_
            refine lv_imul hx hb dX12_factor_189 ?_
            refine qi_as (y := nI (32 * v_68)) (pk_mul 32 v_68) ?_
            refine lv_iadd hx hb dX12_factor_190 ?_
            refine qi_as (y := nI ((j_16 + (8 * j_42)) + (32 * v_68))) (nI_add (j_16 + (8 * j_42)) (32 * v_68)) ?_
            have hPc := hP.sub (ws' := [(zo14irriiiiiirriirrrrlriiii m0 th aS aI im (nI a) (nI p_69) (nI E) 0 5 aB aT se dn aG aO aN aD bv aY rn kd nu tv), (zaI aS cS 901 fS)]) [0, 1] rfl
            have hDc := hD.sub (ws' := [(zo14irriiiiiirriirrrrlriiii m0 th aS aI im (nI a) (nI p_69) (nI E) 0 5 aB aT se dn aG aO aN aD bv aY rn kd nu tv), (zaI aS cS 901 fS)]) [0, 1] (by decide) rfl
            have hKc := hK.sub (tys' := [(cS, .int)]) [0] rfl
            have hFc := va_free (wc := [(zo14irriiiiiirriirrrrlriiii m0 th aS aI im (nI a) (nI p_69) (nI E) 0 5 aB aT se dn aG aO aN aD bv aY rn kd nu tv), (zaI aS cS 901 fS)]) hD hS hA [0, 1] rfl
            refine va_callv (va_runV (As := [.int (nI ((j_16 + (8 * j_42)) + (32 * v_68)))]) (rest := []) ⟨hx, hb, hml, hown, hts⟩ (c_emits l dC dI m0 aS aI aB aT aG aO aN aD aY th im (nI a) (nI p_69) (nI E) 0 5 se dn rn kd nu tv bv cS fS a K.length (nI ((j_16 + (8 * j_42)) + (32 * v_68))) H.size (ga) ((gI).2.2.2.1) (by have := (gI).2.2.2.2.1; omega)) (cwV 1 hts gX12_factor_X12_emits rfl rfl rfl hd_yX12_emits ⟨Nat.le_of_ble_eq_true rfl, Nat.le_of_ble_eq_true rfl⟩) ⟨fun a U g mk q => by obtain ⟨q0, q1, qP, qK, qD⟩ := q; exact ⟨q0, q1, qP, va_K.moved (u := U) (U := U.calling g mk a) (Vm.Alike.refl U.vm) qK, qD⟩, va_recv hK hP (ci := 14) (q := (RX12, TX12, 23)) (q0 := 0) rfl rfl, fun U hU hW => ⟨rfl, by rw [hU], by rw [hU]; exact hPc, va_K.moved hW.alike hKc, hDc.weaken (fun _ _ _ _ => trivial)⟩⟩ rfl rfl hl.1 rfl (lv_room (Nat.le_of_ble_eq_true rfl)) dX12_factor_191 ⟨Nat.le_of_ble_eq_true rfl, Nat.le_of_ble_eq_true rfl⟩) hS (fun q _ h => hFc q h) hFc (fun u tC H1 locs htC hvm hw_79 hB hz1 hk1 hS => ?_)
            obtain ⟨fS9_80, rfl⟩ : ∃ z, z = u := ⟨_, rfl⟩
            try dsimp only at hw_79 hB
            obtain ⟨hP1, hK1, hD1⟩ := hB
            rw [htC] at hP1
            have hK1 := va_K.moved hvm.symm hK1
            obtain ⟨hP, hD⟩ := va_join (wr := []) (w1 := [(zo14irriiiiiirriirrrrlriiii m0 th aS aI im (nI a) (nI p_69) (nI E) 0 5 aB aT se dn aG aO aN aD bv aY rn kd nu tv), (zaI aS cS 901 fS9_80)]) hP hD [0, 1] [] rfl rfl (by decide) (by decide) hk1 hFc hP1 hD1
            have hK := (hK.sub (tys' := []) [] rfl).app hK1
            generalize H1 = H at hP hS ⊢
            have hP : va_P (dC, dI) vwCl [(zo14irriiiiiirriirrrrlriiii m0 th aS aI im (nI a) (nI p_69) (nI E) 0 5 aB aT se dn aG aO aN aD bv aY rn kd nu tv), (zaI aS cS 901 fS9_80)] H := hP
            have hD : va_D A [(zo14irriiiiiirriirrrrlriiii m0 th aS aI im (nI a) (nI p_69) (nI E) 0 5 aB aT se dn aG aO aN aD bv aY rn kd nu tv), (zaI aS cS 901 fS9_80)] := hD
            have hK : va_K (dC, dI) vwCl [(cS, .int)] s := hK
            obtain rfl : fS9_80 = emt fS a K.length (nI ((j_16 + (8 * j_42)) + (32 * v_68))) := by rcases hw_79 with ⟨q, _⟩ | ⟨_, q⟩; exact absurd rfl q; exact q
            have hI_81 : PI (emt fS a K.length (nI ((j_16 + (8 * j_42)) + (32 * v_68)))) a (K ++ [j_16 * 300 + j_42 * 100 + v_68]) (d + 1) p_69 E := PI.em (t := j_16 * 300 + j_42 * 100 + v_68) ((gI).mono (by omega) (by omega)) (by omega) (by omega) (stepd_test (by omega) (by omega) (by omega) (by omega)) (rcd_t (by omega) (by omega) (by omega))
            have hF_82 : PF a fS (emt fS a K.length (nI ((j_16 + (8 * j_42)) + (32 * v_68)))) := (PF.rf).tr (PF_emt (k := K.length) (x := nI ((j_16 + (8 * j_42)) + (32 * v_68))) ga (by have := (gI).2.2.2.2.1; omega))
            have hKhI_81 : (K ++ [j_16 * 300 + j_42 * 100 + v_68]).length = K.length + 1 := by rw [List.length_append]; rfl
            rw [hQ]
            have hP9 := hP.sub (ws' := [(zo14irriiiiiirriirrrrlriiii m0 th aS aI im (nI a) (nI p_69) (nI E) 0 5 aB aT se dn aG aO aN aD bv aY rn kd nu tv), (zaI aS cS 901 (emt fS a K.length (nI ((j_16 + (8 * j_42)) + (32 * v_68)))))]) [0, 1] rfl
            have hD9 := hD.sub (ws' := [(zo14irriiiiiirriirrrrlriiii m0 th aS aI im (nI a) (nI p_69) (nI E) 0 5 aB aT se dn aG aO aN aD bv aY rn kd nu tv), (zaI aS cS 901 (emt fS a K.length (nI ((j_16 + (8 * j_42)) + (32 * v_68)))))]) [0, 1] (by decide) rfl
            have hK9 := hK.sub (tys' := [(cS, .int)]) [0] rfl
            exact W.vret hx hb hr (fun tQ htQ hWQ => ⟨⟨((emt fS a K.length (nI ((j_16 + (8 * j_42)) + (32 * v_68)))), (nI p_69), 0), rfl, ⟨p_69, rfl, by omega, by omega, hF_82, Or.inr ⟨rfl, [j_16 * 300 + j_42 * 100 + v_68], (pf_t hn33 hn40).trans (pt_4 hx6 hx3 hN), by omega, (hI_81).mono (by omega) (by omega), by (try simp only [List.length_append, List.length_cons, List.length_nil]); omega⟩⟩, by rw [htQ]; exact hP9, va_K.moved hWQ.alike hK9, hD9⟩, hS.F htQ⟩) hS.2.2 dX12_factor_194
    · skip
      subst c_12
      have hs : ss p0 = 40 := (gT.eq (c := 40) (by omega) (by omega)).mp hw_3.symm
      have hlt : p0 < E := Nat.lt_of_not_le (fun z => by have := gT.2.1 p0 z; omega)
      refine lv_aload_n hx hb dX12_factor_25 rfl (lv_at hl 1 rfl) ?_
      refine lv_aload_n hx hb dX12_factor_26 rfl (lv_at hl 1 rfl) ?_
      refine va_get (D := (dC, dI)) (ci := 14) (v := .int 5) (C := RX12) (T := TX12) (N := 23) hx hb hts kc_factor5_0 hown hK hP 0 rfl rfl 8 (by decide) (hts (.fieldLink RX12 89 "MistHeapsModel" "open" "I") kc_factor5_2) (fun _ h9 => h9) rfl dX12_factor_27 ?_
      refine lv_iconst (v := 5) hx hb dX12_factor_30 (by decide) ?_
      refine lv_icmp_ne (tgt := 38) hx hb dX12_factor_31 (by decide) (fun c_83 => absurd c_83 (by decide)) (fun _ => ?_)
      refine lv_iconst (v := 1) hx hb dX12_factor_34 (by decide) ?_
      refine lv_goto (tgt := 39) hx hb dX12_factor_35 (by decide) ?_
      refine va_put (D := (dC, dI)) (ci := 14) (v := .int 1) (ty := .boolean) (C := RX12) (T := TX12) (N := 23) hx hb hts kc_factor5_0 tyX12 tyX12_ok nmX12 hown hK hP hD hS 0 rfl rfl 7 (by decide) (hts (.fieldLink RX12 65 "MistHeapsModel" "isWrong" "Z") kc_factor5_1) (fun _ h9 => h9) rfl (by decide +kernel) rfl rfl (Nat.le_of_ble_eq_true rfl) dX12_factor_39 (fun H locs hP hD hS => ?_)
      have hP : va_P (dC, dI) vwCl [(zo14irriiiiiirriirrrrlriiii m0 th aS aI im (nI a) (nI p0) (nI E) 1 5 aB aT se dn aG aO aN aD bv aY rn kd nu tv), (zaI aS cS 901 fS)] H := hP
      have hD : va_D A [(zo14irriiiiiirriirrrrlriiii m0 th aS aI im (nI a) (nI p0) (nI E) 1 5 aB aT se dn aG aO aN aD bv aY rn kd nu tv), (zaI aS cS 901 fS)] := hD
      refine lv_aload_n hx hb dX12_factor_42 rfl (lv_at hl 1 rfl) ?_
      refine lv_dup hx hb dX12_factor_43 rfl ?_
      refine va_get (D := (dC, dI)) (ci := 14) (v := .int 5) (C := RX12) (T := TX12) (N := 23) hx hb hts kc_factor5_0 hown hK hP 0 rfl rfl 8 (by decide) (hts (.fieldLink RX12 89 "MistHeapsModel" "open" "I") kc_factor5_2) (fun _ h9 => h9) rfl dX12_factor_44 ?_
      refine lv_iconst (v := 1) hx hb dX12_factor_47 (by decide) ?_
      refine lv_iadd hx hb dX12_factor_48 ?_
      refine qi_as (y := 6) (by decide) ?_
      refine va_put (D := (dC, dI)) (ci := 14) (v := .int 6) (ty := .int) (C := RX12) (T := TX12) (N := 23) hx hb hts kc_factor5_0 tyX12 tyX12_ok nmX12 hown hK hP hD hS 0 rfl rfl 8 (by decide) (hts (.fieldLink RX12 89 "MistHeapsModel" "open" "I") kc_factor5_2) (fun _ h9 => h9) rfl (by decide +kernel) rfl rfl (Nat.le_of_ble_eq_true rfl) dX12_factor_49 (fun H locs hP hD hS => ?_)
      have hP : va_P (dC, dI) vwCl [(zo14irriiiiiirriirrrrlriiii m0 th aS aI im (nI a) (nI p0) (nI E) 1 6 aB aT se dn aG aO aN aD bv aY rn kd nu tv), (zaI aS cS 901 fS)] H := hP
      have hD : va_D A [(zo14irriiiiiirriirrrrlriiii m0 th aS aI im (nI a) (nI p0) (nI E) 1 6 aB aT se dn aG aO aN aD bv aY rn kd nu tv), (zaI aS cS 901 fS)] := hD
      refine lv_aload_n hx hb dX12_factor_52 rfl (lv_at hl 1 rfl) ?_
      refine lv_dup hx hb dX12_factor_53 rfl ?_
      refine va_get (D := (dC, dI)) (ci := 14) (v := .int (nI p0)) (C := RX12) (T := TX12) (N := 23) hx hb hts kc_factor5_0 hown hK hP 0 rfl rfl 5 (by decide) (hts (.fieldLink RX12 59 "MistHeapsModel" "spot" "I") kc_factor5_3) (fun _ h9 => h9) rfl dX12_factor_54 ?_
      refine lv_aload_n hx hb dX12_factor_57 rfl (lv_at hl 1 rfl) ?_
      refine va_get (D := (dC, dI)) (ci := 14) (v := .int 1) (C := RX12) (T := TX12) (N := 23) hx hb hts kc_factor5_0 hown hK hP 0 rfl rfl 7 (by decide) (hts (.fieldLink RX12 65 "MistHeapsModel" "isWrong" "Z") kc_factor5_1) (fun _ h9 => h9) rfl dX12_factor_58 ?_
      refine lv_if_eq (tgt := 68) hx hb dX12_factor_61 (by decide) (fun c_84 => absurd c_84 (by decide)) (fun _ => ?_)
      refine lv_iconst (v := 0) hx hb dX12_factor_64 (by decide) ?_
      refine lv_goto (tgt := 69) hx hb dX12_factor_65 (by decide) ?_
      refine lv_iadd hx hb dX12_factor_69 ?_
      refine qi_as (y := nI (p0 + 0)) (nI_add p0 0) ?_
      refine va_put (D := (dC, dI)) (ci := 14) (v := .int (nI (p0 + 0))) (ty := .int) (C := RX12) (T := TX12) (N := 23) hx hb hts kc_factor5_0 tyX12 tyX12_ok nmX12 hown hK hP hD hS 0 rfl rfl 5 (by decide) (hts (.fieldLink RX12 59 "MistHeapsModel" "spot" "I") kc_factor5_3) (fun _ h9 => h9) rfl (by decide +kernel) rfl rfl (Nat.le_of_ble_eq_true rfl) dX12_factor_70 (fun H locs hP hD hS => ?_)
      have hP : va_P (dC, dI) vwCl [(zo14irriiiiiirriirrrrlriiii m0 th aS aI im (nI a) (nI (p0 + 0)) (nI E) 1 6 aB aT se dn aG aO aN aD bv aY rn kd nu tv), (zaI aS cS 901 fS)] H := hP
      have hD : va_D A [(zo14irriiiiiirriirrrrlriiii m0 th aS aI im (nI a) (nI (p0 + 0)) (nI E) 1 6 aB aT se dn aG aO aN aD bv aY rn kd nu tv), (zaI aS cS 901 fS)] := hD
      refine lv_iload_n hx hb dX12_factor_73 rfl (lv_at hl 0 rfl) ?_
      refine lv_bipush (v := 33) hx hb dX12_factor_74 (by decide) ?_
      refine lv_icmp_ne (tgt := 91) hx hb dX12_factor_76 (by decide) (fun _ => ?_) (fun c_85 => absurd c_85 (by decide))
      refine lv_aload_n hx hb dX12_factor_91 rfl (lv_at hl 1 rfl) ?_
      have hPc := hP.sub (ws' := [(zo14irriiiiiirriirrrrlriiii m0 th aS aI im (nI a) (nI (p0 + 0)) (nI E) 1 6 aB aT se dn aG aO aN aD bv aY rn kd nu tv)]) [0] rfl
      have hKc := hK.sub (tys' := []) [] rfl
      refine va_csv (va_runV (As := []) (rest := []) ⟨hx, hb, hml, hown, hts⟩ (c_someW l dC dI m0 aS aI aB aT aG aO aN aD aY th im (nI a) (nI (p0 + 0)) (nI E) 1 6 se dn rn kd nu tv bv) (cwV 0 hts gX12_factor_X12_some rfl rfl rfl hd_yX12_some ⟨Nat.le_of_ble_eq_true rfl, Nat.le_of_ble_eq_true rfl⟩) ⟨fun a U g mk q => by obtain ⟨q0, qP, qK⟩ := q; exact ⟨q0, qP, va_K.moved (u := U) (U := U.calling g mk a) (Vm.Alike.refl U.vm) qK⟩, va_recv hK hP (ci := 14) (q := (RX12, TX12, 23)) (q0 := 0) rfl rfl, fun U hU hW => ⟨rfl, by rw [hU]; exact hPc, va_K.moved hW.alike hKc⟩⟩ rfl rfl hl.1 rfl (lv_room (Nat.le_of_ble_eq_true rfl)) dX12_factor_92 ⟨Nat.le_of_ble_eq_true rfl, Nat.le_of_ble_eq_true rfl⟩).run (fun hw_87 => ?_)
      refine lv_aload_n hx hb dX12_factor_95 rfl (lv_at hl 1 rfl) ?_
      refine lv_bipush (v := 41) hx hb dX12_factor_96 (by decide) ?_
      have hPc := hP.sub (ws' := [(zo14irriiiiiirriirrrrlriiii m0 th aS aI im (nI a) (nI (p0 + 0)) (nI E) 1 6 aB aT se dn aG aO aN aD bv aY rn kd nu tv), (zaI aS cS 901 fS)]) [0, 1] rfl
      have hDc := hD.sub (ws' := [(zo14irriiiiiirriirrrrlriiii m0 th aS aI im (nI a) (nI (p0 + 0)) (nI E) 1 6 aB aT se dn aG aO aN aD bv aY rn kd nu tv), (zaI aS cS 901 fS)]) [0, 1] (by decide) rfl
      have hKc := hK.sub (tys' := [(cS, .int)]) [0] rfl
      have hFc := va_free (wc := [(zo14irriiiiiirriirrrrlriiii m0 th aS aI im (nI a) (nI (p0 + 0)) (nI E) 1 6 aB aT se dn aG aO aN aD bv aY rn kd nu tv), (zaI aS cS 901 fS)]) hD hS hA [0, 1] rfl
      refine va_callv (va_runV (As := [.int 41]) (rest := []) ⟨hx, hb, hml, hown, hts⟩ (c_must l dC dI m0 aS aI aB aT aG aO aN aD aY th im (nI a) (nI (p0 + 0)) (nI E) 1 6 se dn rn kd nu tv bv cS fS a (p0 + 0) E 41 H.size (by omega) (by omega) (by omega) (Or.inr rfl) (by decide)) (cwV 1 hts gX12_factor_X12_must rfl rfl rfl hd_yX12_must ⟨Nat.le_of_ble_eq_true rfl, Nat.le_of_ble_eq_true rfl⟩) ⟨fun a U g mk q => by obtain ⟨q0, q1, qP, qK, qD⟩ := q; exact ⟨q0, q1, qP, va_K.moved (u := U) (U := U.calling g mk a) (Vm.Alike.refl U.vm) qK, qD⟩, va_recv hK hP (ci := 14) (q := (RX12, TX12, 23)) (q0 := 0) rfl rfl, fun U hU hW => ⟨rfl, by rw [hU], by rw [hU]; exact hPc, va_K.moved hW.alike hKc, hDc.weaken (fun _ _ _ _ => trivial)⟩⟩ rfl rfl hl.1 rfl (lv_room (Nat.le_of_ble_eq_true rfl)) dX12_factor_98 ⟨Nat.le_of_ble_eq_true rfl, Nat.le_of_ble_eq_true rfl⟩) hS (fun q _ h => hFc q h) hFc (fun u tC H1 locs htC hvm hw_89 hB hz1 hk1 hS => ?_)
      obtain ⟨sp9_90, wg9_91⟩ := u
      try dsimp only at hw_89 hB
      obtain ⟨hP1, hK1, hD1⟩ := hB
      rw [htC] at hP1
      have hK1 := va_K.moved hvm.symm hK1
      obtain ⟨hP, hD⟩ := va_join (wr := []) (w1 := [(zo14irriiiiiirriirrrrlriiii m0 th aS aI im (nI a) sp9_90 (nI E) wg9_91 6 aB aT se dn aG aO aN aD bv aY rn kd nu tv), (zaI aS cS 901 fS)]) hP hD [0, 1] [] rfl rfl (by decide) (by decide) hk1 hFc hP1 hD1
      have hK := (hK.sub (tys' := []) [] rfl).app hK1
      generalize H1 = H at hP hS ⊢
      have hP : va_P (dC, dI) vwCl [(zo14irriiiiiirriirrrrlriiii m0 th aS aI im (nI a) sp9_90 (nI E) wg9_91 6 aB aT se dn aG aO aN aD bv aY rn kd nu tv), (zaI aS cS 901 fS)] H := hP
      have hD : va_D A [(zo14irriiiiiirriirrrrlriiii m0 th aS aI im (nI a) sp9_90 (nI E) wg9_91 6 aB aT se dn aG aO aN aD bv aY rn kd nu tv), (zaI aS cS 901 fS)] := hD
      have hK : va_K (dC, dI) vwCl [(cS, .int)] s := hK
      obtain ⟨rfl, rfl⟩ : _ ∧ _ := by rcases hw_89 with ⟨q, q2, _⟩ | ⟨_, q, _⟩; exact ⟨q, q2⟩; exact absurd q (by decide)
      refine lv_aload_n hx hb dX12_factor_101 rfl (lv_at hl 1 rfl) ?_
      refine lv_dup hx hb dX12_factor_102 rfl ?_
      refine va_get (D := (dC, dI)) (ci := 14) (v := .int 6) (C := RX12) (T := TX12) (N := 23) hx hb hts kc_factor5_0 hown hK hP 0 rfl rfl 8 (by decide) (hts (.fieldLink RX12 89 "MistHeapsModel" "open" "I") kc_factor5_2) (fun _ h9 => h9) rfl dX12_factor_103 ?_
      refine lv_iconst (v := 1) hx hb dX12_factor_106 (by decide) ?_
      refine lv_isub hx hb dX12_factor_107 ?_
      refine qi_as (y := 5) (by decide) ?_
      refine va_put (D := (dC, dI)) (ci := 14) (v := .int 5) (ty := .int) (C := RX12) (T := TX12) (N := 23) hx hb hts kc_factor5_0 tyX12 tyX12_ok nmX12 hown hK hP hD hS 0 rfl rfl 8 (by decide) (hts (.fieldLink RX12 89 "MistHeapsModel" "open" "I") kc_factor5_2) (fun _ h9 => h9) rfl (by decide +kernel) rfl rfl (Nat.le_of_ble_eq_true rfl) dX12_factor_108 (fun H locs hP hD hS => ?_)
      have hP : va_P (dC, dI) vwCl [(zo14irriiiiiirriirrrrlriiii m0 th aS aI im (nI a) (nI (p0 + 0)) (nI E) 1 5 aB aT se dn aG aO aN aD bv aY rn kd nu tv), (zaI aS cS 901 fS)] H := hP
      have hD : va_D A [(zo14irriiiiiirriirrrrlriiii m0 th aS aI im (nI a) (nI (p0 + 0)) (nI E) 1 5 aB aT se dn aG aO aN aD bv aY rn kd nu tv), (zaI aS cS 901 fS)] := hD
      rw [hQ]
      have hP9 := hP.sub (ws' := [(zo14irriiiiiirriirrrrlriiii m0 th aS aI im (nI a) (nI (p0 + 0)) (nI E) 1 5 aB aT se dn aG aO aN aD bv aY rn kd nu tv), (zaI aS cS 901 fS)]) [0, 1] rfl
      have hD9 := hD.sub (ws' := [(zo14irriiiiiirriirrrrlriiii m0 th aS aI im (nI a) (nI (p0 + 0)) (nI E) 1 5 aB aT se dn aG aO aN aD bv aY rn kd nu tv), (zaI aS cS 901 fS)]) [0, 1] (by decide) rfl
      have hK9 := hK.sub (tys' := [(cS, .int)]) [0] rfl
      exact W.vret hx hb hr (fun tQ htQ hWQ => ⟨⟨(fS, (nI (p0 + 0)), 1), rfl, ⟨p0 + 0, rfl, by omega, by omega, PF.rf, Or.inl ⟨rfl, pf_0 (Or.inr hs)⟩⟩, by rw [htQ]; exact hP9, va_K.moved hWQ.alike hK9, hD9⟩, hS.F htQ⟩) hS.2.2 dX12_factor_111

theorem kc_every5_0 : ∀ w ∈ wsX120, w ∈ wsX12_every := fun w h => List.mem_cons_of_mem _ (gin_wsX120 w h)
theorem kc_every5_1 : (.fieldLink RX12 65 "MistHeapsModel" "isWrong" "Z" : Cond) ∈ wsX12_every := kc_of 1147 rfl rfl rfl
theorem kc_every5_2 : (.fieldLink RX12 59 "MistHeapsModel" "spot" "I" : Cond) ∈ wsX12_every := kc_of 1145 rfl rfl rfl
set_option maxHeartbeats 4000000 in
set_option maxRecDepth 100000 in
theorem c_every5 (l : Launch) (dC : Nat → ClassId) (dI : Nat → Nat → Nat) (sK sV : Nat → Nat) (m0 aS aI aB aT aG aO aN aD aY : Nat) (th im ac sp en wg op se dn rn kd nu tv : Int32) (bv : Int64) (cS : ClassId) (fS : Nat → Int32) (a p0 E : Nat) (K : List Nat) (d : Nat) (ss : Nat → Nat) (sz : Nat) (gI : PI fS a K d p0 E) (gT : TP fS E ss) : Met l yX12_every wsX12_every ({ frames := 6, cells := 0, slots := 0, locals := 131 } : Room) (va_Pc [.ref m0] (fun U => U.heap.size = sz ∧ va_P (dC, dI) vwCl [(zo14irriiiiiirriirrrrlriiii m0 th aS aI im (nI a) (nI p0) (nI E) 0 5 aB aT se dn aG aO aN aD bv aY rn kd nu tv), (zaI aS cS 901 fS)] U.heap ∧ va_K (dC, dI) vwCl [(cS, .int)] U ∧ va_D (fun _ => True) [(zo14irriiiiiirriirrrrlriiii m0 th aS aI im (nI a) (nI p0) (nI E) 0 5 aB aT se dn aG aO aN aD bv aY rn kd nu tv), (zaI aS cS 901 fS)] ∧ Gs sK sV (va_A [(zo14irriiiiiirriirrrrlriiii m0 th aS aI im (nI a) (nI p0) (nI E) 0 5 aB aT se dn aG aO aN aD bv aY rn kd nu tv), (zaI aS cS 901 fS)] sz) U)) (va_Qv (fun (u : (Nat → Int32) × (Int32) × (Int32)) => match u with | (fS9, sp9, wg9) => ∃ p9 : Nat, sp9 = nI p9 ∧ p0 ≤ p9 ∧ p9 ≤ E ∧ PF a fS fS9 ∧ ((wg9 = 1 ∧ pEv ss (pFac ss 0) p0 = (none, p9)) ∨ (wg9 = 0 ∧ ∃ L : List Nat, pEv ss (pFac ss 0) p0 = (some L, p9) ∧ p0 + 3 ≤ p9 ∧ PI fS9 a (K ++ L) (d + 1) p9 E ∧ L.length + p0 ≤ p9))) (fun (u : (Nat → Int32) × (Int32) × (Int32)) (t : State) => match u with | (fS9, sp9, wg9) => va_P (dC, dI) vwCl [(zo14irriiiiiirriirrrrlriiii m0 th aS aI im (nI a) sp9 (nI E) wg9 5 aB aT se dn aG aO aN aD bv aY rn kd nu tv), (zaI aS cS 901 fS9)] t.heap ∧ va_K (dC, dI) vwCl [(cS, .int)] t ∧ va_D (va_A [(zo14irriiiiiirriirrrrlriiii m0 th aS aI im (nI a) (nI p0) (nI E) 0 5 aB aT se dn aG aO aN aD bv aY rn kd nu tv), (zaI aS cS 901 fS)] sz) [(zo14irriiiiiirriirrrrlriiii m0 th aS aI im (nI a) sp9 (nI E) wg9 5 aB aT se dn aG aO aN aD bv aY rn kd nu tv), (zaI aS cS 901 fS9)]) (va_A [(zo14irriiiiiirriirrrrlriiii m0 th aS aI im (nI a) (nI p0) (nI E) 0 5 aB aT se dn aG aO aN aD bv aY rn kd nu tv), (zaI aS cS 901 fS)] sz)) 0 0 (va_A [(zo14irriiiiiirriirrrrlriiii m0 th aS aI im (nI a) (nI p0) (nI E) 0 5 aB aT se dn aG aO aN aD bv aY rn kd nu tv), (zaI aS cS 901 fS)] sz) := by
  refine met_ofQ (cc := cX12_every) (maxL := 1) (ret := none) (by decide) rfl ?_
  intro p e s m args below meth c s₁ Q B hml hv hQ
  obtain ⟨rfl, hsz, hP, hK, hD0, hE⟩ := hv
  have hx := B.exec
  have hb := B.bytes
  have hr := B.returns
  have hts := atoms_spec (ws := wsX12_every) B.pre
  have hown : s.vm.findClass RX12 = some m.cls := findClass_of_methodNamed B.named
  have hlocks := B.notSynchronized
  subst hsz
  have hD := hD0.self (sz := s.heap.size)
  generalize hAe : va_A [(zo14irriiiiiirriirrrrlriiii m0 th aS aI im (nI a) (nI p0) (nI E) 0 5 aB aT se dn aG aO aN aD bv aY rn kd nu tv), (zaI aS cS 901 fS)] s.heap.size = A at hD hQ hE ⊢
  have hA : ∀ q : Nat, s.heap.size ≤ q → A q := fun q h => by rw [← hAe]; exact Or.inr h
  have hS : va_S A s.heap s.heap [] := va_S.rf
  have hl := lv_entry [.ref m0] (n := 1) (Nat.le_of_ble_eq_true rfl)
  rw [lg_entry_eq]
  generalize (lg_sl [.ref m0] ++ List.replicate (1 - (lg_sl [.ref m0]).length) Slot.unset).toArray = ls at hl ⊢
  generalize hag : ([.ref m0] : List Value).toArray = args at hts hQ ⊢
  have hl : lv_has ls 1 [(0, .ref m0)] := hl
  obtain ⟨H, hH⟩ : ∃ H : Heap, H = s.heap := ⟨_, rfl⟩
  rw [← hH] at hP
  rw [← hH]
  have hS : va_S A s.heap H [] := by rw [hH]; exact hS
  obtain ⟨locs, hlo⟩ : ∃ L : List Loc, L = [] := ⟨_, rfl⟩
  rw [← hlo] at hS
  rw [← hlo]
  clear hH hlo
  obtain ⟨ga, gp, gE, zk, gkp, gd, gs, gcd⟩ := id gI
  refine lv_aload_n hx hb dX12_every_0 rfl (lv_at hl 0 rfl) ?_
  have hPc := hP.sub (ws' := [(zo14irriiiiiirriirrrrlriiii m0 th aS aI im (nI a) (nI p0) (nI E) 0 5 aB aT se dn aG aO aN aD bv aY rn kd nu tv), (zaI aS cS 901 fS)]) [0, 1] rfl
  have hDc := hD.sub (ws' := [(zo14irriiiiiirriirrrrlriiii m0 th aS aI im (nI a) (nI p0) (nI E) 0 5 aB aT se dn aG aO aN aD bv aY rn kd nu tv), (zaI aS cS 901 fS)]) [0, 1] (by decide) rfl
  have hKc := hK.sub (tys' := [(cS, .int)]) [0] rfl
  have hFc := va_free (wc := [(zo14irriiiiiirriirrrrlriiii m0 th aS aI im (nI a) (nI p0) (nI E) 0 5 aB aT se dn aG aO aN aD bv aY rn kd nu tv), (zaI aS cS 901 fS)]) hD hS hA [0, 1] rfl
  refine va_callv (va_runV (As := []) (rest := []) ⟨hx, hb, hml, hown, hts⟩ (c_factor5 l dC dI sK sV m0 aS aI aB aT aG aO aN aD aY th im (nI a) (nI p0) (nI E) 0 5 se dn rn kd nu tv bv cS fS a p0 E K d ss H.size ((gI).mono (by omega) (by omega)) (gT)) (cwV 0 hts gX12_every_X12_factor rfl rfl rfl hd_yX12_factor ⟨Nat.le_of_ble_eq_true rfl, Nat.le_of_ble_eq_true rfl⟩) ⟨fun a U g mk q => by obtain ⟨q0, q1, qP, qK, qD, qhE⟩ := q; exact ⟨q0, q1, qP, va_K.moved (u := U) (U := U.calling g mk a) (Vm.Alike.refl U.vm) qK, qD, qhE.same rfl rfl⟩, va_recv hK hP (ci := 14) (q := (RX12, TX12, 23)) (q0 := 0) rfl rfl, fun U hU hW => ⟨rfl, by rw [hU], by rw [hU]; exact hPc, va_K.moved hW.alike hKc, hDc.weaken (fun _ _ _ _ => trivial), hE.call hS hU hW (fun q h => hFc q h)⟩⟩ rfl rfl hl.1 rfl (lv_room (Nat.le_of_ble_eq_true rfl)) dX12_every_1 ⟨Nat.le_of_ble_eq_true rfl, Nat.le_of_ble_eq_true rfl⟩) hS (fun q _ h => hFc q h) hFc (fun u tC H1 locs htC hvm hw_2 hB hz1 hk1 hS => ?_)
  obtain ⟨fS9_3, sp9_4, wg9_5⟩ := u
  try dsimp only at hw_2 hB
  obtain ⟨hP1, hK1, hD1⟩ := hB
  rw [htC] at hP1
  have hK1 := va_K.moved hvm.symm hK1
  obtain ⟨hP, hD⟩ := va_join (wr := []) (w1 := [(zo14irriiiiiirriirrrrlriiii m0 th aS aI im (nI a) sp9_4 (nI E) wg9_5 5 aB aT se dn aG aO aN aD bv aY rn kd nu tv), (zaI aS cS 901 fS9_3)]) hP hD [0, 1] [] rfl rfl (by decide) (by decide) hk1 hFc hP1 hD1
  have hK := (hK.sub (tys' := []) [] rfl).app hK1
  generalize H1 = H at hP hS ⊢
  have hP : va_P (dC, dI) vwCl [(zo14irriiiiiirriirrrrlriiii m0 th aS aI im (nI a) sp9_4 (nI E) wg9_5 5 aB aT se dn aG aO aN aD bv aY rn kd nu tv), (zaI aS cS 901 fS9_3)] H := hP
  have hD : va_D A [(zo14irriiiiiirriirrrrlriiii m0 th aS aI im (nI a) sp9_4 (nI E) wg9_5 5 aB aT se dn aG aO aN aD bv aY rn kd nu tv), (zaI aS cS 901 fS9_3)] := hD
  have hK : va_K (dC, dI) vwCl [(cS, .int)] s := hK
  obtain ⟨p_6, rfl, h_9, h_10, hF_11, q9⟩ := hw_2
  rcases q9 with ⟨rfl, eP_8⟩ | ⟨rfl, L_7, eP_8, h_12, hI_13, h_14⟩
  · skip
    have L4 : ∀ (nF : Nat) (p1 : Nat) (L1 : List Nat) (m1 : Nat) (w1 : Int32) (f1 : Nat → Int32), E - p1 < nF → (p0 ≤ p1 ∧ p1 ≤ E) → (PF a fS f1) → ((w1 = 1 ∧ pEv ss (pFac ss 0) p0 = (none, p1)) ∨ (w1 = 0 ∧ pEv ss (pFac ss 0) p0 = pSep ss 38 1802 (pFac ss 0) m1 (some L1, p1) ∧ 101 ≤ m1 + p1 ∧ p0 + 3 ≤ p1 ∧ PI f1 a (K ++ L1) (d + 1) p1 E ∧ L1.length + p0 ≤ p1)) → ∀ (H : Heap) (locs : List Loc), va_K (dC, dI) vwCl [(cS, .int)] s → va_P (dC, dI) vwCl [(zo14irriiiiiirriirrrrlriiii m0 th aS aI im (nI a) (nI p1) (nI E) w1 5 aB aT se dn aG aO aN aD bv aY rn kd nu tv), (zaI aS cS 901 f1)] H → va_D A [(zo14irriiiiiirriirrrrlriiii m0 th aS aI im (nI a) (nI p1) (nI E) w1 5 aB aT se dn aG aO aN aD bv aY rn kd nu tv), (zaI aS cS 901 f1)] → va_S A s.heap H locs → ∀ (ls : Array Slot), lv_has ls 1 [(0, .ref m0)] → W p l e ({ frames := 6, cells := 0, slots := 0, locals := 131 } : Room) s m args below meth c H locs 0 0 Q (F0 m 4 ls []) := by
      intro nF
      induction nF with
      | zero => intro p1 L1 m1 w1 f1 hm; exact absurd hm (Nat.not_lt_zero _)
      | succ nF ih4 =>
        intro p1 L1 m1 w1 f1 hm h1 hF hw1 H locs hK hP hD hS ls hl
        obtain ⟨h1a, h1b⟩ := h1
        rcases hw1 with ⟨rfl, hE9⟩ | ⟨rfl, hE9, hm9, h3, hI, h4⟩
        · skip
          refine lv_aload_n hx hb dX12_every_4 rfl (lv_at hl 0 rfl) ?_
          refine va_get (D := (dC, dI)) (ci := 14) (v := .int 1) (C := RX12) (T := TX12) (N := 23) hx hb hts kc_every5_0 hown hK hP 0 rfl rfl 7 (by decide) (hts (.fieldLink RX12 65 "MistHeapsModel" "isWrong" "Z") kc_every5_1) (fun _ h9 => h9) rfl dX12_every_5 ?_
          refine lv_if_ne (tgt := 43) hx hb dX12_every_8 (by decide) (fun _ => ?_) (fun c_15 => absurd c_15 (by decide))
          rw [hQ]
          have hP9 := hP.sub (ws' := [(zo14irriiiiiirriirrrrlriiii m0 th aS aI im (nI a) (nI p1) (nI E) 1 5 aB aT se dn aG aO aN aD bv aY rn kd nu tv), (zaI aS cS 901 f1)]) [0, 1] rfl
          have hD9 := hD.sub (ws' := [(zo14irriiiiiirriirrrrlriiii m0 th aS aI im (nI a) (nI p1) (nI E) 1 5 aB aT se dn aG aO aN aD bv aY rn kd nu tv), (zaI aS cS 901 f1)]) [0, 1] (by decide) rfl
          have hK9 := hK.sub (tys' := [(cS, .int)]) [0] rfl
          exact W.vret hx hb hr (fun tQ htQ hWQ => ⟨⟨(f1, (nI p1), 1), rfl, ⟨p1, rfl, by omega, by omega, hF, Or.inl ⟨rfl, hE9⟩⟩, by rw [htQ]; exact hP9, va_K.moved hWQ.alike hK9, hD9⟩, hS.F htQ⟩) hS.2.2 dX12_every_43
        · skip
          have k5 := hI.2.2.2.2.1
          have hq1 : (K ++ L1).length = K.length + L1.length := List.length_append
          refine lv_aload_n hx hb dX12_every_4 rfl (lv_at hl 0 rfl) ?_
          refine va_get (D := (dC, dI)) (ci := 14) (v := .int 0) (C := RX12) (T := TX12) (N := 23) hx hb hts kc_every5_0 hown hK hP 0 rfl rfl 7 (by decide) (hts (.fieldLink RX12 65 "MistHeapsModel" "isWrong" "Z") kc_every5_1) (fun _ h9 => h9) rfl dX12_every_5 ?_
          refine lv_if_ne (tgt := 43) hx hb dX12_every_8 (by decide) (fun c_16 => absurd c_16 (by decide)) (fun _ => ?_)
          refine lv_aload_n hx hb dX12_every_11 rfl (lv_at hl 0 rfl) ?_
          have hPc := hP.sub (ws' := [(zo14irriiiiiirriirrrrlriiii m0 th aS aI im (nI a) (nI p1) (nI E) 0 5 aB aT se dn aG aO aN aD bv aY rn kd nu tv), (zaI aS cS 901 f1)]) [0, 1] rfl
          have hKc := hK.sub (tys' := [(cS, .int)]) [0] rfl
          refine vp_callSi (va_runV (As := []) (rest := []) ⟨hx, hb, hml, hown, hts⟩ (c_here l dC dI m0 aS aI aB aT aG aO aN aD aY th im (nI a) (nI p1) (nI E) 0 5 se dn rn kd nu tv bv cS f1 a p1 E (by omega) (by omega) (by omega)) (cwV 0 hts gX12_every_X12_here rfl rfl rfl hd_yX12_here ⟨Nat.le_of_ble_eq_true rfl, Nat.le_of_ble_eq_true rfl⟩) ⟨fun a U g mk q => by obtain ⟨q0, qP, qK⟩ := q; exact ⟨q0, qP, va_K.moved (u := U) (U := U.calling g mk a) (Vm.Alike.refl U.vm) qK⟩, va_recv hK hP (ci := 14) (q := (RX12, TX12, 23)) (q0 := 0) rfl rfl, fun U hU hW => ⟨rfl, by rw [hU]; exact hPc, va_K.moved hW.alike hKc⟩⟩ rfl rfl hl.1 rfl (lv_room (Nat.le_of_ble_eq_true rfl)) dX12_every_12 ⟨Nat.le_of_ble_eq_true rfl, Nat.le_of_ble_eq_true rfl⟩).run (fun r_17 hw_18 => ?_)
          refine lv_bipush (v := 38) hx hb dX12_every_15 (by decide) ?_
          refine lv_icmp_ne (tgt := 43) hx hb dX12_every_17 (by decide) (fun c_19 => ?_) (fun c_19 => ?_)
          · skip
            have hn9 : ¬ ss p1 = 38 := fun z => c_19 (by rw [hw_18]; exact ((TP_PF gT gE hF).eq (c := 38) (by omega) (by omega)).mpr z)
            rw [hQ]
            have hP9 := hP.sub (ws' := [(zo14irriiiiiirriirrrrlriiii m0 th aS aI im (nI a) (nI p1) (nI E) 0 5 aB aT se dn aG aO aN aD bv aY rn kd nu tv), (zaI aS cS 901 f1)]) [0, 1] rfl
            have hD9 := hD.sub (ws' := [(zo14irriiiiiirriirrrrlriiii m0 th aS aI im (nI a) (nI p1) (nI E) 0 5 aB aT se dn aG aO aN aD bv aY rn kd nu tv), (zaI aS cS 901 f1)]) [0, 1] (by decide) rfl
            have hK9 := hK.sub (tys' := [(cS, .int)]) [0] rfl
            exact W.vret hx hb hr (fun tQ htQ hWQ => ⟨⟨(f1, (nI p1), 0), rfl, ⟨p1, rfl, by omega, by omega, hF, Or.inr ⟨rfl, L1, hE9.trans (ps_end hn9), by omega, hI, by (try simp only [List.length_append, List.length_cons, List.length_nil]); omega⟩⟩, by rw [htQ]; exact hP9, va_K.moved hWQ.alike hK9, hD9⟩, hS.F htQ⟩) hS.2.2 dX12_every_43
          · skip
            have hs9 : ss p1 = 38 := ((TP_PF gT gE hF).eq (c := 38) (by omega) (by omega)).mp (by rw [← hw_18, c_19]; rfl)
            have hlt : p1 < E := Nat.lt_of_not_le (fun z => by have := gT.2.1 p1 z; omega)
            obtain ⟨m2, rfl⟩ : ∃ q : Nat, m1 = q + 1 := ⟨m1 - 1, by omega⟩
            refine lv_aload_n hx hb dX12_every_20 rfl (lv_at hl 0 rfl) ?_
            refine lv_dup hx hb dX12_every_21 rfl ?_
            refine va_get (D := (dC, dI)) (ci := 14) (v := .int (nI p1)) (C := RX12) (T := TX12) (N := 23) hx hb hts kc_every5_0 hown hK hP 0 rfl rfl 5 (by decide) (hts (.fieldLink RX12 59 "MistHeapsModel" "spot" "I") kc_every5_2) (fun _ h9 => h9) rfl dX12_every_22 ?_
            refine lv_iconst (v := 1) hx hb dX12_every_25 (by decide) ?_
            refine lv_iadd hx hb dX12_every_26 ?_
            refine qi_as (y := nI (p1 + 1)) (nI_add p1 1) ?_
            refine va_put (D := (dC, dI)) (ci := 14) (v := .int (nI (p1 + 1))) (ty := .int) (C := RX12) (T := TX12) (N := 23) hx hb hts kc_every5_0 tyX12 tyX12_ok nmX12 hown hK hP hD hS 0 rfl rfl 5 (by decide) (hts (.fieldLink RX12 59 "MistHeapsModel" "spot" "I") kc_every5_2) (fun _ h9 => h9) rfl (by decide +kernel) rfl rfl (Nat.le_of_ble_eq_true rfl) dX12_every_27 (fun H locs hP hD hS => ?_)
            have hP : va_P (dC, dI) vwCl [(zo14irriiiiiirriirrrrlriiii m0 th aS aI im (nI a) (nI (p1 + 1)) (nI E) 0 5 aB aT se dn aG aO aN aD bv aY rn kd nu tv), (zaI aS cS 901 f1)] H := hP
            have hD : va_D A [(zo14irriiiiiirriirrrrlriiii m0 th aS aI im (nI a) (nI (p1 + 1)) (nI E) 0 5 aB aT se dn aG aO aN aD bv aY rn kd nu tv), (zaI aS cS 901 f1)] := hD
            refine lv_aload_n hx hb dX12_every_30 rfl (lv_at hl 0 rfl) ?_
            have hPc := hP.sub (ws' := [(zo14irriiiiiirriirrrrlriiii m0 th aS aI im (nI a) (nI (p1 + 1)) (nI E) 0 5 aB aT se dn aG aO aN aD bv aY rn kd nu tv), (zaI aS cS 901 f1)]) [0, 1] rfl
            have hDc := hD.sub (ws' := [(zo14irriiiiiirriirrrrlriiii m0 th aS aI im (nI a) (nI (p1 + 1)) (nI E) 0 5 aB aT se dn aG aO aN aD bv aY rn kd nu tv), (zaI aS cS 901 f1)]) [0, 1] (by decide) rfl
            have hKc := hK.sub (tys' := [(cS, .int)]) [0] rfl
            have hFc := va_free (wc := [(zo14irriiiiiirriirrrrlriiii m0 th aS aI im (nI a) (nI (p1 + 1)) (nI E) 0 5 aB aT se dn aG aO aN aD bv aY rn kd nu tv), (zaI aS cS 901 f1)]) hD hS hA [0, 1] rfl
            refine va_callv (va_runV (As := []) (rest := []) ⟨hx, hb, hml, hown, hts⟩ (c_factor5 l dC dI sK sV m0 aS aI aB aT aG aO aN aD aY th im (nI a) (nI (p1 + 1)) (nI E) 0 5 se dn rn kd nu tv bv cS f1 a (p1 + 1) E (K ++ L1) (d + 1) ss H.size ((hI).mono (by omega) (by omega)) ((TP_PF gT gE (hF)))) (cwV 0 hts gX12_every_X12_factor rfl rfl rfl hd_yX12_factor ⟨Nat.le_of_ble_eq_true rfl, Nat.le_of_ble_eq_true rfl⟩) ⟨fun a U g mk q => by obtain ⟨q0, q1, qP, qK, qD, qhE⟩ := q; exact ⟨q0, q1, qP, va_K.moved (u := U) (U := U.calling g mk a) (Vm.Alike.refl U.vm) qK, qD, qhE.same rfl rfl⟩, va_recv hK hP (ci := 14) (q := (RX12, TX12, 23)) (q0 := 0) rfl rfl, fun U hU hW => ⟨rfl, by rw [hU], by rw [hU]; exact hPc, va_K.moved hW.alike hKc, hDc.weaken (fun _ _ _ _ => trivial), hE.call hS hU hW (fun q h => hFc q h)⟩⟩ rfl rfl hl.1 rfl (lv_room (Nat.le_of_ble_eq_true rfl)) dX12_every_31 ⟨Nat.le_of_ble_eq_true rfl, Nat.le_of_ble_eq_true rfl⟩) hS (fun q _ h => hFc q h) hFc (fun u tC H1 locs htC hvm hw_21 hB hz1 hk1 hS => ?_)
            obtain ⟨fS9_22, sp9_23, wg9_24⟩ := u
            try dsimp only at hw_21 hB
            obtain ⟨hP1, hK1, hD1⟩ := hB
            rw [htC] at hP1
            have hK1 := va_K.moved hvm.symm hK1
            obtain ⟨hP, hD⟩ := va_join (wr := []) (w1 := [(zo14irriiiiiirriirrrrlriiii m0 th aS aI im (nI a) sp9_23 (nI E) wg9_24 5 aB aT se dn aG aO aN aD bv aY rn kd nu tv), (zaI aS cS 901 fS9_22)]) hP hD [0, 1] [] rfl rfl (by decide) (by decide) hk1 hFc hP1 hD1
            have hK := (hK.sub (tys' := []) [] rfl).app hK1
            generalize H1 = H at hP hS ⊢
            have hP : va_P (dC, dI) vwCl [(zo14irriiiiiirriirrrrlriiii m0 th aS aI im (nI a) sp9_23 (nI E) wg9_24 5 aB aT se dn aG aO aN aD bv aY rn kd nu tv), (zaI aS cS 901 fS9_22)] H := hP
            have hD : va_D A [(zo14irriiiiiirriirrrrlriiii m0 th aS aI im (nI a) sp9_23 (nI E) wg9_24 5 aB aT se dn aG aO aN aD bv aY rn kd nu tv), (zaI aS cS 901 fS9_22)] := hD
            have hK : va_K (dC, dI) vwCl [(cS, .int)] s := hK
            obtain ⟨p_25, rfl, h_28, h_29, hF_30, q9⟩ := hw_21
            rcases q9 with ⟨rfl, eP_27⟩ | ⟨rfl, L_26, eP_27, h_31, hI_32, h_33⟩
            · skip
              refine lv_aload_n hx hb dX12_every_34 rfl (lv_at hl 0 rfl) ?_
              refine lv_bipush (v := (-2)) hx hb dX12_every_35 (by decide) ?_
              have hPc := hP.sub (ws' := [(zo14irriiiiiirriirrrrlriiii m0 th aS aI im (nI a) (nI p_25) (nI E) 1 5 aB aT se dn aG aO aN aD bv aY rn kd nu tv)]) [0] rfl
              have hKc := hK.sub (tys' := []) [] rfl
              refine va_csv (va_runV (As := [.int (-2)]) (rest := []) ⟨hx, hb, hml, hown, hts⟩ (c_emitsW l dC dI m0 aS aI aB aT aG aO aN aD aY th im (nI a) (nI p_25) (nI E) 1 5 se dn rn kd nu tv bv (-2)) (cwV 1 hts gX12_every_X12_emits rfl rfl rfl hd_yX12_emits ⟨Nat.le_of_ble_eq_true rfl, Nat.le_of_ble_eq_true rfl⟩) ⟨fun a U g mk q => by obtain ⟨q0, qP, qK⟩ := q; exact ⟨q0, qP, va_K.moved (u := U) (U := U.calling g mk a) (Vm.Alike.refl U.vm) qK⟩, va_recv hK hP (ci := 14) (q := (RX12, TX12, 23)) (q0 := 0) rfl rfl, fun U hU hW => ⟨rfl, by rw [hU]; exact hPc, va_K.moved hW.alike hKc⟩⟩ rfl rfl hl.1 rfl (lv_room (Nat.le_of_ble_eq_true rfl)) dX12_every_37 ⟨Nat.le_of_ble_eq_true rfl, Nat.le_of_ble_eq_true rfl⟩).run (fun hw_35 => ?_)
              refine lv_goto (tgt := 4) hx hb dX12_every_40 (by decide) ?_
              exact ih4 (p_25) ([]) (0) (1) (fS9_22) (by omega) (by omega) ((hF).tr hF_30) (Or.inl ⟨rfl, hE9.trans (ps_bad hs9 eP_27)⟩) _ _ (hK.sub [0] rfl) (hP.sub [0, 1] rfl) (hD.sub [0, 1] (by decide) rfl) hS ls (lv_sub hl [0] rfl)
            · skip
              have k5 := hI_32.2.2.2.2.1
              have hqL_26 : ((K ++ L1) ++ L_26).length = (K ++ L1).length + L_26.length := List.length_append
              refine lv_aload_n hx hb dX12_every_34 rfl (lv_at hl 0 rfl) ?_
              refine lv_bipush (v := (-2)) hx hb dX12_every_35 (by decide) ?_
              have hPc := hP.sub (ws' := [(zo14irriiiiiirriirrrrlriiii m0 th aS aI im (nI a) (nI p_25) (nI E) 0 5 aB aT se dn aG aO aN aD bv aY rn kd nu tv), (zaI aS cS 901 fS9_22)]) [0, 1] rfl
              have hDc := hD.sub (ws' := [(zo14irriiiiiirriirrrrlriiii m0 th aS aI im (nI a) (nI p_25) (nI E) 0 5 aB aT se dn aG aO aN aD bv aY rn kd nu tv), (zaI aS cS 901 fS9_22)]) [0, 1] (by decide) rfl
              have hKc := hK.sub (tys' := [(cS, .int)]) [0] rfl
              have hFc := va_free (wc := [(zo14irriiiiiirriirrrrlriiii m0 th aS aI im (nI a) (nI p_25) (nI E) 0 5 aB aT se dn aG aO aN aD bv aY rn kd nu tv), (zaI aS cS 901 fS9_22)]) hD hS hA [0, 1] rfl
              refine va_callv (va_runV (As := [.int (-2)]) (rest := []) ⟨hx, hb, hml, hown, hts⟩ (c_emits l dC dI m0 aS aI aB aT aG aO aN aD aY th im (nI a) (nI p_25) (nI E) 0 5 se dn rn kd nu tv bv cS fS9_22 a ((K ++ L1) ++ L_26).length (-2) H.size (ga) ((hI_32).2.2.2.1) (by have := (hI_32).2.2.2.2.1; omega)) (cwV 1 hts gX12_every_X12_emits rfl rfl rfl hd_yX12_emits ⟨Nat.le_of_ble_eq_true rfl, Nat.le_of_ble_eq_true rfl⟩) ⟨fun a U g mk q => by obtain ⟨q0, q1, qP, qK, qD⟩ := q; exact ⟨q0, q1, qP, va_K.moved (u := U) (U := U.calling g mk a) (Vm.Alike.refl U.vm) qK, qD⟩, va_recv hK hP (ci := 14) (q := (RX12, TX12, 23)) (q0 := 0) rfl rfl, fun U hU hW => ⟨rfl, by rw [hU], by rw [hU]; exact hPc, va_K.moved hW.alike hKc, hDc.weaken (fun _ _ _ _ => trivial)⟩⟩ rfl rfl hl.1 rfl (lv_room (Nat.le_of_ble_eq_true rfl)) dX12_every_37 ⟨Nat.le_of_ble_eq_true rfl, Nat.le_of_ble_eq_true rfl⟩) hS (fun q _ h => hFc q h) hFc (fun u tC H1 locs htC hvm hw_37 hB hz1 hk1 hS => ?_)
              obtain ⟨fS9_38, rfl⟩ : ∃ z, z = u := ⟨_, rfl⟩
              try dsimp only at hw_37 hB
              obtain ⟨hP1, hK1, hD1⟩ := hB
              rw [htC] at hP1
              have hK1 := va_K.moved hvm.symm hK1
              obtain ⟨hP, hD⟩ := va_join (wr := []) (w1 := [(zo14irriiiiiirriirrrrlriiii m0 th aS aI im (nI a) (nI p_25) (nI E) 0 5 aB aT se dn aG aO aN aD bv aY rn kd nu tv), (zaI aS cS 901 fS9_38)]) hP hD [0, 1] [] rfl rfl (by decide) (by decide) hk1 hFc hP1 hD1
              have hK := (hK.sub (tys' := []) [] rfl).app hK1
              generalize H1 = H at hP hS ⊢
              have hP : va_P (dC, dI) vwCl [(zo14irriiiiiirriirrrrlriiii m0 th aS aI im (nI a) (nI p_25) (nI E) 0 5 aB aT se dn aG aO aN aD bv aY rn kd nu tv), (zaI aS cS 901 fS9_38)] H := hP
              have hD : va_D A [(zo14irriiiiiirriirrrrlriiii m0 th aS aI im (nI a) (nI p_25) (nI E) 0 5 aB aT se dn aG aO aN aD bv aY rn kd nu tv), (zaI aS cS 901 fS9_38)] := hD
              have hK : va_K (dC, dI) vwCl [(cS, .int)] s := hK
              obtain rfl : fS9_38 = emt fS9_22 a ((K ++ L1) ++ L_26).length (-2) := by rcases hw_37 with ⟨q, _⟩ | ⟨_, q⟩; exact absurd rfl q; exact q
              have hI_39 : PI (emt fS9_22 a ((K ++ L1) ++ L_26).length (-2)) a (((K ++ L1) ++ L_26) ++ [1802]) (((d + 1) + 1) - 1) p_25 E := PI.em (t := 1802) ((hI_32).mono (by omega) (by omega)) (by omega) (by omega) (stepd_both (by omega)) (by decide)
              have hF_40 : PF a fS (emt fS9_22 a ((K ++ L1) ++ L_26).length (-2)) := ((hF).tr hF_30).tr (PF_emt (k := ((K ++ L1) ++ L_26).length) (x := (-2)) ga (by have := (hI_32).2.2.2.2.1; omega))
              have hKhI_39 : (((K ++ L1) ++ L_26) ++ [1802]).length = ((K ++ L1) ++ L_26).length + 1 := by rw [List.length_append]; rfl
              refine lv_goto (tgt := 4) hx hb dX12_every_40 (by decide) ?_
              exact ih4 (p_25) (L1 ++ (L_26 ++ [1802])) (m2) (0) (emt fS9_22 a ((K ++ L1) ++ L_26).length (-2)) (by omega) (by omega) (hF_40) (Or.inr ⟨rfl, hE9.trans (ps_go hs9 eP_27), by omega, by omega, PI.as (PI.as hI_39), by simp only [List.length_append, List.length_cons, List.length_nil]; omega⟩) _ _ (hK.sub [0] rfl) (hP.sub [0, 1] rfl) (hD.sub [0, 1] (by decide) rfl) hS ls (lv_sub hl [0] rfl)
    exact L4 _ (p_6) ([]) (0) (1) (fS9_3) (Nat.lt_succ_self _) (by omega) ((PF.rf).tr hF_11) (Or.inl ⟨rfl, pEv_n eP_8⟩) _ _ (hK.sub [0] rfl) (hP.sub [0, 1] rfl) (hD.sub [0, 1] (by decide) rfl) hS ls (lv_sub hl [0] rfl)
  · skip
    have k5 := hI_13.2.2.2.2.1
    have hqL_7 : (K ++ L_7).length = K.length + L_7.length := List.length_append
    have L4 : ∀ (nF : Nat) (p1 : Nat) (L1 : List Nat) (m1 : Nat) (w1 : Int32) (f1 : Nat → Int32), E - p1 < nF → (p0 ≤ p1 ∧ p1 ≤ E) → (PF a fS f1) → ((w1 = 1 ∧ pEv ss (pFac ss 0) p0 = (none, p1)) ∨ (w1 = 0 ∧ pEv ss (pFac ss 0) p0 = pSep ss 38 1802 (pFac ss 0) m1 (some L1, p1) ∧ 101 ≤ m1 + p1 ∧ p0 + 3 ≤ p1 ∧ PI f1 a (K ++ L1) (d + 1) p1 E ∧ L1.length + p0 ≤ p1)) → ∀ (H : Heap) (locs : List Loc), va_K (dC, dI) vwCl [(cS, .int)] s → va_P (dC, dI) vwCl [(zo14irriiiiiirriirrrrlriiii m0 th aS aI im (nI a) (nI p1) (nI E) w1 5 aB aT se dn aG aO aN aD bv aY rn kd nu tv), (zaI aS cS 901 f1)] H → va_D A [(zo14irriiiiiirriirrrrlriiii m0 th aS aI im (nI a) (nI p1) (nI E) w1 5 aB aT se dn aG aO aN aD bv aY rn kd nu tv), (zaI aS cS 901 f1)] → va_S A s.heap H locs → ∀ (ls : Array Slot), lv_has ls 1 [(0, .ref m0)] → W p l e ({ frames := 6, cells := 0, slots := 0, locals := 131 } : Room) s m args below meth c H locs 0 0 Q (F0 m 4 ls []) := by
      intro nF
      induction nF with
      | zero => intro p1 L1 m1 w1 f1 hm; exact absurd hm (Nat.not_lt_zero _)
      | succ nF ih4 =>
        intro p1 L1 m1 w1 f1 hm h1 hF hw1 H locs hK hP hD hS ls hl
        obtain ⟨h1a, h1b⟩ := h1
        rcases hw1 with ⟨rfl, hE9⟩ | ⟨rfl, hE9, hm9, h3, hI, h4⟩
        · skip
          refine lv_aload_n hx hb dX12_every_4 rfl (lv_at hl 0 rfl) ?_
          refine va_get (D := (dC, dI)) (ci := 14) (v := .int 1) (C := RX12) (T := TX12) (N := 23) hx hb hts kc_every5_0 hown hK hP 0 rfl rfl 7 (by decide) (hts (.fieldLink RX12 65 "MistHeapsModel" "isWrong" "Z") kc_every5_1) (fun _ h9 => h9) rfl dX12_every_5 ?_
          refine lv_if_ne (tgt := 43) hx hb dX12_every_8 (by decide) (fun _ => ?_) (fun c_41 => absurd c_41 (by decide))
          rw [hQ]
          have hP9 := hP.sub (ws' := [(zo14irriiiiiirriirrrrlriiii m0 th aS aI im (nI a) (nI p1) (nI E) 1 5 aB aT se dn aG aO aN aD bv aY rn kd nu tv), (zaI aS cS 901 f1)]) [0, 1] rfl
          have hD9 := hD.sub (ws' := [(zo14irriiiiiirriirrrrlriiii m0 th aS aI im (nI a) (nI p1) (nI E) 1 5 aB aT se dn aG aO aN aD bv aY rn kd nu tv), (zaI aS cS 901 f1)]) [0, 1] (by decide) rfl
          have hK9 := hK.sub (tys' := [(cS, .int)]) [0] rfl
          exact W.vret hx hb hr (fun tQ htQ hWQ => ⟨⟨(f1, (nI p1), 1), rfl, ⟨p1, rfl, by omega, by omega, hF, Or.inl ⟨rfl, hE9⟩⟩, by rw [htQ]; exact hP9, va_K.moved hWQ.alike hK9, hD9⟩, hS.F htQ⟩) hS.2.2 dX12_every_43
        · skip
          have k5 := hI.2.2.2.2.1
          have hq1 : (K ++ L1).length = K.length + L1.length := List.length_append
          refine lv_aload_n hx hb dX12_every_4 rfl (lv_at hl 0 rfl) ?_
          refine va_get (D := (dC, dI)) (ci := 14) (v := .int 0) (C := RX12) (T := TX12) (N := 23) hx hb hts kc_every5_0 hown hK hP 0 rfl rfl 7 (by decide) (hts (.fieldLink RX12 65 "MistHeapsModel" "isWrong" "Z") kc_every5_1) (fun _ h9 => h9) rfl dX12_every_5 ?_
          refine lv_if_ne (tgt := 43) hx hb dX12_every_8 (by decide) (fun c_42 => absurd c_42 (by decide)) (fun _ => ?_)
          refine lv_aload_n hx hb dX12_every_11 rfl (lv_at hl 0 rfl) ?_
          have hPc := hP.sub (ws' := [(zo14irriiiiiirriirrrrlriiii m0 th aS aI im (nI a) (nI p1) (nI E) 0 5 aB aT se dn aG aO aN aD bv aY rn kd nu tv), (zaI aS cS 901 f1)]) [0, 1] rfl
          have hKc := hK.sub (tys' := [(cS, .int)]) [0] rfl
          refine vp_callSi (va_runV (As := []) (rest := []) ⟨hx, hb, hml, hown, hts⟩ (c_here l dC dI m0 aS aI aB aT aG aO aN aD aY th im (nI a) (nI p1) (nI E) 0 5 se dn rn kd nu tv bv cS f1 a p1 E (by omega) (by omega) (by omega)) (cwV 0 hts gX12_every_X12_here rfl rfl rfl hd_yX12_here ⟨Nat.le_of_ble_eq_true rfl, Nat.le_of_ble_eq_true rfl⟩) ⟨fun a U g mk q => by obtain ⟨q0, qP, qK⟩ := q; exact ⟨q0, qP, va_K.moved (u := U) (U := U.calling g mk a) (Vm.Alike.refl U.vm) qK⟩, va_recv hK hP (ci := 14) (q := (RX12, TX12, 23)) (q0 := 0) rfl rfl, fun U hU hW => ⟨rfl, by rw [hU]; exact hPc, va_K.moved hW.alike hKc⟩⟩ rfl rfl hl.1 rfl (lv_room (Nat.le_of_ble_eq_true rfl)) dX12_every_12 ⟨Nat.le_of_ble_eq_true rfl, Nat.le_of_ble_eq_true rfl⟩).run (fun r_43 hw_44 => ?_)
          refine lv_bipush (v := 38) hx hb dX12_every_15 (by decide) ?_
          refine lv_icmp_ne (tgt := 43) hx hb dX12_every_17 (by decide) (fun c_45 => ?_) (fun c_45 => ?_)
          · skip
            have hn9 : ¬ ss p1 = 38 := fun z => c_45 (by rw [hw_44]; exact ((TP_PF gT gE hF).eq (c := 38) (by omega) (by omega)).mpr z)
            rw [hQ]
            have hP9 := hP.sub (ws' := [(zo14irriiiiiirriirrrrlriiii m0 th aS aI im (nI a) (nI p1) (nI E) 0 5 aB aT se dn aG aO aN aD bv aY rn kd nu tv), (zaI aS cS 901 f1)]) [0, 1] rfl
            have hD9 := hD.sub (ws' := [(zo14irriiiiiirriirrrrlriiii m0 th aS aI im (nI a) (nI p1) (nI E) 0 5 aB aT se dn aG aO aN aD bv aY rn kd nu tv), (zaI aS cS 901 f1)]) [0, 1] (by decide) rfl
            have hK9 := hK.sub (tys' := [(cS, .int)]) [0] rfl
            exact W.vret hx hb hr (fun tQ htQ hWQ => ⟨⟨(f1, (nI p1), 0), rfl, ⟨p1, rfl, by omega, by omega, hF, Or.inr ⟨rfl, L1, hE9.trans (ps_end hn9), by omega, hI, by (try simp only [List.length_append, List.length_cons, List.length_nil]); omega⟩⟩, by rw [htQ]; exact hP9, va_K.moved hWQ.alike hK9, hD9⟩, hS.F htQ⟩) hS.2.2 dX12_every_43
          · skip
            have hs9 : ss p1 = 38 := ((TP_PF gT gE hF).eq (c := 38) (by omega) (by omega)).mp (by rw [← hw_44, c_45]; rfl)
            have hlt : p1 < E := Nat.lt_of_not_le (fun z => by have := gT.2.1 p1 z; omega)
            obtain ⟨m2, rfl⟩ : ∃ q : Nat, m1 = q + 1 := ⟨m1 - 1, by omega⟩
            refine lv_aload_n hx hb dX12_every_20 rfl (lv_at hl 0 rfl) ?_
            refine lv_dup hx hb dX12_every_21 rfl ?_
            refine va_get (D := (dC, dI)) (ci := 14) (v := .int (nI p1)) (C := RX12) (T := TX12) (N := 23) hx hb hts kc_every5_0 hown hK hP 0 rfl rfl 5 (by decide) (hts (.fieldLink RX12 59 "MistHeapsModel" "spot" "I") kc_every5_2) (fun _ h9 => h9) rfl dX12_every_22 ?_
            refine lv_iconst (v := 1) hx hb dX12_every_25 (by decide) ?_
            refine lv_iadd hx hb dX12_every_26 ?_
            refine qi_as (y := nI (p1 + 1)) (nI_add p1 1) ?_
            refine va_put (D := (dC, dI)) (ci := 14) (v := .int (nI (p1 + 1))) (ty := .int) (C := RX12) (T := TX12) (N := 23) hx hb hts kc_every5_0 tyX12 tyX12_ok nmX12 hown hK hP hD hS 0 rfl rfl 5 (by decide) (hts (.fieldLink RX12 59 "MistHeapsModel" "spot" "I") kc_every5_2) (fun _ h9 => h9) rfl (by decide +kernel) rfl rfl (Nat.le_of_ble_eq_true rfl) dX12_every_27 (fun H locs hP hD hS => ?_)
            have hP : va_P (dC, dI) vwCl [(zo14irriiiiiirriirrrrlriiii m0 th aS aI im (nI a) (nI (p1 + 1)) (nI E) 0 5 aB aT se dn aG aO aN aD bv aY rn kd nu tv), (zaI aS cS 901 f1)] H := hP
            have hD : va_D A [(zo14irriiiiiirriirrrrlriiii m0 th aS aI im (nI a) (nI (p1 + 1)) (nI E) 0 5 aB aT se dn aG aO aN aD bv aY rn kd nu tv), (zaI aS cS 901 f1)] := hD
            refine lv_aload_n hx hb dX12_every_30 rfl (lv_at hl 0 rfl) ?_
            have hPc := hP.sub (ws' := [(zo14irriiiiiirriirrrrlriiii m0 th aS aI im (nI a) (nI (p1 + 1)) (nI E) 0 5 aB aT se dn aG aO aN aD bv aY rn kd nu tv), (zaI aS cS 901 f1)]) [0, 1] rfl
            have hDc := hD.sub (ws' := [(zo14irriiiiiirriirrrrlriiii m0 th aS aI im (nI a) (nI (p1 + 1)) (nI E) 0 5 aB aT se dn aG aO aN aD bv aY rn kd nu tv), (zaI aS cS 901 f1)]) [0, 1] (by decide) rfl
            have hKc := hK.sub (tys' := [(cS, .int)]) [0] rfl
            have hFc := va_free (wc := [(zo14irriiiiiirriirrrrlriiii m0 th aS aI im (nI a) (nI (p1 + 1)) (nI E) 0 5 aB aT se dn aG aO aN aD bv aY rn kd nu tv), (zaI aS cS 901 f1)]) hD hS hA [0, 1] rfl
            refine va_callv (va_runV (As := []) (rest := []) ⟨hx, hb, hml, hown, hts⟩ (c_factor5 l dC dI sK sV m0 aS aI aB aT aG aO aN aD aY th im (nI a) (nI (p1 + 1)) (nI E) 0 5 se dn rn kd nu tv bv cS f1 a (p1 + 1) E (K ++ L1) (d + 1) ss H.size ((hI).mono (by omega) (by omega)) ((TP_PF gT gE (hF)))) (cwV 0 hts gX12_every_X12_factor rfl rfl rfl hd_yX12_factor ⟨Nat.le_of_ble_eq_true rfl, Nat.le_of_ble_eq_true rfl⟩) ⟨fun a U g mk q => by obtain ⟨q0, q1, qP, qK, qD, qhE⟩ := q; exact ⟨q0, q1, qP, va_K.moved (u := U) (U := U.calling g mk a) (Vm.Alike.refl U.vm) qK, qD, qhE.same rfl rfl⟩, va_recv hK hP (ci := 14) (q := (RX12, TX12, 23)) (q0 := 0) rfl rfl, fun U hU hW => ⟨rfl, by rw [hU], by rw [hU]; exact hPc, va_K.moved hW.alike hKc, hDc.weaken (fun _ _ _ _ => trivial), hE.call hS hU hW (fun q h => hFc q h)⟩⟩ rfl rfl hl.1 rfl (lv_room (Nat.le_of_ble_eq_true rfl)) dX12_every_31 ⟨Nat.le_of_ble_eq_true rfl, Nat.le_of_ble_eq_true rfl⟩) hS (fun q _ h => hFc q h) hFc (fun u tC H1 locs htC hvm hw_47 hB hz1 hk1 hS => ?_)
            obtain ⟨fS9_48, sp9_49, wg9_50⟩ := u
            try dsimp only at hw_47 hB
            obtain ⟨hP1, hK1, hD1⟩ := hB
            rw [htC] at hP1
            have hK1 := va_K.moved hvm.symm hK1
            obtain ⟨hP, hD⟩ := va_join (wr := []) (w1 := [(zo14irriiiiiirriirrrrlriiii m0 th aS aI im (nI a) sp9_49 (nI E) wg9_50 5 aB aT se dn aG aO aN aD bv aY rn kd nu tv), (zaI aS cS 901 fS9_48)]) hP hD [0, 1] [] rfl rfl (by decide) (by decide) hk1 hFc hP1 hD1
            have hK := (hK.sub (tys' := []) [] rfl).app hK1
            generalize H1 = H at hP hS ⊢
            have hP : va_P (dC, dI) vwCl [(zo14irriiiiiirriirrrrlriiii m0 th aS aI im (nI a) sp9_49 (nI E) wg9_50 5 aB aT se dn aG aO aN aD bv aY rn kd nu tv), (zaI aS cS 901 fS9_48)] H := hP
            have hD : va_D A [(zo14irriiiiiirriirrrrlriiii m0 th aS aI im (nI a) sp9_49 (nI E) wg9_50 5 aB aT se dn aG aO aN aD bv aY rn kd nu tv), (zaI aS cS 901 fS9_48)] := hD
            have hK : va_K (dC, dI) vwCl [(cS, .int)] s := hK
            obtain ⟨p_51, rfl, h_54, h_55, hF_56, q9⟩ := hw_47
            rcases q9 with ⟨rfl, eP_53⟩ | ⟨rfl, L_52, eP_53, h_57, hI_58, h_59⟩
            · skip
              refine lv_aload_n hx hb dX12_every_34 rfl (lv_at hl 0 rfl) ?_
              refine lv_bipush (v := (-2)) hx hb dX12_every_35 (by decide) ?_
              have hPc := hP.sub (ws' := [(zo14irriiiiiirriirrrrlriiii m0 th aS aI im (nI a) (nI p_51) (nI E) 1 5 aB aT se dn aG aO aN aD bv aY rn kd nu tv)]) [0] rfl
              have hKc := hK.sub (tys' := []) [] rfl
              refine va_csv (va_runV (As := [.int (-2)]) (rest := []) ⟨hx, hb, hml, hown, hts⟩ (c_emitsW l dC dI m0 aS aI aB aT aG aO aN aD aY th im (nI a) (nI p_51) (nI E) 1 5 se dn rn kd nu tv bv (-2)) (cwV 1 hts gX12_every_X12_emits rfl rfl rfl hd_yX12_emits ⟨Nat.le_of_ble_eq_true rfl, Nat.le_of_ble_eq_true rfl⟩) ⟨fun a U g mk q => by obtain ⟨q0, qP, qK⟩ := q; exact ⟨q0, qP, va_K.moved (u := U) (U := U.calling g mk a) (Vm.Alike.refl U.vm) qK⟩, va_recv hK hP (ci := 14) (q := (RX12, TX12, 23)) (q0 := 0) rfl rfl, fun U hU hW => ⟨rfl, by rw [hU]; exact hPc, va_K.moved hW.alike hKc⟩⟩ rfl rfl hl.1 rfl (lv_room (Nat.le_of_ble_eq_true rfl)) dX12_every_37 ⟨Nat.le_of_ble_eq_true rfl, Nat.le_of_ble_eq_true rfl⟩).run (fun hw_61 => ?_)
              refine lv_goto (tgt := 4) hx hb dX12_every_40 (by decide) ?_
              exact ih4 (p_51) ([]) (0) (1) (fS9_48) (by omega) (by omega) ((hF).tr hF_56) (Or.inl ⟨rfl, hE9.trans (ps_bad hs9 eP_53)⟩) _ _ (hK.sub [0] rfl) (hP.sub [0, 1] rfl) (hD.sub [0, 1] (by decide) rfl) hS ls (lv_sub hl [0] rfl)
            · skip
              have k5 := hI_58.2.2.2.2.1
              have hqL_52 : ((K ++ L1) ++ L_52).length = (K ++ L1).length + L_52.length := List.length_append
              refine lv_aload_n hx hb dX12_every_34 rfl (lv_at hl 0 rfl) ?_
              refine lv_bipush (v := (-2)) hx hb dX12_every_35 (by decide) ?_
              have hPc := hP.sub (ws' := [(zo14irriiiiiirriirrrrlriiii m0 th aS aI im (nI a) (nI p_51) (nI E) 0 5 aB aT se dn aG aO aN aD bv aY rn kd nu tv), (zaI aS cS 901 fS9_48)]) [0, 1] rfl
              have hDc := hD.sub (ws' := [(zo14irriiiiiirriirrrrlriiii m0 th aS aI im (nI a) (nI p_51) (nI E) 0 5 aB aT se dn aG aO aN aD bv aY rn kd nu tv), (zaI aS cS 901 fS9_48)]) [0, 1] (by decide) rfl
              have hKc := hK.sub (tys' := [(cS, .int)]) [0] rfl
              have hFc := va_free (wc := [(zo14irriiiiiirriirrrrlriiii m0 th aS aI im (nI a) (nI p_51) (nI E) 0 5 aB aT se dn aG aO aN aD bv aY rn kd nu tv), (zaI aS cS 901 fS9_48)]) hD hS hA [0, 1] rfl
              refine va_callv (va_runV (As := [.int (-2)]) (rest := []) ⟨hx, hb, hml, hown, hts⟩ (c_emits l dC dI m0 aS aI aB aT aG aO aN aD aY th im (nI a) (nI p_51) (nI E) 0 5 se dn rn kd nu tv bv cS fS9_48 a ((K ++ L1) ++ L_52).length (-2) H.size (ga) ((hI_58).2.2.2.1) (by have := (hI_58).2.2.2.2.1; omega)) (cwV 1 hts gX12_every_X12_emits rfl rfl rfl hd_yX12_emits ⟨Nat.le_of_ble_eq_true rfl, Nat.le_of_ble_eq_true rfl⟩) ⟨fun a U g mk q => by obtain ⟨q0, q1, qP, qK, qD⟩ := q; exact ⟨q0, q1, qP, va_K.moved (u := U) (U := U.calling g mk a) (Vm.Alike.refl U.vm) qK, qD⟩, va_recv hK hP (ci := 14) (q := (RX12, TX12, 23)) (q0 := 0) rfl rfl, fun U hU hW => ⟨rfl, by rw [hU], by rw [hU]; exact hPc, va_K.moved hW.alike hKc, hDc.weaken (fun _ _ _ _ => trivial)⟩⟩ rfl rfl hl.1 rfl (lv_room (Nat.le_of_ble_eq_true rfl)) dX12_every_37 ⟨Nat.le_of_ble_eq_true rfl, Nat.le_of_ble_eq_true rfl⟩) hS (fun q _ h => hFc q h) hFc (fun u tC H1 locs htC hvm hw_63 hB hz1 hk1 hS => ?_)
              obtain ⟨fS9_64, rfl⟩ : ∃ z, z = u := ⟨_, rfl⟩
              try dsimp only at hw_63 hB
              obtain ⟨hP1, hK1, hD1⟩ := hB
              rw [htC] at hP1
              have hK1 := va_K.moved hvm.symm hK1
              obtain ⟨hP, hD⟩ := va_join (wr := []) (w1 := [(zo14irriiiiiirriirrrrlriiii m0 th aS aI im (nI a) (nI p_51) (nI E) 0 5 aB aT se dn aG aO aN aD bv aY rn kd nu tv), (zaI aS cS 901 fS9_64)]) hP hD [0, 1] [] rfl rfl (by decide) (by decide) hk1 hFc hP1 hD1
              have hK := (hK.sub (tys' := []) [] rfl).app hK1
              generalize H1 = H at hP hS ⊢
              have hP : va_P (dC, dI) vwCl [(zo14irriiiiiirriirrrrlriiii m0 th aS aI im (nI a) (nI p_51) (nI E) 0 5 aB aT se dn aG aO aN aD bv aY rn kd nu tv), (zaI aS cS 901 fS9_64)] H := hP
              have hD : va_D A [(zo14irriiiiiirriirrrrlriiii m0 th aS aI im (nI a) (nI p_51) (nI E) 0 5 aB aT se dn aG aO aN aD bv aY rn kd nu tv), (zaI aS cS 901 fS9_64)] := hD
              have hK : va_K (dC, dI) vwCl [(cS, .int)] s := hK
              obtain rfl : fS9_64 = emt fS9_48 a ((K ++ L1) ++ L_52).length (-2) := by rcases hw_63 with ⟨q, _⟩ | ⟨_, q⟩; exact absurd rfl q; exact q
              have hI_65 : PI (emt fS9_48 a ((K ++ L1) ++ L_52).length (-2)) a (((K ++ L1) ++ L_52) ++ [1802]) (((d + 1) + 1) - 1) p_51 E := PI.em (t := 1802) ((hI_58).mono (by omega) (by omega)) (by omega) (by omega) (stepd_both (by omega)) (by decide)
              have hF_66 : PF a fS (emt fS9_48 a ((K ++ L1) ++ L_52).length (-2)) := ((hF).tr hF_56).tr (PF_emt (k := ((K ++ L1) ++ L_52).length) (x := (-2)) ga (by have := (hI_58).2.2.2.2.1; omega))
              have hKhI_65 : (((K ++ L1) ++ L_52) ++ [1802]).length = ((K ++ L1) ++ L_52).length + 1 := by rw [List.length_append]; rfl
              refine lv_goto (tgt := 4) hx hb dX12_every_40 (by decide) ?_
              exact ih4 (p_51) (L1 ++ (L_52 ++ [1802])) (m2) (0) (emt fS9_48 a ((K ++ L1) ++ L_52).length (-2)) (by omega) (by omega) (hF_66) (Or.inr ⟨rfl, hE9.trans (ps_go hs9 eP_53), by omega, by omega, PI.as (PI.as hI_65), by simp only [List.length_append, List.length_cons, List.length_nil]; omega⟩) _ _ (hK.sub [0] rfl) (hP.sub [0, 1] rfl) (hD.sub [0, 1] (by decide) rfl) hS ls (lv_sub hl [0] rfl)
    exact L4 _ (p_6) (L_7) (101) (0) (fS9_3) (Nat.lt_succ_self _) (by omega) ((PF.rf).tr hF_11) (Or.inr ⟨rfl, pEv_s eP_8, by omega, by omega, hI_13, by omega⟩) _ _ (hK.sub [0] rfl) (hP.sub [0, 1] rfl) (hD.sub [0, 1] (by decide) rfl) hS ls (lv_sub hl [0] rfl)

theorem kc_some5_0 : ∀ w ∈ wsX120, w ∈ wsX12_some := fun w h => List.mem_cons_of_mem _ (gin_wsX120 w h)
theorem kc_some5_1 : (.fieldLink RX12 65 "MistHeapsModel" "isWrong" "Z" : Cond) ∈ wsX12_some := kc_of 1147 rfl rfl rfl
theorem kc_some5_2 : (.fieldLink RX12 59 "MistHeapsModel" "spot" "I" : Cond) ∈ wsX12_some := kc_of 1145 rfl rfl rfl
set_option maxHeartbeats 4000000 in
set_option maxRecDepth 100000 in
theorem c_some5 (l : Launch) (dC : Nat → ClassId) (dI : Nat → Nat → Nat) (sK sV : Nat → Nat) (m0 aS aI aB aT aG aO aN aD aY : Nat) (th im ac sp en wg op se dn rn kd nu tv : Int32) (bv : Int64) (cS : ClassId) (fS : Nat → Int32) (a p0 E : Nat) (K : List Nat) (d : Nat) (ss : Nat → Nat) (sz : Nat) (gI : PI fS a K d p0 E) (gT : TP fS E ss) : Met l yX12_some wsX12_some ({ frames := 7, cells := 0, slots := 0, locals := 151 } : Room) (va_Pc [.ref m0] (fun U => U.heap.size = sz ∧ va_P (dC, dI) vwCl [(zo14irriiiiiirriirrrrlriiii m0 th aS aI im (nI a) (nI p0) (nI E) 0 5 aB aT se dn aG aO aN aD bv aY rn kd nu tv), (zaI aS cS 901 fS)] U.heap ∧ va_K (dC, dI) vwCl [(cS, .int)] U ∧ va_D (fun _ => True) [(zo14irriiiiiirriirrrrlriiii m0 th aS aI im (nI a) (nI p0) (nI E) 0 5 aB aT se dn aG aO aN aD bv aY rn kd nu tv), (zaI aS cS 901 fS)] ∧ Gs sK sV (va_A [(zo14irriiiiiirriirrrrlriiii m0 th aS aI im (nI a) (nI p0) (nI E) 0 5 aB aT se dn aG aO aN aD bv aY rn kd nu tv), (zaI aS cS 901 fS)] sz) U)) (va_Qv (fun (u : (Nat → Int32) × (Int32) × (Int32)) => match u with | (fS9, sp9, wg9) => ∃ p9 : Nat, sp9 = nI p9 ∧ p0 ≤ p9 ∧ p9 ≤ E ∧ PF a fS fS9 ∧ ((wg9 = 1 ∧ pSm ss (pFac ss 0) p0 = (none, p9)) ∨ (wg9 = 0 ∧ ∃ L : List Nat, pSm ss (pFac ss 0) p0 = (some L, p9) ∧ p0 + 3 ≤ p9 ∧ PI fS9 a (K ++ L) (d + 1) p9 E ∧ L.length + p0 ≤ p9))) (fun (u : (Nat → Int32) × (Int32) × (Int32)) (t : State) => match u with | (fS9, sp9, wg9) => va_P (dC, dI) vwCl [(zo14irriiiiiirriirrrrlriiii m0 th aS aI im (nI a) sp9 (nI E) wg9 5 aB aT se dn aG aO aN aD bv aY rn kd nu tv), (zaI aS cS 901 fS9)] t.heap ∧ va_K (dC, dI) vwCl [(cS, .int)] t ∧ va_D (va_A [(zo14irriiiiiirriirrrrlriiii m0 th aS aI im (nI a) (nI p0) (nI E) 0 5 aB aT se dn aG aO aN aD bv aY rn kd nu tv), (zaI aS cS 901 fS)] sz) [(zo14irriiiiiirriirrrrlriiii m0 th aS aI im (nI a) sp9 (nI E) wg9 5 aB aT se dn aG aO aN aD bv aY rn kd nu tv), (zaI aS cS 901 fS9)]) (va_A [(zo14irriiiiiirriirrrrlriiii m0 th aS aI im (nI a) (nI p0) (nI E) 0 5 aB aT se dn aG aO aN aD bv aY rn kd nu tv), (zaI aS cS 901 fS)] sz)) 0 0 (va_A [(zo14irriiiiiirriirrrrlriiii m0 th aS aI im (nI a) (nI p0) (nI E) 0 5 aB aT se dn aG aO aN aD bv aY rn kd nu tv), (zaI aS cS 901 fS)] sz) := by
  refine met_ofQ (cc := cX12_some) (maxL := 1) (ret := none) (by decide) rfl ?_
  intro p e s m args below meth c s₁ Q B hml hv hQ
  obtain ⟨rfl, hsz, hP, hK, hD0, hE⟩ := hv
  have hx := B.exec
  have hb := B.bytes
  have hr := B.returns
  have hts := atoms_spec (ws := wsX12_some) B.pre
  have hown : s.vm.findClass RX12 = some m.cls := findClass_of_methodNamed B.named
  have hlocks := B.notSynchronized
  subst hsz
  have hD := hD0.self (sz := s.heap.size)
  generalize hAe : va_A [(zo14irriiiiiirriirrrrlriiii m0 th aS aI im (nI a) (nI p0) (nI E) 0 5 aB aT se dn aG aO aN aD bv aY rn kd nu tv), (zaI aS cS 901 fS)] s.heap.size = A at hD hQ hE ⊢
  have hA : ∀ q : Nat, s.heap.size ≤ q → A q := fun q h => by rw [← hAe]; exact Or.inr h
  have hS : va_S A s.heap s.heap [] := va_S.rf
  have hl := lv_entry [.ref m0] (n := 1) (Nat.le_of_ble_eq_true rfl)
  rw [lg_entry_eq]
  generalize (lg_sl [.ref m0] ++ List.replicate (1 - (lg_sl [.ref m0]).length) Slot.unset).toArray = ls at hl ⊢
  generalize hag : ([.ref m0] : List Value).toArray = args at hts hQ ⊢
  have hl : lv_has ls 1 [(0, .ref m0)] := hl
  obtain ⟨H, hH⟩ : ∃ H : Heap, H = s.heap := ⟨_, rfl⟩
  rw [← hH] at hP
  rw [← hH]
  have hS : va_S A s.heap H [] := by rw [hH]; exact hS
  obtain ⟨locs, hlo⟩ : ∃ L : List Loc, L = [] := ⟨_, rfl⟩
  rw [← hlo] at hS
  rw [← hlo]
  clear hH hlo
  obtain ⟨ga, gp, gE, zk, gkp, gd, gs, gcd⟩ := id gI
  refine lv_aload_n hx hb dX12_some_0 rfl (lv_at hl 0 rfl) ?_
  have hPc := hP.sub (ws' := [(zo14irriiiiiirriirrrrlriiii m0 th aS aI im (nI a) (nI p0) (nI E) 0 5 aB aT se dn aG aO aN aD bv aY rn kd nu tv), (zaI aS cS 901 fS)]) [0, 1] rfl
  have hDc := hD.sub (ws' := [(zo14irriiiiiirriirrrrlriiii m0 th aS aI im (nI a) (nI p0) (nI E) 0 5 aB aT se dn aG aO aN aD bv aY rn kd nu tv), (zaI aS cS 901 fS)]) [0, 1] (by decide) rfl
  have hKc := hK.sub (tys' := [(cS, .int)]) [0] rfl
  have hFc := va_free (wc := [(zo14irriiiiiirriirrrrlriiii m0 th aS aI im (nI a) (nI p0) (nI E) 0 5 aB aT se dn aG aO aN aD bv aY rn kd nu tv), (zaI aS cS 901 fS)]) hD hS hA [0, 1] rfl
  refine va_callv (va_runV (As := []) (rest := []) ⟨hx, hb, hml, hown, hts⟩ (c_every5 l dC dI sK sV m0 aS aI aB aT aG aO aN aD aY th im (nI a) (nI p0) (nI E) 0 5 se dn rn kd nu tv bv cS fS a p0 E K d ss H.size ((gI).mono (by omega) (by omega)) (gT)) (cwV 0 hts gX12_some_X12_every rfl rfl rfl hd_yX12_every ⟨Nat.le_of_ble_eq_true rfl, Nat.le_of_ble_eq_true rfl⟩) ⟨fun a U g mk q => by obtain ⟨q0, q1, qP, qK, qD, qhE⟩ := q; exact ⟨q0, q1, qP, va_K.moved (u := U) (U := U.calling g mk a) (Vm.Alike.refl U.vm) qK, qD, qhE.same rfl rfl⟩, va_recv hK hP (ci := 14) (q := (RX12, TX12, 23)) (q0 := 0) rfl rfl, fun U hU hW => ⟨rfl, by rw [hU], by rw [hU]; exact hPc, va_K.moved hW.alike hKc, hDc.weaken (fun _ _ _ _ => trivial), hE.call hS hU hW (fun q h => hFc q h)⟩⟩ rfl rfl hl.1 rfl (lv_room (Nat.le_of_ble_eq_true rfl)) dX12_some_1 ⟨Nat.le_of_ble_eq_true rfl, Nat.le_of_ble_eq_true rfl⟩) hS (fun q _ h => hFc q h) hFc (fun u tC H1 locs htC hvm hw_2 hB hz1 hk1 hS => ?_)
  obtain ⟨fS9_3, sp9_4, wg9_5⟩ := u
  try dsimp only at hw_2 hB
  obtain ⟨hP1, hK1, hD1⟩ := hB
  rw [htC] at hP1
  have hK1 := va_K.moved hvm.symm hK1
  obtain ⟨hP, hD⟩ := va_join (wr := []) (w1 := [(zo14irriiiiiirriirrrrlriiii m0 th aS aI im (nI a) sp9_4 (nI E) wg9_5 5 aB aT se dn aG aO aN aD bv aY rn kd nu tv), (zaI aS cS 901 fS9_3)]) hP hD [0, 1] [] rfl rfl (by decide) (by decide) hk1 hFc hP1 hD1
  have hK := (hK.sub (tys' := []) [] rfl).app hK1
  generalize H1 = H at hP hS ⊢
  have hP : va_P (dC, dI) vwCl [(zo14irriiiiiirriirrrrlriiii m0 th aS aI im (nI a) sp9_4 (nI E) wg9_5 5 aB aT se dn aG aO aN aD bv aY rn kd nu tv), (zaI aS cS 901 fS9_3)] H := hP
  have hD : va_D A [(zo14irriiiiiirriirrrrlriiii m0 th aS aI im (nI a) sp9_4 (nI E) wg9_5 5 aB aT se dn aG aO aN aD bv aY rn kd nu tv), (zaI aS cS 901 fS9_3)] := hD
  have hK : va_K (dC, dI) vwCl [(cS, .int)] s := hK
  obtain ⟨p_6, rfl, h_9, h_10, hF_11, q9⟩ := hw_2
  rcases q9 with ⟨rfl, eP_8⟩ | ⟨rfl, L_7, eP_8, h_12, hI_13, h_14⟩
  · skip
    have L4 : ∀ (nF : Nat) (p1 : Nat) (L1 : List Nat) (m1 : Nat) (w1 : Int32) (f1 : Nat → Int32), E - p1 < nF → (p0 ≤ p1 ∧ p1 ≤ E) → (PF a fS f1) → ((w1 = 1 ∧ pSm ss (pFac ss 0) p0 = (none, p1)) ∨ (w1 = 0 ∧ pSm ss (pFac ss 0) p0 = pSep ss 124 1803 (pEv ss (pFac ss 0)) m1 (some L1, p1) ∧ 101 ≤ m1 + p1 ∧ p0 + 3 ≤ p1 ∧ PI f1 a (K ++ L1) (d + 1) p1 E ∧ L1.length + p0 ≤ p1)) → ∀ (H : Heap) (locs : List Loc), va_K (dC, dI) vwCl [(cS, .int)] s → va_P (dC, dI) vwCl [(zo14irriiiiiirriirrrrlriiii m0 th aS aI im (nI a) (nI p1) (nI E) w1 5 aB aT se dn aG aO aN aD bv aY rn kd nu tv), (zaI aS cS 901 f1)] H → va_D A [(zo14irriiiiiirriirrrrlriiii m0 th aS aI im (nI a) (nI p1) (nI E) w1 5 aB aT se dn aG aO aN aD bv aY rn kd nu tv), (zaI aS cS 901 f1)] → va_S A s.heap H locs → ∀ (ls : Array Slot), lv_has ls 1 [(0, .ref m0)] → W p l e ({ frames := 7, cells := 0, slots := 0, locals := 151 } : Room) s m args below meth c H locs 0 0 Q (F0 m 4 ls []) := by
      intro nF
      induction nF with
      | zero => intro p1 L1 m1 w1 f1 hm; exact absurd hm (Nat.not_lt_zero _)
      | succ nF ih4 =>
        intro p1 L1 m1 w1 f1 hm h1 hF hw1 H locs hK hP hD hS ls hl
        obtain ⟨h1a, h1b⟩ := h1
        rcases hw1 with ⟨rfl, hE9⟩ | ⟨rfl, hE9, hm9, h3, hI, h4⟩
        · skip
          refine lv_aload_n hx hb dX12_some_4 rfl (lv_at hl 0 rfl) ?_
          refine va_get (D := (dC, dI)) (ci := 14) (v := .int 1) (C := RX12) (T := TX12) (N := 23) hx hb hts kc_some5_0 hown hK hP 0 rfl rfl 7 (by decide) (hts (.fieldLink RX12 65 "MistHeapsModel" "isWrong" "Z") kc_some5_1) (fun _ h9 => h9) rfl dX12_some_5 ?_
          refine lv_if_ne (tgt := 43) hx hb dX12_some_8 (by decide) (fun _ => ?_) (fun c_15 => absurd c_15 (by decide))
          rw [hQ]
          have hP9 := hP.sub (ws' := [(zo14irriiiiiirriirrrrlriiii m0 th aS aI im (nI a) (nI p1) (nI E) 1 5 aB aT se dn aG aO aN aD bv aY rn kd nu tv), (zaI aS cS 901 f1)]) [0, 1] rfl
          have hD9 := hD.sub (ws' := [(zo14irriiiiiirriirrrrlriiii m0 th aS aI im (nI a) (nI p1) (nI E) 1 5 aB aT se dn aG aO aN aD bv aY rn kd nu tv), (zaI aS cS 901 f1)]) [0, 1] (by decide) rfl
          have hK9 := hK.sub (tys' := [(cS, .int)]) [0] rfl
          exact W.vret hx hb hr (fun tQ htQ hWQ => ⟨⟨(f1, (nI p1), 1), rfl, ⟨p1, rfl, by omega, by omega, hF, Or.inl ⟨rfl, hE9⟩⟩, by rw [htQ]; exact hP9, va_K.moved hWQ.alike hK9, hD9⟩, hS.F htQ⟩) hS.2.2 dX12_some_43
        · skip
          have k5 := hI.2.2.2.2.1
          have hq1 : (K ++ L1).length = K.length + L1.length := List.length_append
          refine lv_aload_n hx hb dX12_some_4 rfl (lv_at hl 0 rfl) ?_
          refine va_get (D := (dC, dI)) (ci := 14) (v := .int 0) (C := RX12) (T := TX12) (N := 23) hx hb hts kc_some5_0 hown hK hP 0 rfl rfl 7 (by decide) (hts (.fieldLink RX12 65 "MistHeapsModel" "isWrong" "Z") kc_some5_1) (fun _ h9 => h9) rfl dX12_some_5 ?_
          refine lv_if_ne (tgt := 43) hx hb dX12_some_8 (by decide) (fun c_16 => absurd c_16 (by decide)) (fun _ => ?_)
          refine lv_aload_n hx hb dX12_some_11 rfl (lv_at hl 0 rfl) ?_
          have hPc := hP.sub (ws' := [(zo14irriiiiiirriirrrrlriiii m0 th aS aI im (nI a) (nI p1) (nI E) 0 5 aB aT se dn aG aO aN aD bv aY rn kd nu tv), (zaI aS cS 901 f1)]) [0, 1] rfl
          have hKc := hK.sub (tys' := [(cS, .int)]) [0] rfl
          refine vp_callSi (va_runV (As := []) (rest := []) ⟨hx, hb, hml, hown, hts⟩ (c_here l dC dI m0 aS aI aB aT aG aO aN aD aY th im (nI a) (nI p1) (nI E) 0 5 se dn rn kd nu tv bv cS f1 a p1 E (by omega) (by omega) (by omega)) (cwV 0 hts gX12_some_X12_here rfl rfl rfl hd_yX12_here ⟨Nat.le_of_ble_eq_true rfl, Nat.le_of_ble_eq_true rfl⟩) ⟨fun a U g mk q => by obtain ⟨q0, qP, qK⟩ := q; exact ⟨q0, qP, va_K.moved (u := U) (U := U.calling g mk a) (Vm.Alike.refl U.vm) qK⟩, va_recv hK hP (ci := 14) (q := (RX12, TX12, 23)) (q0 := 0) rfl rfl, fun U hU hW => ⟨rfl, by rw [hU]; exact hPc, va_K.moved hW.alike hKc⟩⟩ rfl rfl hl.1 rfl (lv_room (Nat.le_of_ble_eq_true rfl)) dX12_some_12 ⟨Nat.le_of_ble_eq_true rfl, Nat.le_of_ble_eq_true rfl⟩).run (fun r_17 hw_18 => ?_)
          refine lv_bipush (v := 124) hx hb dX12_some_15 (by decide) ?_
          refine lv_icmp_ne (tgt := 43) hx hb dX12_some_17 (by decide) (fun c_19 => ?_) (fun c_19 => ?_)
          · skip
            have hn9 : ¬ ss p1 = 124 := fun z => c_19 (by rw [hw_18]; exact ((TP_PF gT gE hF).eq (c := 124) (by omega) (by omega)).mpr z)
            rw [hQ]
            have hP9 := hP.sub (ws' := [(zo14irriiiiiirriirrrrlriiii m0 th aS aI im (nI a) (nI p1) (nI E) 0 5 aB aT se dn aG aO aN aD bv aY rn kd nu tv), (zaI aS cS 901 f1)]) [0, 1] rfl
            have hD9 := hD.sub (ws' := [(zo14irriiiiiirriirrrrlriiii m0 th aS aI im (nI a) (nI p1) (nI E) 0 5 aB aT se dn aG aO aN aD bv aY rn kd nu tv), (zaI aS cS 901 f1)]) [0, 1] (by decide) rfl
            have hK9 := hK.sub (tys' := [(cS, .int)]) [0] rfl
            exact W.vret hx hb hr (fun tQ htQ hWQ => ⟨⟨(f1, (nI p1), 0), rfl, ⟨p1, rfl, by omega, by omega, hF, Or.inr ⟨rfl, L1, hE9.trans (ps_end hn9), by omega, hI, by (try simp only [List.length_append, List.length_cons, List.length_nil]); omega⟩⟩, by rw [htQ]; exact hP9, va_K.moved hWQ.alike hK9, hD9⟩, hS.F htQ⟩) hS.2.2 dX12_some_43
          · skip
            have hs9 : ss p1 = 124 := ((TP_PF gT gE hF).eq (c := 124) (by omega) (by omega)).mp (by rw [← hw_18, c_19]; rfl)
            have hlt : p1 < E := Nat.lt_of_not_le (fun z => by have := gT.2.1 p1 z; omega)
            obtain ⟨m2, rfl⟩ : ∃ q : Nat, m1 = q + 1 := ⟨m1 - 1, by omega⟩
            refine lv_aload_n hx hb dX12_some_20 rfl (lv_at hl 0 rfl) ?_
            refine lv_dup hx hb dX12_some_21 rfl ?_
            refine va_get (D := (dC, dI)) (ci := 14) (v := .int (nI p1)) (C := RX12) (T := TX12) (N := 23) hx hb hts kc_some5_0 hown hK hP 0 rfl rfl 5 (by decide) (hts (.fieldLink RX12 59 "MistHeapsModel" "spot" "I") kc_some5_2) (fun _ h9 => h9) rfl dX12_some_22 ?_
            refine lv_iconst (v := 1) hx hb dX12_some_25 (by decide) ?_
            refine lv_iadd hx hb dX12_some_26 ?_
            refine qi_as (y := nI (p1 + 1)) (nI_add p1 1) ?_
            refine va_put (D := (dC, dI)) (ci := 14) (v := .int (nI (p1 + 1))) (ty := .int) (C := RX12) (T := TX12) (N := 23) hx hb hts kc_some5_0 tyX12 tyX12_ok nmX12 hown hK hP hD hS 0 rfl rfl 5 (by decide) (hts (.fieldLink RX12 59 "MistHeapsModel" "spot" "I") kc_some5_2) (fun _ h9 => h9) rfl (by decide +kernel) rfl rfl (Nat.le_of_ble_eq_true rfl) dX12_some_27 (fun H locs hP hD hS => ?_)
            have hP : va_P (dC, dI) vwCl [(zo14irriiiiiirriirrrrlriiii m0 th aS aI im (nI a) (nI (p1 + 1)) (nI E) 0 5 aB aT se dn aG aO aN aD bv aY rn kd nu tv), (zaI aS cS 901 f1)] H := hP
            have hD : va_D A [(zo14irriiiiiirriirrrrlriiii m0 th aS aI im (nI a) (nI (p1 + 1)) (nI E) 0 5 aB aT se dn aG aO aN aD bv aY rn kd nu tv), (zaI aS cS 901 f1)] := hD
            refine lv_aload_n hx hb dX12_some_30 rfl (lv_at hl 0 rfl) ?_
            have hPc := hP.sub (ws' := [(zo14irriiiiiirriirrrrlriiii m0 th aS aI im (nI a) (nI (p1 + 1)) (nI E) 0 5 aB aT se dn aG aO aN aD bv aY rn kd nu tv), (zaI aS cS 901 f1)]) [0, 1] rfl
            have hDc := hD.sub (ws' := [(zo14irriiiiiirriirrrrlriiii m0 th aS aI im (nI a) (nI (p1 + 1)) (nI E) 0 5 aB aT se dn aG aO aN aD bv aY rn kd nu tv), (zaI aS cS 901 f1)]) [0, 1] (by decide) rfl
            have hKc := hK.sub (tys' := [(cS, .int)]) [0] rfl
            have hFc := va_free (wc := [(zo14irriiiiiirriirrrrlriiii m0 th aS aI im (nI a) (nI (p1 + 1)) (nI E) 0 5 aB aT se dn aG aO aN aD bv aY rn kd nu tv), (zaI aS cS 901 f1)]) hD hS hA [0, 1] rfl
            refine va_callv (va_runV (As := []) (rest := []) ⟨hx, hb, hml, hown, hts⟩ (c_every5 l dC dI sK sV m0 aS aI aB aT aG aO aN aD aY th im (nI a) (nI (p1 + 1)) (nI E) 0 5 se dn rn kd nu tv bv cS f1 a (p1 + 1) E (K ++ L1) (d + 1) ss H.size ((hI).mono (by omega) (by omega)) ((TP_PF gT gE (hF)))) (cwV 0 hts gX12_some_X12_every rfl rfl rfl hd_yX12_every ⟨Nat.le_of_ble_eq_true rfl, Nat.le_of_ble_eq_true rfl⟩) ⟨fun a U g mk q => by obtain ⟨q0, q1, qP, qK, qD, qhE⟩ := q; exact ⟨q0, q1, qP, va_K.moved (u := U) (U := U.calling g mk a) (Vm.Alike.refl U.vm) qK, qD, qhE.same rfl rfl⟩, va_recv hK hP (ci := 14) (q := (RX12, TX12, 23)) (q0 := 0) rfl rfl, fun U hU hW => ⟨rfl, by rw [hU], by rw [hU]; exact hPc, va_K.moved hW.alike hKc, hDc.weaken (fun _ _ _ _ => trivial), hE.call hS hU hW (fun q h => hFc q h)⟩⟩ rfl rfl hl.1 rfl (lv_room (Nat.le_of_ble_eq_true rfl)) dX12_some_31 ⟨Nat.le_of_ble_eq_true rfl, Nat.le_of_ble_eq_true rfl⟩) hS (fun q _ h => hFc q h) hFc (fun u tC H1 locs htC hvm hw_21 hB hz1 hk1 hS => ?_)
            obtain ⟨fS9_22, sp9_23, wg9_24⟩ := u
            try dsimp only at hw_21 hB
            obtain ⟨hP1, hK1, hD1⟩ := hB
            rw [htC] at hP1
            have hK1 := va_K.moved hvm.symm hK1
            obtain ⟨hP, hD⟩ := va_join (wr := []) (w1 := [(zo14irriiiiiirriirrrrlriiii m0 th aS aI im (nI a) sp9_23 (nI E) wg9_24 5 aB aT se dn aG aO aN aD bv aY rn kd nu tv), (zaI aS cS 901 fS9_22)]) hP hD [0, 1] [] rfl rfl (by decide) (by decide) hk1 hFc hP1 hD1
            have hK := (hK.sub (tys' := []) [] rfl).app hK1
            generalize H1 = H at hP hS ⊢
            have hP : va_P (dC, dI) vwCl [(zo14irriiiiiirriirrrrlriiii m0 th aS aI im (nI a) sp9_23 (nI E) wg9_24 5 aB aT se dn aG aO aN aD bv aY rn kd nu tv), (zaI aS cS 901 fS9_22)] H := hP
            have hD : va_D A [(zo14irriiiiiirriirrrrlriiii m0 th aS aI im (nI a) sp9_23 (nI E) wg9_24 5 aB aT se dn aG aO aN aD bv aY rn kd nu tv), (zaI aS cS 901 fS9_22)] := hD
            have hK : va_K (dC, dI) vwCl [(cS, .int)] s := hK
            obtain ⟨p_25, rfl, h_28, h_29, hF_30, q9⟩ := hw_21
            rcases q9 with ⟨rfl, eP_27⟩ | ⟨rfl, L_26, eP_27, h_31, hI_32, h_33⟩
            · skip
              refine lv_aload_n hx hb dX12_some_34 rfl (lv_at hl 0 rfl) ?_
              refine lv_bipush (v := (-3)) hx hb dX12_some_35 (by decide) ?_
              have hPc := hP.sub (ws' := [(zo14irriiiiiirriirrrrlriiii m0 th aS aI im (nI a) (nI p_25) (nI E) 1 5 aB aT se dn aG aO aN aD bv aY rn kd nu tv)]) [0] rfl
              have hKc := hK.sub (tys' := []) [] rfl
              refine va_csv (va_runV (As := [.int (-3)]) (rest := []) ⟨hx, hb, hml, hown, hts⟩ (c_emitsW l dC dI m0 aS aI aB aT aG aO aN aD aY th im (nI a) (nI p_25) (nI E) 1 5 se dn rn kd nu tv bv (-3)) (cwV 1 hts gX12_some_X12_emits rfl rfl rfl hd_yX12_emits ⟨Nat.le_of_ble_eq_true rfl, Nat.le_of_ble_eq_true rfl⟩) ⟨fun a U g mk q => by obtain ⟨q0, qP, qK⟩ := q; exact ⟨q0, qP, va_K.moved (u := U) (U := U.calling g mk a) (Vm.Alike.refl U.vm) qK⟩, va_recv hK hP (ci := 14) (q := (RX12, TX12, 23)) (q0 := 0) rfl rfl, fun U hU hW => ⟨rfl, by rw [hU]; exact hPc, va_K.moved hW.alike hKc⟩⟩ rfl rfl hl.1 rfl (lv_room (Nat.le_of_ble_eq_true rfl)) dX12_some_37 ⟨Nat.le_of_ble_eq_true rfl, Nat.le_of_ble_eq_true rfl⟩).run (fun hw_35 => ?_)
              refine lv_goto (tgt := 4) hx hb dX12_some_40 (by decide) ?_
              exact ih4 (p_25) ([]) (0) (1) (fS9_22) (by omega) (by omega) ((hF).tr hF_30) (Or.inl ⟨rfl, hE9.trans (ps_bad hs9 eP_27)⟩) _ _ (hK.sub [0] rfl) (hP.sub [0, 1] rfl) (hD.sub [0, 1] (by decide) rfl) hS ls (lv_sub hl [0] rfl)
            · skip
              have k5 := hI_32.2.2.2.2.1
              have hqL_26 : ((K ++ L1) ++ L_26).length = (K ++ L1).length + L_26.length := List.length_append
              refine lv_aload_n hx hb dX12_some_34 rfl (lv_at hl 0 rfl) ?_
              refine lv_bipush (v := (-3)) hx hb dX12_some_35 (by decide) ?_
              have hPc := hP.sub (ws' := [(zo14irriiiiiirriirrrrlriiii m0 th aS aI im (nI a) (nI p_25) (nI E) 0 5 aB aT se dn aG aO aN aD bv aY rn kd nu tv), (zaI aS cS 901 fS9_22)]) [0, 1] rfl
              have hDc := hD.sub (ws' := [(zo14irriiiiiirriirrrrlriiii m0 th aS aI im (nI a) (nI p_25) (nI E) 0 5 aB aT se dn aG aO aN aD bv aY rn kd nu tv), (zaI aS cS 901 fS9_22)]) [0, 1] (by decide) rfl
              have hKc := hK.sub (tys' := [(cS, .int)]) [0] rfl
              have hFc := va_free (wc := [(zo14irriiiiiirriirrrrlriiii m0 th aS aI im (nI a) (nI p_25) (nI E) 0 5 aB aT se dn aG aO aN aD bv aY rn kd nu tv), (zaI aS cS 901 fS9_22)]) hD hS hA [0, 1] rfl
              refine va_callv (va_runV (As := [.int (-3)]) (rest := []) ⟨hx, hb, hml, hown, hts⟩ (c_emits l dC dI m0 aS aI aB aT aG aO aN aD aY th im (nI a) (nI p_25) (nI E) 0 5 se dn rn kd nu tv bv cS fS9_22 a ((K ++ L1) ++ L_26).length (-3) H.size (ga) ((hI_32).2.2.2.1) (by have := (hI_32).2.2.2.2.1; omega)) (cwV 1 hts gX12_some_X12_emits rfl rfl rfl hd_yX12_emits ⟨Nat.le_of_ble_eq_true rfl, Nat.le_of_ble_eq_true rfl⟩) ⟨fun a U g mk q => by obtain ⟨q0, q1, qP, qK, qD⟩ := q; exact ⟨q0, q1, qP, va_K.moved (u := U) (U := U.calling g mk a) (Vm.Alike.refl U.vm) qK, qD⟩, va_recv hK hP (ci := 14) (q := (RX12, TX12, 23)) (q0 := 0) rfl rfl, fun U hU hW => ⟨rfl, by rw [hU], by rw [hU]; exact hPc, va_K.moved hW.alike hKc, hDc.weaken (fun _ _ _ _ => trivial)⟩⟩ rfl rfl hl.1 rfl (lv_room (Nat.le_of_ble_eq_true rfl)) dX12_some_37 ⟨Nat.le_of_ble_eq_true rfl, Nat.le_of_ble_eq_true rfl⟩) hS (fun q _ h => hFc q h) hFc (fun u tC H1 locs htC hvm hw_37 hB hz1 hk1 hS => ?_)
              obtain ⟨fS9_38, rfl⟩ : ∃ z, z = u := ⟨_, rfl⟩
              try dsimp only at hw_37 hB
              obtain ⟨hP1, hK1, hD1⟩ := hB
              rw [htC] at hP1
              have hK1 := va_K.moved hvm.symm hK1
              obtain ⟨hP, hD⟩ := va_join (wr := []) (w1 := [(zo14irriiiiiirriirrrrlriiii m0 th aS aI im (nI a) (nI p_25) (nI E) 0 5 aB aT se dn aG aO aN aD bv aY rn kd nu tv), (zaI aS cS 901 fS9_38)]) hP hD [0, 1] [] rfl rfl (by decide) (by decide) hk1 hFc hP1 hD1
              have hK := (hK.sub (tys' := []) [] rfl).app hK1
              generalize H1 = H at hP hS ⊢
              have hP : va_P (dC, dI) vwCl [(zo14irriiiiiirriirrrrlriiii m0 th aS aI im (nI a) (nI p_25) (nI E) 0 5 aB aT se dn aG aO aN aD bv aY rn kd nu tv), (zaI aS cS 901 fS9_38)] H := hP
              have hD : va_D A [(zo14irriiiiiirriirrrrlriiii m0 th aS aI im (nI a) (nI p_25) (nI E) 0 5 aB aT se dn aG aO aN aD bv aY rn kd nu tv), (zaI aS cS 901 fS9_38)] := hD
              have hK : va_K (dC, dI) vwCl [(cS, .int)] s := hK
              obtain rfl : fS9_38 = emt fS9_22 a ((K ++ L1) ++ L_26).length (-3) := by rcases hw_37 with ⟨q, _⟩ | ⟨_, q⟩; exact absurd rfl q; exact q
              have hI_39 : PI (emt fS9_22 a ((K ++ L1) ++ L_26).length (-3)) a (((K ++ L1) ++ L_26) ++ [1803]) (((d + 1) + 1) - 1) p_25 E := PI.em (t := 1803) ((hI_32).mono (by omega) (by omega)) (by omega) (by omega) (stepd_either (by omega)) (by decide)
              have hF_40 : PF a fS (emt fS9_22 a ((K ++ L1) ++ L_26).length (-3)) := ((hF).tr hF_30).tr (PF_emt (k := ((K ++ L1) ++ L_26).length) (x := (-3)) ga (by have := (hI_32).2.2.2.2.1; omega))
              have hKhI_39 : (((K ++ L1) ++ L_26) ++ [1803]).length = ((K ++ L1) ++ L_26).length + 1 := by rw [List.length_append]; rfl
              refine lv_goto (tgt := 4) hx hb dX12_some_40 (by decide) ?_
              exact ih4 (p_25) (L1 ++ (L_26 ++ [1803])) (m2) (0) (emt fS9_22 a ((K ++ L1) ++ L_26).length (-3)) (by omega) (by omega) (hF_40) (Or.inr ⟨rfl, hE9.trans (ps_go hs9 eP_27), by omega, by omega, PI.as (PI.as hI_39), by simp only [List.length_append, List.length_cons, List.length_nil]; omega⟩) _ _ (hK.sub [0] rfl) (hP.sub [0, 1] rfl) (hD.sub [0, 1] (by decide) rfl) hS ls (lv_sub hl [0] rfl)
    exact L4 _ (p_6) ([]) (0) (1) (fS9_3) (Nat.lt_succ_self _) (by omega) ((PF.rf).tr hF_11) (Or.inl ⟨rfl, pSm_n eP_8⟩) _ _ (hK.sub [0] rfl) (hP.sub [0, 1] rfl) (hD.sub [0, 1] (by decide) rfl) hS ls (lv_sub hl [0] rfl)
  · skip
    have k5 := hI_13.2.2.2.2.1
    have hqL_7 : (K ++ L_7).length = K.length + L_7.length := List.length_append
    have L4 : ∀ (nF : Nat) (p1 : Nat) (L1 : List Nat) (m1 : Nat) (w1 : Int32) (f1 : Nat → Int32), E - p1 < nF → (p0 ≤ p1 ∧ p1 ≤ E) → (PF a fS f1) → ((w1 = 1 ∧ pSm ss (pFac ss 0) p0 = (none, p1)) ∨ (w1 = 0 ∧ pSm ss (pFac ss 0) p0 = pSep ss 124 1803 (pEv ss (pFac ss 0)) m1 (some L1, p1) ∧ 101 ≤ m1 + p1 ∧ p0 + 3 ≤ p1 ∧ PI f1 a (K ++ L1) (d + 1) p1 E ∧ L1.length + p0 ≤ p1)) → ∀ (H : Heap) (locs : List Loc), va_K (dC, dI) vwCl [(cS, .int)] s → va_P (dC, dI) vwCl [(zo14irriiiiiirriirrrrlriiii m0 th aS aI im (nI a) (nI p1) (nI E) w1 5 aB aT se dn aG aO aN aD bv aY rn kd nu tv), (zaI aS cS 901 f1)] H → va_D A [(zo14irriiiiiirriirrrrlriiii m0 th aS aI im (nI a) (nI p1) (nI E) w1 5 aB aT se dn aG aO aN aD bv aY rn kd nu tv), (zaI aS cS 901 f1)] → va_S A s.heap H locs → ∀ (ls : Array Slot), lv_has ls 1 [(0, .ref m0)] → W p l e ({ frames := 7, cells := 0, slots := 0, locals := 151 } : Room) s m args below meth c H locs 0 0 Q (F0 m 4 ls []) := by
      intro nF
      induction nF with
      | zero => intro p1 L1 m1 w1 f1 hm; exact absurd hm (Nat.not_lt_zero _)
      | succ nF ih4 =>
        intro p1 L1 m1 w1 f1 hm h1 hF hw1 H locs hK hP hD hS ls hl
        obtain ⟨h1a, h1b⟩ := h1
        rcases hw1 with ⟨rfl, hE9⟩ | ⟨rfl, hE9, hm9, h3, hI, h4⟩
        · skip
          refine lv_aload_n hx hb dX12_some_4 rfl (lv_at hl 0 rfl) ?_
          refine va_get (D := (dC, dI)) (ci := 14) (v := .int 1) (C := RX12) (T := TX12) (N := 23) hx hb hts kc_some5_0 hown hK hP 0 rfl rfl 7 (by decide) (hts (.fieldLink RX12 65 "MistHeapsModel" "isWrong" "Z") kc_some5_1) (fun _ h9 => h9) rfl dX12_some_5 ?_
          refine lv_if_ne (tgt := 43) hx hb dX12_some_8 (by decide) (fun _ => ?_) (fun c_41 => absurd c_41 (by decide))
          rw [hQ]
          have hP9 := hP.sub (ws' := [(zo14irriiiiiirriirrrrlriiii m0 th aS aI im (nI a) (nI p1) (nI E) 1 5 aB aT se dn aG aO aN aD bv aY rn kd nu tv), (zaI aS cS 901 f1)]) [0, 1] rfl
          have hD9 := hD.sub (ws' := [(zo14irriiiiiirriirrrrlriiii m0 th aS aI im (nI a) (nI p1) (nI E) 1 5 aB aT se dn aG aO aN aD bv aY rn kd nu tv), (zaI aS cS 901 f1)]) [0, 1] (by decide) rfl
          have hK9 := hK.sub (tys' := [(cS, .int)]) [0] rfl
          exact W.vret hx hb hr (fun tQ htQ hWQ => ⟨⟨(f1, (nI p1), 1), rfl, ⟨p1, rfl, by omega, by omega, hF, Or.inl ⟨rfl, hE9⟩⟩, by rw [htQ]; exact hP9, va_K.moved hWQ.alike hK9, hD9⟩, hS.F htQ⟩) hS.2.2 dX12_some_43
        · skip
          have k5 := hI.2.2.2.2.1
          have hq1 : (K ++ L1).length = K.length + L1.length := List.length_append
          refine lv_aload_n hx hb dX12_some_4 rfl (lv_at hl 0 rfl) ?_
          refine va_get (D := (dC, dI)) (ci := 14) (v := .int 0) (C := RX12) (T := TX12) (N := 23) hx hb hts kc_some5_0 hown hK hP 0 rfl rfl 7 (by decide) (hts (.fieldLink RX12 65 "MistHeapsModel" "isWrong" "Z") kc_some5_1) (fun _ h9 => h9) rfl dX12_some_5 ?_
          refine lv_if_ne (tgt := 43) hx hb dX12_some_8 (by decide) (fun c_42 => absurd c_42 (by decide)) (fun _ => ?_)
          refine lv_aload_n hx hb dX12_some_11 rfl (lv_at hl 0 rfl) ?_
          have hPc := hP.sub (ws' := [(zo14irriiiiiirriirrrrlriiii m0 th aS aI im (nI a) (nI p1) (nI E) 0 5 aB aT se dn aG aO aN aD bv aY rn kd nu tv), (zaI aS cS 901 f1)]) [0, 1] rfl
          have hKc := hK.sub (tys' := [(cS, .int)]) [0] rfl
          refine vp_callSi (va_runV (As := []) (rest := []) ⟨hx, hb, hml, hown, hts⟩ (c_here l dC dI m0 aS aI aB aT aG aO aN aD aY th im (nI a) (nI p1) (nI E) 0 5 se dn rn kd nu tv bv cS f1 a p1 E (by omega) (by omega) (by omega)) (cwV 0 hts gX12_some_X12_here rfl rfl rfl hd_yX12_here ⟨Nat.le_of_ble_eq_true rfl, Nat.le_of_ble_eq_true rfl⟩) ⟨fun a U g mk q => by obtain ⟨q0, qP, qK⟩ := q; exact ⟨q0, qP, va_K.moved (u := U) (U := U.calling g mk a) (Vm.Alike.refl U.vm) qK⟩, va_recv hK hP (ci := 14) (q := (RX12, TX12, 23)) (q0 := 0) rfl rfl, fun U hU hW => ⟨rfl, by rw [hU]; exact hPc, va_K.moved hW.alike hKc⟩⟩ rfl rfl hl.1 rfl (lv_room (Nat.le_of_ble_eq_true rfl)) dX12_some_12 ⟨Nat.le_of_ble_eq_true rfl, Nat.le_of_ble_eq_true rfl⟩).run (fun r_43 hw_44 => ?_)
          refine lv_bipush (v := 124) hx hb dX12_some_15 (by decide) ?_
          refine lv_icmp_ne (tgt := 43) hx hb dX12_some_17 (by decide) (fun c_45 => ?_) (fun c_45 => ?_)
          · skip
            have hn9 : ¬ ss p1 = 124 := fun z => c_45 (by rw [hw_44]; exact ((TP_PF gT gE hF).eq (c := 124) (by omega) (by omega)).mpr z)
            rw [hQ]
            have hP9 := hP.sub (ws' := [(zo14irriiiiiirriirrrrlriiii m0 th aS aI im (nI a) (nI p1) (nI E) 0 5 aB aT se dn aG aO aN aD bv aY rn kd nu tv), (zaI aS cS 901 f1)]) [0, 1] rfl
            have hD9 := hD.sub (ws' := [(zo14irriiiiiirriirrrrlriiii m0 th aS aI im (nI a) (nI p1) (nI E) 0 5 aB aT se dn aG aO aN aD bv aY rn kd nu tv), (zaI aS cS 901 f1)]) [0, 1] (by decide) rfl
            have hK9 := hK.sub (tys' := [(cS, .int)]) [0] rfl
            exact W.vret hx hb hr (fun tQ htQ hWQ => ⟨⟨(f1, (nI p1), 0), rfl, ⟨p1, rfl, by omega, by omega, hF, Or.inr ⟨rfl, L1, hE9.trans (ps_end hn9), by omega, hI, by (try simp only [List.length_append, List.length_cons, List.length_nil]); omega⟩⟩, by rw [htQ]; exact hP9, va_K.moved hWQ.alike hK9, hD9⟩, hS.F htQ⟩) hS.2.2 dX12_some_43
          · skip
            have hs9 : ss p1 = 124 := ((TP_PF gT gE hF).eq (c := 124) (by omega) (by omega)).mp (by rw [← hw_44, c_45]; rfl)
            have hlt : p1 < E := Nat.lt_of_not_le (fun z => by have := gT.2.1 p1 z; omega)
            obtain ⟨m2, rfl⟩ : ∃ q : Nat, m1 = q + 1 := ⟨m1 - 1, by omega⟩
            refine lv_aload_n hx hb dX12_some_20 rfl (lv_at hl 0 rfl) ?_
            refine lv_dup hx hb dX12_some_21 rfl ?_
            refine va_get (D := (dC, dI)) (ci := 14) (v := .int (nI p1)) (C := RX12) (T := TX12) (N := 23) hx hb hts kc_some5_0 hown hK hP 0 rfl rfl 5 (by decide) (hts (.fieldLink RX12 59 "MistHeapsModel" "spot" "I") kc_some5_2) (fun _ h9 => h9) rfl dX12_some_22 ?_
            refine lv_iconst (v := 1) hx hb dX12_some_25 (by decide) ?_
            refine lv_iadd hx hb dX12_some_26 ?_
            refine qi_as (y := nI (p1 + 1)) (nI_add p1 1) ?_
            refine va_put (D := (dC, dI)) (ci := 14) (v := .int (nI (p1 + 1))) (ty := .int) (C := RX12) (T := TX12) (N := 23) hx hb hts kc_some5_0 tyX12 tyX12_ok nmX12 hown hK hP hD hS 0 rfl rfl 5 (by decide) (hts (.fieldLink RX12 59 "MistHeapsModel" "spot" "I") kc_some5_2) (fun _ h9 => h9) rfl (by decide +kernel) rfl rfl (Nat.le_of_ble_eq_true rfl) dX12_some_27 (fun H locs hP hD hS => ?_)
            have hP : va_P (dC, dI) vwCl [(zo14irriiiiiirriirrrrlriiii m0 th aS aI im (nI a) (nI (p1 + 1)) (nI E) 0 5 aB aT se dn aG aO aN aD bv aY rn kd nu tv), (zaI aS cS 901 f1)] H := hP
            have hD : va_D A [(zo14irriiiiiirriirrrrlriiii m0 th aS aI im (nI a) (nI (p1 + 1)) (nI E) 0 5 aB aT se dn aG aO aN aD bv aY rn kd nu tv), (zaI aS cS 901 f1)] := hD
            refine lv_aload_n hx hb dX12_some_30 rfl (lv_at hl 0 rfl) ?_
            have hPc := hP.sub (ws' := [(zo14irriiiiiirriirrrrlriiii m0 th aS aI im (nI a) (nI (p1 + 1)) (nI E) 0 5 aB aT se dn aG aO aN aD bv aY rn kd nu tv), (zaI aS cS 901 f1)]) [0, 1] rfl
            have hDc := hD.sub (ws' := [(zo14irriiiiiirriirrrrlriiii m0 th aS aI im (nI a) (nI (p1 + 1)) (nI E) 0 5 aB aT se dn aG aO aN aD bv aY rn kd nu tv), (zaI aS cS 901 f1)]) [0, 1] (by decide) rfl
            have hKc := hK.sub (tys' := [(cS, .int)]) [0] rfl
            have hFc := va_free (wc := [(zo14irriiiiiirriirrrrlriiii m0 th aS aI im (nI a) (nI (p1 + 1)) (nI E) 0 5 aB aT se dn aG aO aN aD bv aY rn kd nu tv), (zaI aS cS 901 f1)]) hD hS hA [0, 1] rfl
            refine va_callv (va_runV (As := []) (rest := []) ⟨hx, hb, hml, hown, hts⟩ (c_every5 l dC dI sK sV m0 aS aI aB aT aG aO aN aD aY th im (nI a) (nI (p1 + 1)) (nI E) 0 5 se dn rn kd nu tv bv cS f1 a (p1 + 1) E (K ++ L1) (d + 1) ss H.size ((hI).mono (by omega) (by omega)) ((TP_PF gT gE (hF)))) (cwV 0 hts gX12_some_X12_every rfl rfl rfl hd_yX12_every ⟨Nat.le_of_ble_eq_true rfl, Nat.le_of_ble_eq_true rfl⟩) ⟨fun a U g mk q => by obtain ⟨q0, q1, qP, qK, qD, qhE⟩ := q; exact ⟨q0, q1, qP, va_K.moved (u := U) (U := U.calling g mk a) (Vm.Alike.refl U.vm) qK, qD, qhE.same rfl rfl⟩, va_recv hK hP (ci := 14) (q := (RX12, TX12, 23)) (q0 := 0) rfl rfl, fun U hU hW => ⟨rfl, by rw [hU], by rw [hU]; exact hPc, va_K.moved hW.alike hKc, hDc.weaken (fun _ _ _ _ => trivial), hE.call hS hU hW (fun q h => hFc q h)⟩⟩ rfl rfl hl.1 rfl (lv_room (Nat.le_of_ble_eq_true rfl)) dX12_some_31 ⟨Nat.le_of_ble_eq_true rfl, Nat.le_of_ble_eq_true rfl⟩) hS (fun q _ h => hFc q h) hFc (fun u tC H1 locs htC hvm hw_47 hB hz1 hk1 hS => ?_)
            obtain ⟨fS9_48, sp9_49, wg9_50⟩ := u
            try dsimp only at hw_47 hB
            obtain ⟨hP1, hK1, hD1⟩ := hB
            rw [htC] at hP1
            have hK1 := va_K.moved hvm.symm hK1
            obtain ⟨hP, hD⟩ := va_join (wr := []) (w1 := [(zo14irriiiiiirriirrrrlriiii m0 th aS aI im (nI a) sp9_49 (nI E) wg9_50 5 aB aT se dn aG aO aN aD bv aY rn kd nu tv), (zaI aS cS 901 fS9_48)]) hP hD [0, 1] [] rfl rfl (by decide) (by decide) hk1 hFc hP1 hD1
            have hK := (hK.sub (tys' := []) [] rfl).app hK1
            generalize H1 = H at hP hS ⊢
            have hP : va_P (dC, dI) vwCl [(zo14irriiiiiirriirrrrlriiii m0 th aS aI im (nI a) sp9_49 (nI E) wg9_50 5 aB aT se dn aG aO aN aD bv aY rn kd nu tv), (zaI aS cS 901 fS9_48)] H := hP
            have hD : va_D A [(zo14irriiiiiirriirrrrlriiii m0 th aS aI im (nI a) sp9_49 (nI E) wg9_50 5 aB aT se dn aG aO aN aD bv aY rn kd nu tv), (zaI aS cS 901 fS9_48)] := hD
            have hK : va_K (dC, dI) vwCl [(cS, .int)] s := hK
            obtain ⟨p_51, rfl, h_54, h_55, hF_56, q9⟩ := hw_47
            rcases q9 with ⟨rfl, eP_53⟩ | ⟨rfl, L_52, eP_53, h_57, hI_58, h_59⟩
            · skip
              refine lv_aload_n hx hb dX12_some_34 rfl (lv_at hl 0 rfl) ?_
              refine lv_bipush (v := (-3)) hx hb dX12_some_35 (by decide) ?_
              have hPc := hP.sub (ws' := [(zo14irriiiiiirriirrrrlriiii m0 th aS aI im (nI a) (nI p_51) (nI E) 1 5 aB aT se dn aG aO aN aD bv aY rn kd nu tv)]) [0] rfl
              have hKc := hK.sub (tys' := []) [] rfl
              refine va_csv (va_runV (As := [.int (-3)]) (rest := []) ⟨hx, hb, hml, hown, hts⟩ (c_emitsW l dC dI m0 aS aI aB aT aG aO aN aD aY th im (nI a) (nI p_51) (nI E) 1 5 se dn rn kd nu tv bv (-3)) (cwV 1 hts gX12_some_X12_emits rfl rfl rfl hd_yX12_emits ⟨Nat.le_of_ble_eq_true rfl, Nat.le_of_ble_eq_true rfl⟩) ⟨fun a U g mk q => by obtain ⟨q0, qP, qK⟩ := q; exact ⟨q0, qP, va_K.moved (u := U) (U := U.calling g mk a) (Vm.Alike.refl U.vm) qK⟩, va_recv hK hP (ci := 14) (q := (RX12, TX12, 23)) (q0 := 0) rfl rfl, fun U hU hW => ⟨rfl, by rw [hU]; exact hPc, va_K.moved hW.alike hKc⟩⟩ rfl rfl hl.1 rfl (lv_room (Nat.le_of_ble_eq_true rfl)) dX12_some_37 ⟨Nat.le_of_ble_eq_true rfl, Nat.le_of_ble_eq_true rfl⟩).run (fun hw_61 => ?_)
              refine lv_goto (tgt := 4) hx hb dX12_some_40 (by decide) ?_
              exact ih4 (p_51) ([]) (0) (1) (fS9_48) (by omega) (by omega) ((hF).tr hF_56) (Or.inl ⟨rfl, hE9.trans (ps_bad hs9 eP_53)⟩) _ _ (hK.sub [0] rfl) (hP.sub [0, 1] rfl) (hD.sub [0, 1] (by decide) rfl) hS ls (lv_sub hl [0] rfl)
            · skip
              have k5 := hI_58.2.2.2.2.1
              have hqL_52 : ((K ++ L1) ++ L_52).length = (K ++ L1).length + L_52.length := List.length_append
              refine lv_aload_n hx hb dX12_some_34 rfl (lv_at hl 0 rfl) ?_
              refine lv_bipush (v := (-3)) hx hb dX12_some_35 (by decide) ?_
              have hPc := hP.sub (ws' := [(zo14irriiiiiirriirrrrlriiii m0 th aS aI im (nI a) (nI p_51) (nI E) 0 5 aB aT se dn aG aO aN aD bv aY rn kd nu tv), (zaI aS cS 901 fS9_48)]) [0, 1] rfl
              have hDc := hD.sub (ws' := [(zo14irriiiiiirriirrrrlriiii m0 th aS aI im (nI a) (nI p_51) (nI E) 0 5 aB aT se dn aG aO aN aD bv aY rn kd nu tv), (zaI aS cS 901 fS9_48)]) [0, 1] (by decide) rfl
              have hKc := hK.sub (tys' := [(cS, .int)]) [0] rfl
              have hFc := va_free (wc := [(zo14irriiiiiirriirrrrlriiii m0 th aS aI im (nI a) (nI p_51) (nI E) 0 5 aB aT se dn aG aO aN aD bv aY rn kd nu tv), (zaI aS cS 901 fS9_48)]) hD hS hA [0, 1] rfl
              refine va_callv (va_runV (As := [.int (-3)]) (rest := []) ⟨hx, hb, hml, hown, hts⟩ (c_emits l dC dI m0 aS aI aB aT aG aO aN aD aY th im (nI a) (nI p_51) (nI E) 0 5 se dn rn kd nu tv bv cS fS9_48 a ((K ++ L1) ++ L_52).length (-3) H.size (ga) ((hI_58).2.2.2.1) (by have := (hI_58).2.2.2.2.1; omega)) (cwV 1 hts gX12_some_X12_emits rfl rfl rfl hd_yX12_emits ⟨Nat.le_of_ble_eq_true rfl, Nat.le_of_ble_eq_true rfl⟩) ⟨fun a U g mk q => by obtain ⟨q0, q1, qP, qK, qD⟩ := q; exact ⟨q0, q1, qP, va_K.moved (u := U) (U := U.calling g mk a) (Vm.Alike.refl U.vm) qK, qD⟩, va_recv hK hP (ci := 14) (q := (RX12, TX12, 23)) (q0 := 0) rfl rfl, fun U hU hW => ⟨rfl, by rw [hU], by rw [hU]; exact hPc, va_K.moved hW.alike hKc, hDc.weaken (fun _ _ _ _ => trivial)⟩⟩ rfl rfl hl.1 rfl (lv_room (Nat.le_of_ble_eq_true rfl)) dX12_some_37 ⟨Nat.le_of_ble_eq_true rfl, Nat.le_of_ble_eq_true rfl⟩) hS (fun q _ h => hFc q h) hFc (fun u tC H1 locs htC hvm hw_63 hB hz1 hk1 hS => ?_)
              obtain ⟨fS9_64, rfl⟩ : ∃ z, z = u := ⟨_, rfl⟩
              try dsimp only at hw_63 hB
              obtain ⟨hP1, hK1, hD1⟩ := hB
              rw [htC] at hP1
              have hK1 := va_K.moved hvm.symm hK1
              obtain ⟨hP, hD⟩ := va_join (wr := []) (w1 := [(zo14irriiiiiirriirrrrlriiii m0 th aS aI im (nI a) (nI p_51) (nI E) 0 5 aB aT se dn aG aO aN aD bv aY rn kd nu tv), (zaI aS cS 901 fS9_64)]) hP hD [0, 1] [] rfl rfl (by decide) (by decide) hk1 hFc hP1 hD1
              have hK := (hK.sub (tys' := []) [] rfl).app hK1
              generalize H1 = H at hP hS ⊢
              have hP : va_P (dC, dI) vwCl [(zo14irriiiiiirriirrrrlriiii m0 th aS aI im (nI a) (nI p_51) (nI E) 0 5 aB aT se dn aG aO aN aD bv aY rn kd nu tv), (zaI aS cS 901 fS9_64)] H := hP
              have hD : va_D A [(zo14irriiiiiirriirrrrlriiii m0 th aS aI im (nI a) (nI p_51) (nI E) 0 5 aB aT se dn aG aO aN aD bv aY rn kd nu tv), (zaI aS cS 901 fS9_64)] := hD
              have hK : va_K (dC, dI) vwCl [(cS, .int)] s := hK
              obtain rfl : fS9_64 = emt fS9_48 a ((K ++ L1) ++ L_52).length (-3) := by rcases hw_63 with ⟨q, _⟩ | ⟨_, q⟩; exact absurd rfl q; exact q
              have hI_65 : PI (emt fS9_48 a ((K ++ L1) ++ L_52).length (-3)) a (((K ++ L1) ++ L_52) ++ [1803]) (((d + 1) + 1) - 1) p_51 E := PI.em (t := 1803) ((hI_58).mono (by omega) (by omega)) (by omega) (by omega) (stepd_either (by omega)) (by decide)
              have hF_66 : PF a fS (emt fS9_48 a ((K ++ L1) ++ L_52).length (-3)) := ((hF).tr hF_56).tr (PF_emt (k := ((K ++ L1) ++ L_52).length) (x := (-3)) ga (by have := (hI_58).2.2.2.2.1; omega))
              have hKhI_65 : (((K ++ L1) ++ L_52) ++ [1803]).length = ((K ++ L1) ++ L_52).length + 1 := by rw [List.length_append]; rfl
              refine lv_goto (tgt := 4) hx hb dX12_some_40 (by decide) ?_
              exact ih4 (p_51) (L1 ++ (L_52 ++ [1803])) (m2) (0) (emt fS9_48 a ((K ++ L1) ++ L_52).length (-3)) (by omega) (by omega) (hF_66) (Or.inr ⟨rfl, hE9.trans (ps_go hs9 eP_53), by omega, by omega, PI.as (PI.as hI_65), by simp only [List.length_append, List.length_cons, List.length_nil]; omega⟩) _ _ (hK.sub [0] rfl) (hP.sub [0, 1] rfl) (hD.sub [0, 1] (by decide) rfl) hS ls (lv_sub hl [0] rfl)
    exact L4 _ (p_6) (L_7) (101) (0) (fS9_3) (Nat.lt_succ_self _) (by omega) ((PF.rf).tr hF_11) (Or.inr ⟨rfl, pSm_s eP_8, by omega, by omega, hI_13, by omega⟩) _ _ (hK.sub [0] rfl) (hP.sub [0, 1] rfl) (hD.sub [0, 1] (by decide) rfl) hS ls (lv_sub hl [0] rfl)
