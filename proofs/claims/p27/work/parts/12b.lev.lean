section mg12b
theorem ggX12_factor_X12_here : GoodIn wsX12_factor wsX12_here := gga_of 1229 rfl rfl rfl
theorem gX12_factor_X12_here : GoodIn wsX12_factor (wsV RX12 69 RX12 yX12_here wsX12_here) := goodIn_app (ggh_of [1226, 1228, 22, 72] rfl rfl rfl) ggX12_factor_X12_here
theorem ggX12_factor_X12_factor : GoodIn wsX12_factor wsX12_factor := gga_of 1264 rfl rfl rfl
theorem gX12_factor_X12_factor : GoodIn wsX12_factor (wsV RX12 92 RX12 yX12_factor wsX12_factor) := goodIn_app (ggh_of [1261, 1263, 30, 72] rfl rfl rfl) ggX12_factor_X12_factor
theorem ggX12_factor_X12_emits : GoodIn wsX12_factor wsX12_emits := gga_of 1268 rfl rfl rfl
theorem gX12_factor_X12_emits : GoodIn wsX12_factor (wsV RX12 95 RX12 yX12_emits wsX12_emits) := goodIn_app (ggh_of [1265, 1267, 31, 72] rfl rfl rfl) ggX12_factor_X12_emits
theorem ggX12_factor_X12_among : GoodIn wsX12_factor wsX12_among := gga_of 1273 rfl rfl rfl
theorem gX12_factor_X12_among : GoodIn wsX12_factor (wsV RX12 103 RX12 yX12_among wsX12_among) := goodIn_app (ggh_of [1270, 1272, 32, 72] rfl rfl rfl) ggX12_factor_X12_among
theorem ggX12_factor_X12_figures : GoodIn wsX12_factor wsX12_figures := gga_of 1252 rfl rfl rfl
theorem gX12_factor_X12_figures : GoodIn wsX12_factor (wsV RX12 109 RX12 yX12_figures wsX12_figures) := goodIn_app (ggh_of [1249, 1251, 27, 72] rfl rfl rfl) ggX12_factor_X12_figures
theorem ggX12_factor_X12_some : GoodIn wsX12_factor wsX12_some := gga_of 1256 rfl rfl rfl
theorem gX12_factor_X12_some : GoodIn wsX12_factor (wsV RX12 98 RX12 yX12_some wsX12_some) := goodIn_app (ggh_of [1253, 1255, 28, 72] rfl rfl rfl) ggX12_factor_X12_some
theorem ggX12_factor_X12_must : GoodIn wsX12_factor wsX12_must := gga_of 1237 rfl rfl rfl
theorem gX12_factor_X12_must : GoodIn wsX12_factor (wsV RX12 82 RX12 yX12_must wsX12_must) := goodIn_app (ggh_of [1234, 1236, 24, 72] rfl rfl rfl) ggX12_factor_X12_must
theorem ggX12_every_X12_here : GoodIn wsX12_every wsX12_here := gga_of 1229 rfl rfl rfl
theorem gX12_every_X12_here : GoodIn wsX12_every (wsV RX12 69 RX12 yX12_here wsX12_here) := goodIn_app (ggh_of [1226, 1228, 22, 72] rfl rfl rfl) ggX12_every_X12_here
theorem ggX12_every_X12_emits : GoodIn wsX12_every wsX12_emits := gga_of 1268 rfl rfl rfl
theorem gX12_every_X12_emits : GoodIn wsX12_every (wsV RX12 95 RX12 yX12_emits wsX12_emits) := goodIn_app (ggh_of [1265, 1267, 31, 72] rfl rfl rfl) ggX12_every_X12_emits
theorem ggX12_some_X12_here : GoodIn wsX12_some wsX12_here := gga_of 1229 rfl rfl rfl
theorem gX12_some_X12_here : GoodIn wsX12_some (wsV RX12 69 RX12 yX12_here wsX12_here) := goodIn_app (ggh_of [1226, 1228, 22, 72] rfl rfl rfl) ggX12_some_X12_here
theorem ggX12_some_X12_emits : GoodIn wsX12_some wsX12_emits := gga_of 1268 rfl rfl rfl
theorem gX12_some_X12_emits : GoodIn wsX12_some (wsV RX12 95 RX12 yX12_emits wsX12_emits) := goodIn_app (ggh_of [1265, 1267, 31, 72] rfl rfl rfl) ggX12_some_X12_emits
noncomputable def dk12blev_cX12_factor_0 : List (Nat × Instr × Nat) := [(8, .aload_n 0, 1), (9, .invokevirtual 69, 3), (12, .istore_n 1, 1), (13, .iload_n 1, 1), (14, .bipush 33, 2), (16, .if_icmp .eq 9, 3), (25, .aload_n 0, 1), (26, .aload_n 0, 1), (27, .getfield 89, 3), (30, .iconst 5, 1), (31, .if_icmp .ne 7, 3), (34, .iconst 1, 1), (35, .goto 4, 3), (39, .putfield 65, 3), (42, .aload_n 0, 1), (43, .dup, 1), (44, .getfield 89, 3), (47, .iconst 1, 1), (48, .iadd, 1), (49, .putfield 89, 3), (52, .aload_n 0, 1), (53, .dup, 1), (54, .getfield 59, 3), (57, .aload_n 0, 1), (58, .getfield 65, 3), (61, .ifCond .eq 7, 3), (64, .iconst 0, 1), (65, .goto 4, 3), (69, .iadd, 1), (70, .putfield 59, 3), (73, .iload_n 1, 1), (74, .bipush 33, 2), (76, .if_icmp .ne 15, 3), (79, .aload_n 0, 1), (80, .invokevirtual 92, 3), (83, .aload_n 0, 1), (84, .iconst (-1), 1), (85, .invokevirtual 95, 3), (88, .goto 13, 3), (101, .aload_n 0, 1)]
set_option maxRecDepth 100000 in
theorem dk12blev_cX12_factor_0_a : dkA cX12_factor dk12blev_cX12_factor_0 = true := by decide +kernel
theorem dX12_factor_8 : decode cX12_factor 8 = .ok (.aload_n 0, 1) := dkAt dk12blev_cX12_factor_0_a 0 rfl
theorem dX12_factor_9 : decode cX12_factor 9 = .ok (.invokevirtual 69, 3) := dkAt dk12blev_cX12_factor_0_a 1 rfl
theorem dX12_factor_12 : decode cX12_factor 12 = .ok (.istore_n 1, 1) := dkAt dk12blev_cX12_factor_0_a 2 rfl
theorem dX12_factor_13 : decode cX12_factor 13 = .ok (.iload_n 1, 1) := dkAt dk12blev_cX12_factor_0_a 3 rfl
theorem dX12_factor_14 : decode cX12_factor 14 = .ok (.bipush 33, 2) := dkAt dk12blev_cX12_factor_0_a 4 rfl
theorem dX12_factor_16 : decode cX12_factor 16 = .ok (.if_icmp .eq 9, 3) := dkAt dk12blev_cX12_factor_0_a 5 rfl
theorem dX12_factor_25 : decode cX12_factor 25 = .ok (.aload_n 0, 1) := dkAt dk12blev_cX12_factor_0_a 6 rfl
theorem dX12_factor_26 : decode cX12_factor 26 = .ok (.aload_n 0, 1) := dkAt dk12blev_cX12_factor_0_a 7 rfl
theorem dX12_factor_27 : decode cX12_factor 27 = .ok (.getfield 89, 3) := dkAt dk12blev_cX12_factor_0_a 8 rfl
theorem dX12_factor_30 : decode cX12_factor 30 = .ok (.iconst 5, 1) := dkAt dk12blev_cX12_factor_0_a 9 rfl
theorem dX12_factor_31 : decode cX12_factor 31 = .ok (.if_icmp .ne 7, 3) := dkAt dk12blev_cX12_factor_0_a 10 rfl
theorem dX12_factor_34 : decode cX12_factor 34 = .ok (.iconst 1, 1) := dkAt dk12blev_cX12_factor_0_a 11 rfl
theorem dX12_factor_35 : decode cX12_factor 35 = .ok (.goto 4, 3) := dkAt dk12blev_cX12_factor_0_a 12 rfl
theorem dX12_factor_39 : decode cX12_factor 39 = .ok (.putfield 65, 3) := dkAt dk12blev_cX12_factor_0_a 13 rfl
theorem dX12_factor_42 : decode cX12_factor 42 = .ok (.aload_n 0, 1) := dkAt dk12blev_cX12_factor_0_a 14 rfl
theorem dX12_factor_43 : decode cX12_factor 43 = .ok (.dup, 1) := dkAt dk12blev_cX12_factor_0_a 15 rfl
theorem dX12_factor_44 : decode cX12_factor 44 = .ok (.getfield 89, 3) := dkAt dk12blev_cX12_factor_0_a 16 rfl
theorem dX12_factor_47 : decode cX12_factor 47 = .ok (.iconst 1, 1) := dkAt dk12blev_cX12_factor_0_a 17 rfl
theorem dX12_factor_48 : decode cX12_factor 48 = .ok (.iadd, 1) := dkAt dk12blev_cX12_factor_0_a 18 rfl
theorem dX12_factor_49 : decode cX12_factor 49 = .ok (.putfield 89, 3) := dkAt dk12blev_cX12_factor_0_a 19 rfl
theorem dX12_factor_52 : decode cX12_factor 52 = .ok (.aload_n 0, 1) := dkAt dk12blev_cX12_factor_0_a 20 rfl
theorem dX12_factor_53 : decode cX12_factor 53 = .ok (.dup, 1) := dkAt dk12blev_cX12_factor_0_a 21 rfl
theorem dX12_factor_54 : decode cX12_factor 54 = .ok (.getfield 59, 3) := dkAt dk12blev_cX12_factor_0_a 22 rfl
theorem dX12_factor_57 : decode cX12_factor 57 = .ok (.aload_n 0, 1) := dkAt dk12blev_cX12_factor_0_a 23 rfl
theorem dX12_factor_58 : decode cX12_factor 58 = .ok (.getfield 65, 3) := dkAt dk12blev_cX12_factor_0_a 24 rfl
theorem dX12_factor_61 : decode cX12_factor 61 = .ok (.ifCond .eq 7, 3) := dkAt dk12blev_cX12_factor_0_a 25 rfl
theorem dX12_factor_64 : decode cX12_factor 64 = .ok (.iconst 0, 1) := dkAt dk12blev_cX12_factor_0_a 26 rfl
theorem dX12_factor_65 : decode cX12_factor 65 = .ok (.goto 4, 3) := dkAt dk12blev_cX12_factor_0_a 27 rfl
theorem dX12_factor_69 : decode cX12_factor 69 = .ok (.iadd, 1) := dkAt dk12blev_cX12_factor_0_a 28 rfl
theorem dX12_factor_70 : decode cX12_factor 70 = .ok (.putfield 59, 3) := dkAt dk12blev_cX12_factor_0_a 29 rfl
theorem dX12_factor_73 : decode cX12_factor 73 = .ok (.iload_n 1, 1) := dkAt dk12blev_cX12_factor_0_a 30 rfl
theorem dX12_factor_74 : decode cX12_factor 74 = .ok (.bipush 33, 2) := dkAt dk12blev_cX12_factor_0_a 31 rfl
theorem dX12_factor_76 : decode cX12_factor 76 = .ok (.if_icmp .ne 15, 3) := dkAt dk12blev_cX12_factor_0_a 32 rfl
theorem dX12_factor_79 : decode cX12_factor 79 = .ok (.aload_n 0, 1) := dkAt dk12blev_cX12_factor_0_a 33 rfl
theorem dX12_factor_80 : decode cX12_factor 80 = .ok (.invokevirtual 92, 3) := dkAt dk12blev_cX12_factor_0_a 34 rfl
theorem dX12_factor_83 : decode cX12_factor 83 = .ok (.aload_n 0, 1) := dkAt dk12blev_cX12_factor_0_a 35 rfl
theorem dX12_factor_84 : decode cX12_factor 84 = .ok (.iconst (-1), 1) := dkAt dk12blev_cX12_factor_0_a 36 rfl
theorem dX12_factor_85 : decode cX12_factor 85 = .ok (.invokevirtual 95, 3) := dkAt dk12blev_cX12_factor_0_a 37 rfl
theorem dX12_factor_88 : decode cX12_factor 88 = .ok (.goto 13, 3) := dkAt dk12blev_cX12_factor_0_a 38 rfl
theorem dX12_factor_101 : decode cX12_factor 101 = .ok (.aload_n 0, 1) := dkAt dk12blev_cX12_factor_0_a 39 rfl
noncomputable def dk12blev_cX12_factor_40 : List (Nat × Instr × Nat) := [(102, .dup, 1), (103, .getfield 89, 3), (106, .iconst 1, 1), (107, .isub, 1), (108, .putfield 89, 3), (111, .return_, 1), (19, .iload_n 1, 1), (20, .bipush 40, 2), (22, .if_icmp .ne 90, 3), (112, .aload_n 0, 1), (113, .ldc 101, 2), (115, .invokevirtual 103, 3), (118, .istore_n 2, 1), (119, .aload_n 0, 1), (120, .iload_n 2, 1), (121, .iconst (-1), 1), (122, .if_icmp .ne 7, 3), (125, .iconst 1, 1), (126, .goto 4, 3), (130, .putfield 65, 3), (133, .aload_n 0, 1), (134, .getfield 65, 3), (137, .ifCond .eq 7, 3), (140, .iconst 0, 1), (141, .goto 9, 3), (150, .istore_n 3, 1), (151, .aload_n 0, 1), (152, .aload_n 0, 1), (153, .getfield 65, 3), (156, .ifCond .ne 8, 3), (164, .iconst 1, 1), (165, .goto 4, 3), (169, .putfield 65, 3), (172, .aload_n 0, 1), (173, .invokevirtual 109, 3), (176, .istore 4, 2), (178, .aload_n 0, 1), (179, .iload_n 2, 1), (180, .bipush 8, 2), (182, .iload_n 3, 1)]
set_option maxRecDepth 100000 in
theorem dk12blev_cX12_factor_40_a : dkA cX12_factor dk12blev_cX12_factor_40 = true := by decide +kernel
theorem dX12_factor_102 : decode cX12_factor 102 = .ok (.dup, 1) := dkAt dk12blev_cX12_factor_40_a 0 rfl
theorem dX12_factor_103 : decode cX12_factor 103 = .ok (.getfield 89, 3) := dkAt dk12blev_cX12_factor_40_a 1 rfl
theorem dX12_factor_106 : decode cX12_factor 106 = .ok (.iconst 1, 1) := dkAt dk12blev_cX12_factor_40_a 2 rfl
theorem dX12_factor_107 : decode cX12_factor 107 = .ok (.isub, 1) := dkAt dk12blev_cX12_factor_40_a 3 rfl
theorem dX12_factor_108 : decode cX12_factor 108 = .ok (.putfield 89, 3) := dkAt dk12blev_cX12_factor_40_a 4 rfl
theorem dX12_factor_111 : decode cX12_factor 111 = .ok (.return_, 1) := dkAt dk12blev_cX12_factor_40_a 5 rfl
theorem dX12_factor_19 : decode cX12_factor 19 = .ok (.iload_n 1, 1) := dkAt dk12blev_cX12_factor_40_a 6 rfl
theorem dX12_factor_20 : decode cX12_factor 20 = .ok (.bipush 40, 2) := dkAt dk12blev_cX12_factor_40_a 7 rfl
theorem dX12_factor_22 : decode cX12_factor 22 = .ok (.if_icmp .ne 90, 3) := dkAt dk12blev_cX12_factor_40_a 8 rfl
theorem dX12_factor_112 : decode cX12_factor 112 = .ok (.aload_n 0, 1) := dkAt dk12blev_cX12_factor_40_a 9 rfl
theorem dX12_factor_113 : decode cX12_factor 113 = .ok (.ldc 101, 2) := dkAt dk12blev_cX12_factor_40_a 10 rfl
theorem dX12_factor_115 : decode cX12_factor 115 = .ok (.invokevirtual 103, 3) := dkAt dk12blev_cX12_factor_40_a 11 rfl
theorem dX12_factor_118 : decode cX12_factor 118 = .ok (.istore_n 2, 1) := dkAt dk12blev_cX12_factor_40_a 12 rfl
theorem dX12_factor_119 : decode cX12_factor 119 = .ok (.aload_n 0, 1) := dkAt dk12blev_cX12_factor_40_a 13 rfl
theorem dX12_factor_120 : decode cX12_factor 120 = .ok (.iload_n 2, 1) := dkAt dk12blev_cX12_factor_40_a 14 rfl
theorem dX12_factor_121 : decode cX12_factor 121 = .ok (.iconst (-1), 1) := dkAt dk12blev_cX12_factor_40_a 15 rfl
theorem dX12_factor_122 : decode cX12_factor 122 = .ok (.if_icmp .ne 7, 3) := dkAt dk12blev_cX12_factor_40_a 16 rfl
theorem dX12_factor_125 : decode cX12_factor 125 = .ok (.iconst 1, 1) := dkAt dk12blev_cX12_factor_40_a 17 rfl
theorem dX12_factor_126 : decode cX12_factor 126 = .ok (.goto 4, 3) := dkAt dk12blev_cX12_factor_40_a 18 rfl
theorem dX12_factor_130 : decode cX12_factor 130 = .ok (.putfield 65, 3) := dkAt dk12blev_cX12_factor_40_a 19 rfl
theorem dX12_factor_133 : decode cX12_factor 133 = .ok (.aload_n 0, 1) := dkAt dk12blev_cX12_factor_40_a 20 rfl
theorem dX12_factor_134 : decode cX12_factor 134 = .ok (.getfield 65, 3) := dkAt dk12blev_cX12_factor_40_a 21 rfl
theorem dX12_factor_137 : decode cX12_factor 137 = .ok (.ifCond .eq 7, 3) := dkAt dk12blev_cX12_factor_40_a 22 rfl
theorem dX12_factor_140 : decode cX12_factor 140 = .ok (.iconst 0, 1) := dkAt dk12blev_cX12_factor_40_a 23 rfl
theorem dX12_factor_141 : decode cX12_factor 141 = .ok (.goto 9, 3) := dkAt dk12blev_cX12_factor_40_a 24 rfl
theorem dX12_factor_150 : decode cX12_factor 150 = .ok (.istore_n 3, 1) := dkAt dk12blev_cX12_factor_40_a 25 rfl
theorem dX12_factor_151 : decode cX12_factor 151 = .ok (.aload_n 0, 1) := dkAt dk12blev_cX12_factor_40_a 26 rfl
theorem dX12_factor_152 : decode cX12_factor 152 = .ok (.aload_n 0, 1) := dkAt dk12blev_cX12_factor_40_a 27 rfl
theorem dX12_factor_153 : decode cX12_factor 153 = .ok (.getfield 65, 3) := dkAt dk12blev_cX12_factor_40_a 28 rfl
theorem dX12_factor_156 : decode cX12_factor 156 = .ok (.ifCond .ne 8, 3) := dkAt dk12blev_cX12_factor_40_a 29 rfl
theorem dX12_factor_164 : decode cX12_factor 164 = .ok (.iconst 1, 1) := dkAt dk12blev_cX12_factor_40_a 30 rfl
theorem dX12_factor_165 : decode cX12_factor 165 = .ok (.goto 4, 3) := dkAt dk12blev_cX12_factor_40_a 31 rfl
theorem dX12_factor_169 : decode cX12_factor 169 = .ok (.putfield 65, 3) := dkAt dk12blev_cX12_factor_40_a 32 rfl
theorem dX12_factor_172 : decode cX12_factor 172 = .ok (.aload_n 0, 1) := dkAt dk12blev_cX12_factor_40_a 33 rfl
theorem dX12_factor_173 : decode cX12_factor 173 = .ok (.invokevirtual 109, 3) := dkAt dk12blev_cX12_factor_40_a 34 rfl
theorem dX12_factor_176 : decode cX12_factor 176 = .ok (.istore 4, 2) := dkAt dk12blev_cX12_factor_40_a 35 rfl
theorem dX12_factor_178 : decode cX12_factor 178 = .ok (.aload_n 0, 1) := dkAt dk12blev_cX12_factor_40_a 36 rfl
theorem dX12_factor_179 : decode cX12_factor 179 = .ok (.iload_n 2, 1) := dkAt dk12blev_cX12_factor_40_a 37 rfl
theorem dX12_factor_180 : decode cX12_factor 180 = .ok (.bipush 8, 2) := dkAt dk12blev_cX12_factor_40_a 38 rfl
theorem dX12_factor_182 : decode cX12_factor 182 = .ok (.iload_n 3, 1) := dkAt dk12blev_cX12_factor_40_a 39 rfl
noncomputable def dk12blev_cX12_factor_80 : List (Nat × Instr × Nat) := [(183, .imul, 1), (184, .iadd, 1), (185, .bipush 32, 2), (187, .iload 4, 2), (189, .imul, 1), (190, .iadd, 1), (191, .invokevirtual 95, 3), (194, .return_, 1), (129, .iconst 0, 1), (144, .aload_n 0, 1), (145, .ldc 107, 2), (147, .invokevirtual 103, 3), (159, .iload_n 3, 1), (160, .iconst (-1), 1), (161, .if_icmp .ne 7, 3), (168, .iconst 0, 1), (91, .aload_n 0, 1), (92, .invokevirtual 98, 3), (95, .aload_n 0, 1), (96, .bipush 41, 2), (98, .invokevirtual 82, 3)]
set_option maxRecDepth 100000 in
theorem dk12blev_cX12_factor_80_a : dkA cX12_factor dk12blev_cX12_factor_80 = true := by decide +kernel
theorem dX12_factor_183 : decode cX12_factor 183 = .ok (.imul, 1) := dkAt dk12blev_cX12_factor_80_a 0 rfl
theorem dX12_factor_184 : decode cX12_factor 184 = .ok (.iadd, 1) := dkAt dk12blev_cX12_factor_80_a 1 rfl
theorem dX12_factor_185 : decode cX12_factor 185 = .ok (.bipush 32, 2) := dkAt dk12blev_cX12_factor_80_a 2 rfl
theorem dX12_factor_187 : decode cX12_factor 187 = .ok (.iload 4, 2) := dkAt dk12blev_cX12_factor_80_a 3 rfl
theorem dX12_factor_189 : decode cX12_factor 189 = .ok (.imul, 1) := dkAt dk12blev_cX12_factor_80_a 4 rfl
theorem dX12_factor_190 : decode cX12_factor 190 = .ok (.iadd, 1) := dkAt dk12blev_cX12_factor_80_a 5 rfl
theorem dX12_factor_191 : decode cX12_factor 191 = .ok (.invokevirtual 95, 3) := dkAt dk12blev_cX12_factor_80_a 6 rfl
theorem dX12_factor_194 : decode cX12_factor 194 = .ok (.return_, 1) := dkAt dk12blev_cX12_factor_80_a 7 rfl
theorem dX12_factor_129 : decode cX12_factor 129 = .ok (.iconst 0, 1) := dkAt dk12blev_cX12_factor_80_a 8 rfl
theorem dX12_factor_144 : decode cX12_factor 144 = .ok (.aload_n 0, 1) := dkAt dk12blev_cX12_factor_80_a 9 rfl
theorem dX12_factor_145 : decode cX12_factor 145 = .ok (.ldc 107, 2) := dkAt dk12blev_cX12_factor_80_a 10 rfl
theorem dX12_factor_147 : decode cX12_factor 147 = .ok (.invokevirtual 103, 3) := dkAt dk12blev_cX12_factor_80_a 11 rfl
theorem dX12_factor_159 : decode cX12_factor 159 = .ok (.iload_n 3, 1) := dkAt dk12blev_cX12_factor_80_a 12 rfl
theorem dX12_factor_160 : decode cX12_factor 160 = .ok (.iconst (-1), 1) := dkAt dk12blev_cX12_factor_80_a 13 rfl
theorem dX12_factor_161 : decode cX12_factor 161 = .ok (.if_icmp .ne 7, 3) := dkAt dk12blev_cX12_factor_80_a 14 rfl
theorem dX12_factor_168 : decode cX12_factor 168 = .ok (.iconst 0, 1) := dkAt dk12blev_cX12_factor_80_a 15 rfl
theorem dX12_factor_91 : decode cX12_factor 91 = .ok (.aload_n 0, 1) := dkAt dk12blev_cX12_factor_80_a 16 rfl
theorem dX12_factor_92 : decode cX12_factor 92 = .ok (.invokevirtual 98, 3) := dkAt dk12blev_cX12_factor_80_a 17 rfl
theorem dX12_factor_95 : decode cX12_factor 95 = .ok (.aload_n 0, 1) := dkAt dk12blev_cX12_factor_80_a 18 rfl
theorem dX12_factor_96 : decode cX12_factor 96 = .ok (.bipush 41, 2) := dkAt dk12blev_cX12_factor_80_a 19 rfl
theorem dX12_factor_98 : decode cX12_factor 98 = .ok (.invokevirtual 82, 3) := dkAt dk12blev_cX12_factor_80_a 20 rfl
noncomputable def dk12blev_cX12_every_0 : List (Nat × Instr × Nat) := [(11, .aload_n 0, 1), (12, .invokevirtual 69, 3), (15, .bipush 38, 2), (17, .if_icmp .ne 26, 3), (20, .aload_n 0, 1), (21, .dup, 1), (22, .getfield 59, 3), (25, .iconst 1, 1), (26, .iadd, 1), (27, .putfield 59, 3), (30, .aload_n 0, 1), (31, .invokevirtual 92, 3), (34, .aload_n 0, 1), (35, .bipush (-2), 2), (37, .invokevirtual 95, 3), (40, .goto (-36), 3)]
set_option maxRecDepth 100000 in
theorem dk12blev_cX12_every_0_a : dkA cX12_every dk12blev_cX12_every_0 = true := by decide +kernel
theorem dX12_every_11 : decode cX12_every 11 = .ok (.aload_n 0, 1) := dkAt dk12blev_cX12_every_0_a 0 rfl
theorem dX12_every_12 : decode cX12_every 12 = .ok (.invokevirtual 69, 3) := dkAt dk12blev_cX12_every_0_a 1 rfl
theorem dX12_every_15 : decode cX12_every 15 = .ok (.bipush 38, 2) := dkAt dk12blev_cX12_every_0_a 2 rfl
theorem dX12_every_17 : decode cX12_every 17 = .ok (.if_icmp .ne 26, 3) := dkAt dk12blev_cX12_every_0_a 3 rfl
theorem dX12_every_20 : decode cX12_every 20 = .ok (.aload_n 0, 1) := dkAt dk12blev_cX12_every_0_a 4 rfl
theorem dX12_every_21 : decode cX12_every 21 = .ok (.dup, 1) := dkAt dk12blev_cX12_every_0_a 5 rfl
theorem dX12_every_22 : decode cX12_every 22 = .ok (.getfield 59, 3) := dkAt dk12blev_cX12_every_0_a 6 rfl
theorem dX12_every_25 : decode cX12_every 25 = .ok (.iconst 1, 1) := dkAt dk12blev_cX12_every_0_a 7 rfl
theorem dX12_every_26 : decode cX12_every 26 = .ok (.iadd, 1) := dkAt dk12blev_cX12_every_0_a 8 rfl
theorem dX12_every_27 : decode cX12_every 27 = .ok (.putfield 59, 3) := dkAt dk12blev_cX12_every_0_a 9 rfl
theorem dX12_every_30 : decode cX12_every 30 = .ok (.aload_n 0, 1) := dkAt dk12blev_cX12_every_0_a 10 rfl
theorem dX12_every_31 : decode cX12_every 31 = .ok (.invokevirtual 92, 3) := dkAt dk12blev_cX12_every_0_a 11 rfl
theorem dX12_every_34 : decode cX12_every 34 = .ok (.aload_n 0, 1) := dkAt dk12blev_cX12_every_0_a 12 rfl
theorem dX12_every_35 : decode cX12_every 35 = .ok (.bipush (-2), 2) := dkAt dk12blev_cX12_every_0_a 13 rfl
theorem dX12_every_37 : decode cX12_every 37 = .ok (.invokevirtual 95, 3) := dkAt dk12blev_cX12_every_0_a 14 rfl
theorem dX12_every_40 : decode cX12_every 40 = .ok (.goto (-36), 3) := dkAt dk12blev_cX12_every_0_a 15 rfl
noncomputable def dk12blev_cX12_some_0 : List (Nat × Instr × Nat) := [(11, .aload_n 0, 1), (12, .invokevirtual 69, 3), (15, .bipush 124, 2), (17, .if_icmp .ne 26, 3), (20, .aload_n 0, 1), (21, .dup, 1), (22, .getfield 59, 3), (25, .iconst 1, 1), (26, .iadd, 1), (27, .putfield 59, 3), (30, .aload_n 0, 1), (31, .invokevirtual 112, 3), (34, .aload_n 0, 1), (35, .bipush (-3), 2), (37, .invokevirtual 95, 3), (40, .goto (-36), 3)]
set_option maxRecDepth 100000 in
theorem dk12blev_cX12_some_0_a : dkA cX12_some dk12blev_cX12_some_0 = true := by decide +kernel
theorem dX12_some_11 : decode cX12_some 11 = .ok (.aload_n 0, 1) := dkAt dk12blev_cX12_some_0_a 0 rfl
theorem dX12_some_12 : decode cX12_some 12 = .ok (.invokevirtual 69, 3) := dkAt dk12blev_cX12_some_0_a 1 rfl
theorem dX12_some_15 : decode cX12_some 15 = .ok (.bipush 124, 2) := dkAt dk12blev_cX12_some_0_a 2 rfl
theorem dX12_some_17 : decode cX12_some 17 = .ok (.if_icmp .ne 26, 3) := dkAt dk12blev_cX12_some_0_a 3 rfl
theorem dX12_some_20 : decode cX12_some 20 = .ok (.aload_n 0, 1) := dkAt dk12blev_cX12_some_0_a 4 rfl
theorem dX12_some_21 : decode cX12_some 21 = .ok (.dup, 1) := dkAt dk12blev_cX12_some_0_a 5 rfl
theorem dX12_some_22 : decode cX12_some 22 = .ok (.getfield 59, 3) := dkAt dk12blev_cX12_some_0_a 6 rfl
theorem dX12_some_25 : decode cX12_some 25 = .ok (.iconst 1, 1) := dkAt dk12blev_cX12_some_0_a 7 rfl
theorem dX12_some_26 : decode cX12_some 26 = .ok (.iadd, 1) := dkAt dk12blev_cX12_some_0_a 8 rfl
theorem dX12_some_27 : decode cX12_some 27 = .ok (.putfield 59, 3) := dkAt dk12blev_cX12_some_0_a 9 rfl
theorem dX12_some_30 : decode cX12_some 30 = .ok (.aload_n 0, 1) := dkAt dk12blev_cX12_some_0_a 10 rfl
theorem dX12_some_31 : decode cX12_some 31 = .ok (.invokevirtual 112, 3) := dkAt dk12blev_cX12_some_0_a 11 rfl
theorem dX12_some_34 : decode cX12_some 34 = .ok (.aload_n 0, 1) := dkAt dk12blev_cX12_some_0_a 12 rfl
theorem dX12_some_35 : decode cX12_some 35 = .ok (.bipush (-3), 2) := dkAt dk12blev_cX12_some_0_a 13 rfl
theorem dX12_some_37 : decode cX12_some 37 = .ok (.invokevirtual 95, 3) := dkAt dk12blev_cX12_some_0_a 14 rfl
theorem dX12_some_40 : decode cX12_some 40 = .ok (.goto (-36), 3) := dkAt dk12blev_cX12_some_0_a 15 rfl
theorem kc_factor5_0 : ∀ w ∈ wsX120, w ∈ wsX12_factor := fun w h => List.mem_cons_of_mem _ (gin_wsX120 w h)
theorem kc_factor5_1 : (.fieldLink RX12 65 "MistHeapsModel" "isWrong" "Z" : Cond) ∈ wsX12_factor := kc_of 1147 rfl rfl rfl
theorem kc_factor5_2 : (.fieldLink RX12 89 "MistHeapsModel" "open" "I" : Cond) ∈ wsX12_factor := kc_of 1148 rfl rfl rfl
theorem kc_factor5_3 : (.fieldLink RX12 59 "MistHeapsModel" "spot" "I" : Cond) ∈ wsX12_factor := kc_of 1145 rfl rfl rfl
set_option maxHeartbeats 4000000 in
set_option maxRecDepth 100000 in
theorem c_factor5 (l : Launch) (dC : Nat → ClassId) (dI : Nat → Nat → Nat) (sK sV : Nat → Nat) (m0 aS aI aB aT aG aO aN aD aY : Nat) (th im ac sp en wg op se dn rn kd nu tv : Int32) (bv : Int64) (cS : ClassId) (fS : Nat → Int32) (a p0 E k d : Nat) (sz : Nat) (gI : PI fS a k d p0 E) : Met l yX12_factor wsX12_factor ({ frames := 5, cells := 0, slots := 0, locals := 107 } : Room) (va_Pc [.ref m0] (fun U => U.heap.size = sz ∧ va_P (dC, dI) vwCl [(zo14irriiiiiirriirrrrlriiii m0 th aS aI im (nI a) (nI p0) (nI E) 0 5 aB aT se dn aG aO aN aD bv aY rn kd nu tv), (zaI aS cS 901 fS)] U.heap ∧ va_K (dC, dI) vwCl [(cS, .int)] U ∧ va_D (fun _ => True) [(zo14irriiiiiirriirrrrlriiii m0 th aS aI im (nI a) (nI p0) (nI E) 0 5 aB aT se dn aG aO aN aD bv aY rn kd nu tv), (zaI aS cS 901 fS)] ∧ Gs sK sV (va_A [(zo14irriiiiiirriirrrrlriiii m0 th aS aI im (nI a) (nI p0) (nI E) 0 5 aB aT se dn aG aO aN aD bv aY rn kd nu tv), (zaI aS cS 901 fS)] sz) U)) (va_Qv (fun (u : (Nat → Int32) × (Int32) × (Int32)) => match u with | (fS9, sp9, wg9) => ∃ p9 k9 : Nat, sp9 = nI p9 ∧ p0 ≤ p9 ∧ p9 ≤ E ∧ PF a fS fS9 ∧ (wg9 = 1 ∨ (wg9 = 0 ∧ p0 + 3 ≤ p9 ∧ PI fS9 a k9 (d + 1) p9 E ∧ k9 + p0 ≤ k + p9))) (fun (u : (Nat → Int32) × (Int32) × (Int32)) (t : State) => match u with | (fS9, sp9, wg9) => va_P (dC, dI) vwCl [(zo14irriiiiiirriirrrrlriiii m0 th aS aI im (nI a) sp9 (nI E) wg9 5 aB aT se dn aG aO aN aD bv aY rn kd nu tv), (zaI aS cS 901 fS9)] t.heap ∧ va_K (dC, dI) vwCl [(cS, .int)] t ∧ va_D (va_A [(zo14irriiiiiirriirrrrlriiii m0 th aS aI im (nI a) (nI p0) (nI E) 0 5 aB aT se dn aG aO aN aD bv aY rn kd nu tv), (zaI aS cS 901 fS)] sz) [(zo14irriiiiiirriirrrrlriiii m0 th aS aI im (nI a) sp9 (nI E) wg9 5 aB aT se dn aG aO aN aD bv aY rn kd nu tv), (zaI aS cS 901 fS9)]) (va_A [(zo14irriiiiiirriirrrrlriiii m0 th aS aI im (nI a) (nI p0) (nI E) 0 5 aB aT se dn aG aO aN aD bv aY rn kd nu tv), (zaI aS cS 901 fS)] sz)) 0 0 (va_A [(zo14irriiiiiirriirrrrlriiii m0 th aS aI im (nI a) (nI p0) (nI E) 0 5 aB aT se dn aG aO aN aD bv aY rn kd nu tv), (zaI aS cS 901 fS)] sz) := by
  refine met_ofQ (cc := cX12_factor) (maxL := 5) (ret := none) (by decide) rfl ?_
  intro p e s m args below meth c s₁ Q B hml hv hQ
  obtain ⟨rfl, hsz, hP, hK, hD0, hE⟩ := hv
  have hx := B.exec
  have hb := B.bytes
  have hr := B.returns
  have hts := atoms_spec (ws := wsX12_factor) B.pre
  have hown : s.vm.findClass RX12 = some m.cls := findClass_of_methodNamed B.named
  have hlocks := B.notSynchronized
  subst hsz
  have hD := hD0.self (sz := s.heap.size)
  generalize hAe : va_A [(zo14irriiiiiirriirrrrlriiii m0 th aS aI im (nI a) (nI p0) (nI E) 0 5 aB aT se dn aG aO aN aD bv aY rn kd nu tv), (zaI aS cS 901 fS)] s.heap.size = A at hD hQ hE ⊢
  have hA : ∀ q : Nat, s.heap.size ≤ q → A q := fun q h => by rw [← hAe]; exact Or.inr h
  have hS : va_S A s.heap s.heap [] := va_S.rf
  have hl := lv_entry [.ref m0] (n := 5) (Nat.le_of_ble_eq_true rfl)
  rw [lg_entry_eq]
  generalize (lg_sl [.ref m0] ++ List.replicate (5 - (lg_sl [.ref m0]).length) Slot.unset).toArray = ls at hl ⊢
  generalize hag : ([.ref m0] : List Value).toArray = args at hts hQ ⊢
  have hl : lv_has ls 5 [(0, .ref m0)] := hl
  obtain ⟨H, hH⟩ : ∃ H : Heap, H = s.heap := ⟨_, rfl⟩
  rw [← hH] at hP
  rw [← hH]
  have hS : va_S A s.heap H [] := by rw [hH]; exact hS
  obtain ⟨locs, hlo⟩ : ∃ L : List Loc, L = [] := ⟨_, rfl⟩
  rw [← hlo] at hS
  rw [← hlo]
  clear hH hlo
  obtain ⟨ga, gp, gE, zk, gkp, gd, gs⟩ := id gI
  refine lv_aload_n hx hb dX12_factor_0 rfl (lv_at hl 0 rfl) ?_
  refine va_get (D := (dC, dI)) (ci := 14) (v := .int 0) (C := RX12) (T := TX12) (N := 23) hx hb hts kc_factor5_0 hown hK hP 0 rfl rfl 7 (by decide) (hts (.fieldLink RX12 65 "MistHeapsModel" "isWrong" "Z") kc_factor5_1) (fun _ h9 => h9) rfl dX12_factor_1 ?_
  refine lv_if_eq (tgt := 8) hx hb dX12_factor_4 (by decide) (fun _ => ?_) (fun c_1 => absurd c_1 (by decide))
  refine lv_aload_n hx hb dX12_factor_8 rfl (lv_at hl 0 rfl) ?_
  have hPc := hP.sub (ws' := [(zo14irriiiiiirriirrrrlriiii m0 th aS aI im (nI a) (nI p0) (nI E) 0 5 aB aT se dn aG aO aN aD bv aY rn kd nu tv), (zaI aS cS 901 fS)]) [0, 1] rfl
  have hKc := hK.sub (tys' := [(cS, .int)]) [0] rfl
  refine vp_callSi (va_runV (As := []) (rest := []) ⟨hx, hb, hml, hown, hts⟩ (c_here l dC dI m0 aS aI aB aT aG aO aN aD aY th im (nI a) (nI p0) (nI E) 0 5 se dn rn kd nu tv bv cS fS a p0 E (by omega) (by omega) (by omega)) (cwV 0 hts gX12_factor_X12_here rfl rfl rfl hd_yX12_here ⟨Nat.le_of_ble_eq_true rfl, Nat.le_of_ble_eq_true rfl⟩) ⟨fun a U g mk q => by obtain ⟨q0, qP, qK⟩ := q; exact ⟨q0, qP, va_K.moved (u := U) (U := U.calling g mk a) (Vm.Alike.refl U.vm) qK⟩, va_recv hK hP (ci := 14) (q := (RX12, TX12, 23)) (q0 := 0) rfl rfl, fun U hU hW => ⟨rfl, by rw [hU]; exact hPc, va_K.moved hW.alike hKc⟩⟩ rfl rfl hl.1 rfl (lv_room (Nat.le_of_ble_eq_true rfl)) dX12_factor_9 ⟨Nat.le_of_ble_eq_true rfl, Nat.le_of_ble_eq_true rfl⟩).run (fun r_2 hw_3 => ?_)
  refine lv_istore_n (lv' := [(1, .int r_2), (0, .ref m0)]) hx hb dX12_factor_12 rfl hl (by decide) rfl (fun ls hl => ?_)
  refine lv_iload_n hx hb dX12_factor_13 rfl (lv_at hl 0 rfl) ?_
  refine lv_bipush (v := 33) hx hb dX12_factor_14 (by decide) ?_
  refine lv_icmp_eq (tgt := 25) hx hb dX12_factor_16 (by decide) (fun c_4 => ?_) (fun c_4 => ?_)
  · skip
    subst c_4
    have hlt : p0 < E := hv_lt (f := fS) (by rw [← hw_3]; decide)
    refine lv_aload_n hx hb dX12_factor_25 rfl (lv_at hl 1 rfl) ?_
    refine lv_aload_n hx hb dX12_factor_26 rfl (lv_at hl 1 rfl) ?_
    refine va_get (D := (dC, dI)) (ci := 14) (v := .int 5) (C := RX12) (T := TX12) (N := 23) hx hb hts kc_factor5_0 hown hK hP 0 rfl rfl 8 (by decide) (hts (.fieldLink RX12 89 "MistHeapsModel" "open" "I") kc_factor5_2) (fun _ h9 => h9) rfl dX12_factor_27 ?_
    refine lv_iconst (v := 5) hx hb dX12_factor_30 (by decide) ?_
    refine lv_icmp_ne (tgt := 38) hx hb dX12_factor_31 (by decide) (fun c_5 => absurd c_5 (by decide)) (fun _ => ?_)
    refine lv_iconst (v := 1) hx hb dX12_factor_34 (by decide) ?_
    refine lv_goto (tgt := 39) hx hb dX12_factor_35 (by decide) ?_
    refine va_put (D := (dC, dI)) (ci := 14) (v := .int 1) (ty := .boolean) (C := RX12) (T := TX12) (N := 23) hx hb hts kc_factor5_0 tyX12 tyX12_ok nmX12 hown hK hP hD hS 0 rfl rfl 7 (by decide) (hts (.fieldLink RX12 65 "MistHeapsModel" "isWrong" "Z") kc_factor5_1) (fun _ h9 => h9) rfl (by decide +kernel) rfl rfl (Nat.le_of_ble_eq_true rfl) dX12_factor_39 (fun H locs hP hD hS => ?_)
    have hP : va_P (dC, dI) vwCl [(zo14irriiiiiirriirrrrlriiii m0 th aS aI im (nI a) (nI p0) (nI E) 1 5 aB aT se dn aG aO aN aD bv aY rn kd nu tv), (zaI aS cS 901 fS)] H := hP
    have hD : va_D A [(zo14irriiiiiirriirrrrlriiii m0 th aS aI im (nI a) (nI p0) (nI E) 1 5 aB aT se dn aG aO aN aD bv aY rn kd nu tv), (zaI aS cS 901 fS)] := hD
    refine lv_aload_n hx hb dX12_factor_42 rfl (lv_at hl 1 rfl) ?_
    refine lv_dup hx hb dX12_factor_43 rfl ?_
    refine va_get (D := (dC, dI)) (ci := 14) (v := .int 5) (C := RX12) (T := TX12) (N := 23) hx hb hts kc_factor5_0 hown hK hP 0 rfl rfl 8 (by decide) (hts (.fieldLink RX12 89 "MistHeapsModel" "open" "I") kc_factor5_2) (fun _ h9 => h9) rfl dX12_factor_44 ?_
    refine lv_iconst (v := 1) hx hb dX12_factor_47 (by decide) ?_
    refine lv_iadd hx hb dX12_factor_48 ?_
    refine qi_as (y := 6) (by decide) ?_
    refine va_put (D := (dC, dI)) (ci := 14) (v := .int 6) (ty := .int) (C := RX12) (T := TX12) (N := 23) hx hb hts kc_factor5_0 tyX12 tyX12_ok nmX12 hown hK hP hD hS 0 rfl rfl 8 (by decide) (hts (.fieldLink RX12 89 "MistHeapsModel" "open" "I") kc_factor5_2) (fun _ h9 => h9) rfl (by decide +kernel) rfl rfl (Nat.le_of_ble_eq_true rfl) dX12_factor_49 (fun H locs hP hD hS => ?_)
    have hP : va_P (dC, dI) vwCl [(zo14irriiiiiirriirrrrlriiii m0 th aS aI im (nI a) (nI p0) (nI E) 1 6 aB aT se dn aG aO aN aD bv aY rn kd nu tv), (zaI aS cS 901 fS)] H := hP
    have hD : va_D A [(zo14irriiiiiirriirrrrlriiii m0 th aS aI im (nI a) (nI p0) (nI E) 1 6 aB aT se dn aG aO aN aD bv aY rn kd nu tv), (zaI aS cS 901 fS)] := hD
    refine lv_aload_n hx hb dX12_factor_52 rfl (lv_at hl 1 rfl) ?_
    refine lv_dup hx hb dX12_factor_53 rfl ?_
    refine va_get (D := (dC, dI)) (ci := 14) (v := .int (nI p0)) (C := RX12) (T := TX12) (N := 23) hx hb hts kc_factor5_0 hown hK hP 0 rfl rfl 5 (by decide) (hts (.fieldLink RX12 59 "MistHeapsModel" "spot" "I") kc_factor5_3) (fun _ h9 => h9) rfl dX12_factor_54 ?_
    refine lv_aload_n hx hb dX12_factor_57 rfl (lv_at hl 1 rfl) ?_
    refine va_get (D := (dC, dI)) (ci := 14) (v := .int 1) (C := RX12) (T := TX12) (N := 23) hx hb hts kc_factor5_0 hown hK hP 0 rfl rfl 7 (by decide) (hts (.fieldLink RX12 65 "MistHeapsModel" "isWrong" "Z") kc_factor5_1) (fun _ h9 => h9) rfl dX12_factor_58 ?_
    refine lv_if_eq (tgt := 68) hx hb dX12_factor_61 (by decide) (fun c_6 => absurd c_6 (by decide)) (fun _ => ?_)
    refine lv_iconst (v := 0) hx hb dX12_factor_64 (by decide) ?_
    refine lv_goto (tgt := 69) hx hb dX12_factor_65 (by decide) ?_
    refine lv_iadd hx hb dX12_factor_69 ?_
    refine qi_as (y := nI (p0 + 0)) (nI_add p0 0) ?_
    refine va_put (D := (dC, dI)) (ci := 14) (v := .int (nI (p0 + 0))) (ty := .int) (C := RX12) (T := TX12) (N := 23) hx hb hts kc_factor5_0 tyX12 tyX12_ok nmX12 hown hK hP hD hS 0 rfl rfl 5 (by decide) (hts (.fieldLink RX12 59 "MistHeapsModel" "spot" "I") kc_factor5_3) (fun _ h9 => h9) rfl (by decide +kernel) rfl rfl (Nat.le_of_ble_eq_true rfl) dX12_factor_70 (fun H locs hP hD hS => ?_)
    have hP : va_P (dC, dI) vwCl [(zo14irriiiiiirriirrrrlriiii m0 th aS aI im (nI a) (nI (p0 + 0)) (nI E) 1 6 aB aT se dn aG aO aN aD bv aY rn kd nu tv), (zaI aS cS 901 fS)] H := hP
    have hD : va_D A [(zo14irriiiiiirriirrrrlriiii m0 th aS aI im (nI a) (nI (p0 + 0)) (nI E) 1 6 aB aT se dn aG aO aN aD bv aY rn kd nu tv), (zaI aS cS 901 fS)] := hD
    refine lv_iload_n hx hb dX12_factor_73 rfl (lv_at hl 0 rfl) ?_
    refine lv_bipush (v := 33) hx hb dX12_factor_74 (by decide) ?_
    refine lv_icmp_ne (tgt := 91) hx hb dX12_factor_76 (by decide) (fun c_7 => absurd c_7 (by decide)) (fun _ => ?_)
    refine lv_aload_n hx hb dX12_factor_79 rfl (lv_at hl 1 rfl) ?_
    have hPc := hP.sub (ws' := [(zo14irriiiiiirriirrrrlriiii m0 th aS aI im (nI a) (nI (p0 + 0)) (nI E) 1 6 aB aT se dn aG aO aN aD bv aY rn kd nu tv)]) [0] rfl
    have hKc := hK.sub (tys' := []) [] rfl
    refine va_csv (va_runV (As := []) (rest := []) ⟨hx, hb, hml, hown, hts⟩ (c_factorW l dC dI m0 aS aI aB aT aG aO aN aD aY th im (nI a) (nI (p0 + 0)) (nI E) 1 6 se dn rn kd nu tv bv) (cwV 0 hts gX12_factor_X12_factor rfl rfl rfl hd_yX12_factor ⟨Nat.le_of_ble_eq_true rfl, Nat.le_of_ble_eq_true rfl⟩) ⟨fun a U g mk q => by obtain ⟨q0, qP, qK⟩ := q; exact ⟨q0, qP, va_K.moved (u := U) (U := U.calling g mk a) (Vm.Alike.refl U.vm) qK⟩, va_recv hK hP (ci := 14) (q := (RX12, TX12, 23)) (q0 := 0) rfl rfl, fun U hU hW => ⟨rfl, by rw [hU]; exact hPc, va_K.moved hW.alike hKc⟩⟩ rfl rfl hl.1 rfl (lv_room (Nat.le_of_ble_eq_true rfl)) dX12_factor_80 ⟨Nat.le_of_ble_eq_true rfl, Nat.le_of_ble_eq_true rfl⟩).run (fun hw_9 => ?_)
    refine lv_aload_n hx hb dX12_factor_83 rfl (lv_at hl 1 rfl) ?_
    refine lv_iconst (v := (-1)) hx hb dX12_factor_84 (by decide) ?_
    have hPc := hP.sub (ws' := [(zo14irriiiiiirriirrrrlriiii m0 th aS aI im (nI a) (nI (p0 + 0)) (nI E) 1 6 aB aT se dn aG aO aN aD bv aY rn kd nu tv)]) [0] rfl
    have hKc := hK.sub (tys' := []) [] rfl
    refine va_csv (va_runV (As := [.int (-1)]) (rest := []) ⟨hx, hb, hml, hown, hts⟩ (c_emitsW l dC dI m0 aS aI aB aT aG aO aN aD aY th im (nI a) (nI (p0 + 0)) (nI E) 1 6 se dn rn kd nu tv bv (-1)) (cwV 1 hts gX12_factor_X12_emits rfl rfl rfl hd_yX12_emits ⟨Nat.le_of_ble_eq_true rfl, Nat.le_of_ble_eq_true rfl⟩) ⟨fun a U g mk q => by obtain ⟨q0, qP, qK⟩ := q; exact ⟨q0, qP, va_K.moved (u := U) (U := U.calling g mk a) (Vm.Alike.refl U.vm) qK⟩, va_recv hK hP (ci := 14) (q := (RX12, TX12, 23)) (q0 := 0) rfl rfl, fun U hU hW => ⟨rfl, by rw [hU]; exact hPc, va_K.moved hW.alike hKc⟩⟩ rfl rfl hl.1 rfl (lv_room (Nat.le_of_ble_eq_true rfl)) dX12_factor_85 ⟨Nat.le_of_ble_eq_true rfl, Nat.le_of_ble_eq_true rfl⟩).run (fun hw_11 => ?_)
    refine lv_goto (tgt := 101) hx hb dX12_factor_88 (by decide) ?_
    refine lv_aload_n hx hb dX12_factor_101 rfl (lv_at hl 1 rfl) ?_
    refine lv_dup hx hb dX12_factor_102 rfl ?_
    refine va_get (D := (dC, dI)) (ci := 14) (v := .int 6) (C := RX12) (T := TX12) (N := 23) hx hb hts kc_factor5_0 hown hK hP 0 rfl rfl 8 (by decide) (hts (.fieldLink RX12 89 "MistHeapsModel" "open" "I") kc_factor5_2) (fun _ h9 => h9) rfl dX12_factor_103 ?_
    refine lv_iconst (v := 1) hx hb dX12_factor_106 (by decide) ?_
    refine lv_isub hx hb dX12_factor_107 ?_
    refine qi_as (y := 5) (by decide) ?_
    refine va_put (D := (dC, dI)) (ci := 14) (v := .int 5) (ty := .int) (C := RX12) (T := TX12) (N := 23) hx hb hts kc_factor5_0 tyX12 tyX12_ok nmX12 hown hK hP hD hS 0 rfl rfl 8 (by decide) (hts (.fieldLink RX12 89 "MistHeapsModel" "open" "I") kc_factor5_2) (fun _ h9 => h9) rfl (by decide +kernel) rfl rfl (Nat.le_of_ble_eq_true rfl) dX12_factor_108 (fun H locs hP hD hS => ?_)
    have hP : va_P (dC, dI) vwCl [(zo14irriiiiiirriirrrrlriiii m0 th aS aI im (nI a) (nI (p0 + 0)) (nI E) 1 5 aB aT se dn aG aO aN aD bv aY rn kd nu tv), (zaI aS cS 901 fS)] H := hP
    have hD : va_D A [(zo14irriiiiiirriirrrrlriiii m0 th aS aI im (nI a) (nI (p0 + 0)) (nI E) 1 5 aB aT se dn aG aO aN aD bv aY rn kd nu tv), (zaI aS cS 901 fS)] := hD
    rw [hQ]
    have hP9 := hP.sub (ws' := [(zo14irriiiiiirriirrrrlriiii m0 th aS aI im (nI a) (nI (p0 + 0)) (nI E) 1 5 aB aT se dn aG aO aN aD bv aY rn kd nu tv), (zaI aS cS 901 fS)]) [0, 1] rfl
    have hD9 := hD.sub (ws' := [(zo14irriiiiiirriirrrrlriiii m0 th aS aI im (nI a) (nI (p0 + 0)) (nI E) 1 5 aB aT se dn aG aO aN aD bv aY rn kd nu tv), (zaI aS cS 901 fS)]) [0, 1] (by decide) rfl
    have hK9 := hK.sub (tys' := [(cS, .int)]) [0] rfl
    exact W.vret hx hb hr (fun tQ htQ hWQ => ⟨⟨(fS, (nI (p0 + 0)), 1), rfl, ⟨p0 + 0, k, rfl, by omega, by omega, PF.rf, Or.inl rfl⟩, by rw [htQ]; exact hP9, va_K.moved hWQ.alike hK9, hD9⟩, hS.F htQ⟩) hS.2.2 dX12_factor_111
  · skip
    refine lv_iload_n hx hb dX12_factor_19 rfl (lv_at hl 0 rfl) ?_
    refine lv_bipush (v := 40) hx hb dX12_factor_20 (by decide) ?_
    refine lv_icmp_ne (tgt := 112) hx hb dX12_factor_22 (by decide) (fun c_12 => ?_) (fun c_12 => ?_)
    · skip
      refine lv_aload_n hx hb dX12_factor_112 rfl (lv_at hl 1 rfl) ?_
      refine va_ldcS hx hb hown (show vk_R RX12 101 "hkrcms" (sK 6) s from hE.1 6 (by decide)) dX12_factor_113 ?_
      have hPc := hP.sub (ws' := [(zo14irriiiiiirriirrrrlriiii m0 th aS aI im (nI a) (nI p0) (nI E) 0 5 aB aT se dn aG aO aN aD bv aY rn kd nu tv), (zaI aS cS 901 fS)]) [0, 1] rfl
      have hDc := hD.sub (ws' := [(zo14irriiiiiirriirrrrlriiii m0 th aS aI im (nI a) (nI p0) (nI E) 0 5 aB aT se dn aG aO aN aD bv aY rn kd nu tv), (zaI aS cS 901 fS)]) [0, 1] (by decide) rfl
      have hKc := hK.sub (tys' := [(cS, .int)]) [0] rfl
      have hFc := va_free (wc := [(zo14irriiiiiirriirrrrlriiii m0 th aS aI im (nI a) (nI p0) (nI E) 0 5 aB aT se dn aG aO aN aD bv aY rn kd nu tv), (zaI aS cS 901 fS)]) hD hS hA [0, 1] rfl
      refine va_calli (va_runV (As := [.ref (sK 6)]) (rest := []) ⟨hx, hb, hml, hown, hts⟩ (c_among l dC dI sK sV m0 aS aI aB aT aG aO aN aD aY th im (nI a) (nI p0) (nI E) 0 5 se dn rn kd nu tv bv cS fS a p0 E 6 H.size (by omega) (by omega) (by omega) (by decide)) (cwV 1 hts gX12_factor_X12_among rfl rfl rfl hd_yX12_among ⟨Nat.le_of_ble_eq_true rfl, Nat.le_of_ble_eq_true rfl⟩) ⟨fun a U g mk q => by obtain ⟨q0, q1, qP, qK, qD, qhE⟩ := q; exact ⟨q0, q1, qP, va_K.moved (u := U) (U := U.calling g mk a) (Vm.Alike.refl U.vm) qK, qD, qhE.same rfl rfl⟩, va_recv hK hP (ci := 14) (q := (RX12, TX12, 23)) (q0 := 0) rfl rfl, fun U hU hW => ⟨rfl, by rw [hU], by rw [hU]; exact hPc, va_K.moved hW.alike hKc, hDc.weaken (fun _ _ _ _ => trivial), hE.call hS hU hW (fun q h => hFc q h)⟩⟩ rfl rfl hl.1 rfl (lv_room (Nat.le_of_ble_eq_true rfl)) dX12_factor_115 ⟨Nat.le_of_ble_eq_true rfl, Nat.le_of_ble_eq_true rfl⟩) hS (fun q _ h => hFc q h) hFc (fun r_13 u tC H1 locs htC hvm hw_14 hB hz1 hk1 hS => ?_)
      obtain ⟨sp9_15, rfl⟩ : ∃ z, z = u := ⟨_, rfl⟩
      try dsimp only at hw_14 hB
      obtain ⟨hP1, hK1, hD1⟩ := hB
      rw [htC] at hP1
      have hK1 := va_K.moved hvm.symm hK1
      obtain ⟨hP, hD⟩ := va_join (wr := []) (w1 := [(zo14irriiiiiirriirrrrlriiii m0 th aS aI im (nI a) sp9_15 (nI E) 0 5 aB aT se dn aG aO aN aD bv aY rn kd nu tv), (zaI aS cS 901 fS)]) hP hD [0, 1] [] rfl rfl (by decide) (by decide) hk1 hFc hP1 hD1
      have hK := (hK.sub (tys' := []) [] rfl).app hK1
      generalize H1 = H at hP hS ⊢
      have hP : va_P (dC, dI) vwCl [(zo14irriiiiiirriirrrrlriiii m0 th aS aI im (nI a) sp9_15 (nI E) 0 5 aB aT se dn aG aO aN aD bv aY rn kd nu tv), (zaI aS cS 901 fS)] H := hP
      have hD : va_D A [(zo14irriiiiiirriirrrrlriiii m0 th aS aI im (nI a) sp9_15 (nI E) 0 5 aB aT se dn aG aO aN aD bv aY rn kd nu tv), (zaI aS cS 901 fS)] := hD
      have hK : va_K (dC, dI) vwCl [(cS, .int)] s := hK
      rcases hw_14 with ⟨rfl, rfl⟩ | ⟨j_16, hj_17, rfl, h_18, rfl⟩
      · skip
        refine lv_istore_n (lv' := [(2, .int (-1)), (1, .int r_2), (0, .ref m0)]) hx hb dX12_factor_118 rfl hl (by decide) rfl (fun ls hl => ?_)
        refine lv_aload_n hx hb dX12_factor_119 rfl (lv_at hl 2 rfl) ?_
        refine lv_iload_n hx hb dX12_factor_120 rfl (lv_at hl 0 rfl) ?_
        refine lv_iconst (v := (-1)) hx hb dX12_factor_121 (by decide) ?_
        refine lv_icmp_ne (tgt := 129) hx hb dX12_factor_122 (by decide) (fun c_19 => absurd c_19 (by decide)) (fun _ => ?_)
        refine lv_iconst (v := 1) hx hb dX12_factor_125 (by decide) ?_
        refine lv_goto (tgt := 130) hx hb dX12_factor_126 (by decide) ?_
        refine va_put (D := (dC, dI)) (ci := 14) (v := .int 1) (ty := .boolean) (C := RX12) (T := TX12) (N := 23) hx hb hts kc_factor5_0 tyX12 tyX12_ok nmX12 hown hK hP hD hS 0 rfl rfl 7 (by decide) (hts (.fieldLink RX12 65 "MistHeapsModel" "isWrong" "Z") kc_factor5_1) (fun _ h9 => h9) rfl (by decide +kernel) rfl rfl (Nat.le_of_ble_eq_true rfl) dX12_factor_130 (fun H locs hP hD hS => ?_)
        have hP : va_P (dC, dI) vwCl [(zo14irriiiiiirriirrrrlriiii m0 th aS aI im (nI a) (nI p0) (nI E) 1 5 aB aT se dn aG aO aN aD bv aY rn kd nu tv), (zaI aS cS 901 fS)] H := hP
        have hD : va_D A [(zo14irriiiiiirriirrrrlriiii m0 th aS aI im (nI a) (nI p0) (nI E) 1 5 aB aT se dn aG aO aN aD bv aY rn kd nu tv), (zaI aS cS 901 fS)] := hD
        refine lv_aload_n hx hb dX12_factor_133 rfl (lv_at hl 2 rfl) ?_
        refine va_get (D := (dC, dI)) (ci := 14) (v := .int 1) (C := RX12) (T := TX12) (N := 23) hx hb hts kc_factor5_0 hown hK hP 0 rfl rfl 7 (by decide) (hts (.fieldLink RX12 65 "MistHeapsModel" "isWrong" "Z") kc_factor5_1) (fun _ h9 => h9) rfl dX12_factor_134 ?_
        refine lv_if_eq (tgt := 144) hx hb dX12_factor_137 (by decide) (fun c_20 => absurd c_20 (by decide)) (fun _ => ?_)
        refine lv_iconst (v := 0) hx hb dX12_factor_140 (by decide) ?_
        refine lv_goto (tgt := 150) hx hb dX12_factor_141 (by decide) ?_
        refine lv_istore_n (lv' := [(3, .int 0), (2, .int (-1)), (1, .int r_2), (0, .ref m0)]) hx hb dX12_factor_150 rfl hl (by decide) rfl (fun ls hl => ?_)
        refine lv_aload_n hx hb dX12_factor_151 rfl (lv_at hl 3 rfl) ?_
        refine lv_aload_n hx hb dX12_factor_152 rfl (lv_at hl 3 rfl) ?_
        refine va_get (D := (dC, dI)) (ci := 14) (v := .int 1) (C := RX12) (T := TX12) (N := 23) hx hb hts kc_factor5_0 hown hK hP 0 rfl rfl 7 (by decide) (hts (.fieldLink RX12 65 "MistHeapsModel" "isWrong" "Z") kc_factor5_1) (fun _ h9 => h9) rfl dX12_factor_153 ?_
        refine lv_if_ne (tgt := 164) hx hb dX12_factor_156 (by decide) (fun _ => ?_) (fun c_21 => absurd c_21 (by decide))
        refine lv_iconst (v := 1) hx hb dX12_factor_164 (by decide) ?_
        refine lv_goto (tgt := 169) hx hb dX12_factor_165 (by decide) ?_
        refine va_put (D := (dC, dI)) (ci := 14) (v := .int 1) (ty := .boolean) (C := RX12) (T := TX12) (N := 23) hx hb hts kc_factor5_0 tyX12 tyX12_ok nmX12 hown hK hP hD hS 0 rfl rfl 7 (by decide) (hts (.fieldLink RX12 65 "MistHeapsModel" "isWrong" "Z") kc_factor5_1) (fun _ h9 => h9) rfl (by decide +kernel) rfl rfl (Nat.le_of_ble_eq_true rfl) dX12_factor_169 (fun H locs hP hD hS => ?_)
        have hP : va_P (dC, dI) vwCl [(zo14irriiiiiirriirrrrlriiii m0 th aS aI im (nI a) (nI p0) (nI E) 1 5 aB aT se dn aG aO aN aD bv aY rn kd nu tv), (zaI aS cS 901 fS)] H := hP
        have hD : va_D A [(zo14irriiiiiirriirrrrlriiii m0 th aS aI im (nI a) (nI p0) (nI E) 1 5 aB aT se dn aG aO aN aD bv aY rn kd nu tv), (zaI aS cS 901 fS)] := hD
        refine lv_aload_n hx hb dX12_factor_172 rfl (lv_at hl 3 rfl) ?_
        have hPc := hP.sub (ws' := [(zo14irriiiiiirriirrrrlriiii m0 th aS aI im (nI a) (nI p0) (nI E) 1 5 aB aT se dn aG aO aN aD bv aY rn kd nu tv), (zaI aS cS 901 fS)]) [0, 1] rfl
        have hDc := hD.sub (ws' := [(zo14irriiiiiirriirrrrlriiii m0 th aS aI im (nI a) (nI p0) (nI E) 1 5 aB aT se dn aG aO aN aD bv aY rn kd nu tv), (zaI aS cS 901 fS)]) [0, 1] (by decide) rfl
        have hKc := hK.sub (tys' := [(cS, .int)]) [0] rfl
        have hFc := va_free (wc := [(zo14irriiiiiirriirrrrlriiii m0 th aS aI im (nI a) (nI p0) (nI E) 1 5 aB aT se dn aG aO aN aD bv aY rn kd nu tv), (zaI aS cS 901 fS)]) hD hS hA [0, 1] rfl
        refine va_calli (va_runV (As := []) (rest := []) ⟨hx, hb, hml, hown, hts⟩ (c_figures l dC dI m0 aS aI aB aT aG aO aN aD aY th im (nI a) (nI p0) (nI E) 1 5 se dn rn kd nu tv bv cS fS a p0 E H.size (by omega) (by omega) (by omega) (Or.inr rfl)) (cwV 0 hts gX12_factor_X12_figures rfl rfl rfl hd_yX12_figures ⟨Nat.le_of_ble_eq_true rfl, Nat.le_of_ble_eq_true rfl⟩) ⟨fun a U g mk q => by obtain ⟨q0, q1, qP, qK, qD⟩ := q; exact ⟨q0, q1, qP, va_K.moved (u := U) (U := U.calling g mk a) (Vm.Alike.refl U.vm) qK, qD⟩, va_recv hK hP (ci := 14) (q := (RX12, TX12, 23)) (q0 := 0) rfl rfl, fun U hU hW => ⟨rfl, by rw [hU], by rw [hU]; exact hPc, va_K.moved hW.alike hKc, hDc.weaken (fun _ _ _ _ => trivial)⟩⟩ rfl rfl hl.1 rfl (lv_room (Nat.le_of_ble_eq_true rfl)) dX12_factor_173 ⟨Nat.le_of_ble_eq_true rfl, Nat.le_of_ble_eq_true rfl⟩) hS (fun q _ h => hFc q h) hFc (fun r_22 u tC H1 locs htC hvm hw_23 hB hz1 hk1 hS => ?_)
        obtain ⟨sp9_24, wg9_25⟩ := u
        try dsimp only at hw_23 hB
        obtain ⟨hP1, hK1, hD1⟩ := hB
        rw [htC] at hP1
        have hK1 := va_K.moved hvm.symm hK1
        obtain ⟨hP, hD⟩ := va_join (wr := []) (w1 := [(zo14irriiiiiirriirrrrlriiii m0 th aS aI im (nI a) sp9_24 (nI E) wg9_25 5 aB aT se dn aG aO aN aD bv aY rn kd nu tv), (zaI aS cS 901 fS)]) hP hD [0, 1] [] rfl rfl (by decide) (by decide) hk1 hFc hP1 hD1
        have hK := (hK.sub (tys' := []) [] rfl).app hK1
        generalize H1 = H at hP hS ⊢
        have hP : va_P (dC, dI) vwCl [(zo14irriiiiiirriirrrrlriiii m0 th aS aI im (nI a) sp9_24 (nI E) wg9_25 5 aB aT se dn aG aO aN aD bv aY rn kd nu tv), (zaI aS cS 901 fS)] H := hP
        have hD : va_D A [(zo14irriiiiiirriirrrrlriiii m0 th aS aI im (nI a) sp9_24 (nI E) wg9_25 5 aB aT se dn aG aO aN aD bv aY rn kd nu tv), (zaI aS cS 901 fS)] := hD
        have hK : va_K (dC, dI) vwCl [(cS, .int)] s := hK
        obtain ⟨p_26, v_27, h_28, h_29, rfl, rfl, h_30, h_31, h_32⟩ := hw_23
        rcases h_31 with rfl | rfl
        · skip
          exact absurd (h_32 rfl).1 (by decide)
        · skip
          refine lv_istore (lv' := [(4, .int (nI v_27)), (3, .int 0), (2, .int (-1)), (1, .int r_2), (0, .ref m0)]) hx hb dX12_factor_176 hl (by decide) rfl (fun ls hl => ?_)
          refine lv_aload_n hx hb dX12_factor_178 rfl (lv_at hl 4 rfl) ?_
          refine lv_iload_n hx hb dX12_factor_179 rfl (lv_at hl 2 rfl) ?_
          refine lv_bipush (v := 8) hx hb dX12_factor_180 (by decide) ?_
          refine lv_iload_n hx hb dX12_factor_182 rfl (lv_at hl 1 rfl) ?_
          refine lv_imul hx hb dX12_factor_183 ?_
          refine qi_as (y := 0) (by decide) ?_
          refine lv_iadd hx hb dX12_factor_184 ?_
          refine qi_as (y := (-1)) (by decide) ?_
          refine lv_bipush (v := 32) hx hb dX12_factor_185 (by decide) ?_
          refine lv_iload hx hb dX12_factor_187 (lv_at hl 0 rfl) ?_
          refine lv_imul hx hb dX12_factor_189 ?_
          refine qi_as (y := nI (32 * v_27)) (pk_mul 32 v_27) ?_
          refine lv_iadd hx hb dX12_factor_190 ?_
          have hPc := hP.sub (ws' := [(zo14irriiiiiirriirrrrlriiii m0 th aS aI im (nI a) (nI p_26) (nI E) 1 5 aB aT se dn aG aO aN aD bv aY rn kd nu tv)]) [0] rfl
          have hKc := hK.sub (tys' := []) [] rfl
          refine va_csv (va_runV (As := [.int ((-1) + (nI (32 * v_27)))]) (rest := []) ⟨hx, hb, hml, hown, hts⟩ (c_emitsW l dC dI m0 aS aI aB aT aG aO aN aD aY th im (nI a) (nI p_26) (nI E) 1 5 se dn rn kd nu tv bv ((-1) + (nI (32 * v_27)))) (cwV 1 hts gX12_factor_X12_emits rfl rfl rfl hd_yX12_emits ⟨Nat.le_of_ble_eq_true rfl, Nat.le_of_ble_eq_true rfl⟩) ⟨fun a U g mk q => by obtain ⟨q0, qP, qK⟩ := q; exact ⟨q0, qP, va_K.moved (u := U) (U := U.calling g mk a) (Vm.Alike.refl U.vm) qK⟩, va_recv hK hP (ci := 14) (q := (RX12, TX12, 23)) (q0 := 0) rfl rfl, fun U hU hW => ⟨rfl, by rw [hU]; exact hPc, va_K.moved hW.alike hKc⟩⟩ rfl rfl hl.1 rfl (lv_room (Nat.le_of_ble_eq_true rfl)) dX12_factor_191 ⟨Nat.le_of_ble_eq_true rfl, Nat.le_of_ble_eq_true rfl⟩).run (fun hw_34 => ?_)
          rw [hQ]
          have hP9 := hP.sub (ws' := [(zo14irriiiiiirriirrrrlriiii m0 th aS aI im (nI a) (nI p_26) (nI E) 1 5 aB aT se dn aG aO aN aD bv aY rn kd nu tv), (zaI aS cS 901 fS)]) [0, 1] rfl
          have hD9 := hD.sub (ws' := [(zo14irriiiiiirriirrrrlriiii m0 th aS aI im (nI a) (nI p_26) (nI E) 1 5 aB aT se dn aG aO aN aD bv aY rn kd nu tv), (zaI aS cS 901 fS)]) [0, 1] (by decide) rfl
          have hK9 := hK.sub (tys' := [(cS, .int)]) [0] rfl
          exact W.vret hx hb hr (fun tQ htQ hWQ => ⟨⟨(fS, (nI p_26), 1), rfl, ⟨p_26, k, rfl, by omega, by omega, PF.rf, Or.inl rfl⟩, by rw [htQ]; exact hP9, va_K.moved hWQ.alike hK9, hD9⟩, hS.F htQ⟩) hS.2.2 dX12_factor_194
      · skip
        have hj_17 : j_16 < 6 := hj_17
        refine lv_istore_n (lv' := [(2, .int (nI j_16)), (1, .int r_2), (0, .ref m0)]) hx hb dX12_factor_118 rfl hl (by decide) rfl (fun ls hl => ?_)
        refine lv_aload_n hx hb dX12_factor_119 rfl (lv_at hl 2 rfl) ?_
        refine lv_iload_n hx hb dX12_factor_120 rfl (lv_at hl 0 rfl) ?_
        refine lv_iconst (v := (-1)) hx hb dX12_factor_121 (by decide) ?_
        refine lv_icmp_ne (tgt := 129) hx hb dX12_factor_122 (by decide) (fun c_35 => ?_) (fun c_35 => ?_)
        · skip
          refine lv_iconst (v := 0) hx hb dX12_factor_129 (by decide) ?_
          refine va_put (D := (dC, dI)) (ci := 14) (v := .int 0) (ty := .boolean) (C := RX12) (T := TX12) (N := 23) hx hb hts kc_factor5_0 tyX12 tyX12_ok nmX12 hown hK hP hD hS 0 rfl rfl 7 (by decide) (hts (.fieldLink RX12 65 "MistHeapsModel" "isWrong" "Z") kc_factor5_1) (fun _ h9 => h9) rfl (by decide +kernel) rfl rfl (Nat.le_of_ble_eq_true rfl) dX12_factor_130 (fun H locs hP hD hS => ?_)
          have hP : va_P (dC, dI) vwCl [(zo14irriiiiiirriirrrrlriiii m0 th aS aI im (nI a) (nI (p0 + 1)) (nI E) 0 5 aB aT se dn aG aO aN aD bv aY rn kd nu tv), (zaI aS cS 901 fS)] H := hP
          have hD : va_D A [(zo14irriiiiiirriirrrrlriiii m0 th aS aI im (nI a) (nI (p0 + 1)) (nI E) 0 5 aB aT se dn aG aO aN aD bv aY rn kd nu tv), (zaI aS cS 901 fS)] := hD
          refine lv_aload_n hx hb dX12_factor_133 rfl (lv_at hl 2 rfl) ?_
          refine va_get (D := (dC, dI)) (ci := 14) (v := .int 0) (C := RX12) (T := TX12) (N := 23) hx hb hts kc_factor5_0 hown hK hP 0 rfl rfl 7 (by decide) (hts (.fieldLink RX12 65 "MistHeapsModel" "isWrong" "Z") kc_factor5_1) (fun _ h9 => h9) rfl dX12_factor_134 ?_
          refine lv_if_eq (tgt := 144) hx hb dX12_factor_137 (by decide) (fun _ => ?_) (fun c_36 => absurd c_36 (by decide))
          refine lv_aload_n hx hb dX12_factor_144 rfl (lv_at hl 2 rfl) ?_
          refine va_ldcS hx hb hown (show vk_R RX12 107 "<=>" (sK 7) s from hE.1 7 (by decide)) dX12_factor_145 ?_
          have hPc := hP.sub (ws' := [(zo14irriiiiiirriirrrrlriiii m0 th aS aI im (nI a) (nI (p0 + 1)) (nI E) 0 5 aB aT se dn aG aO aN aD bv aY rn kd nu tv), (zaI aS cS 901 fS)]) [0, 1] rfl
          have hDc := hD.sub (ws' := [(zo14irriiiiiirriirrrrlriiii m0 th aS aI im (nI a) (nI (p0 + 1)) (nI E) 0 5 aB aT se dn aG aO aN aD bv aY rn kd nu tv), (zaI aS cS 901 fS)]) [0, 1] (by decide) rfl
          have hKc := hK.sub (tys' := [(cS, .int)]) [0] rfl
          have hFc := va_free (wc := [(zo14irriiiiiirriirrrrlriiii m0 th aS aI im (nI a) (nI (p0 + 1)) (nI E) 0 5 aB aT se dn aG aO aN aD bv aY rn kd nu tv), (zaI aS cS 901 fS)]) hD hS hA [0, 1] rfl
          refine va_calli (va_runV (As := [.ref (sK 7)]) (rest := []) ⟨hx, hb, hml, hown, hts⟩ (c_among l dC dI sK sV m0 aS aI aB aT aG aO aN aD aY th im (nI a) (nI (p0 + 1)) (nI E) 0 5 se dn rn kd nu tv bv cS fS a (p0 + 1) E 7 H.size (by omega) (by omega) (by omega) (by decide)) (cwV 1 hts gX12_factor_X12_among rfl rfl rfl hd_yX12_among ⟨Nat.le_of_ble_eq_true rfl, Nat.le_of_ble_eq_true rfl⟩) ⟨fun a U g mk q => by obtain ⟨q0, q1, qP, qK, qD, qhE⟩ := q; exact ⟨q0, q1, qP, va_K.moved (u := U) (U := U.calling g mk a) (Vm.Alike.refl U.vm) qK, qD, qhE.same rfl rfl⟩, va_recv hK hP (ci := 14) (q := (RX12, TX12, 23)) (q0 := 0) rfl rfl, fun U hU hW => ⟨rfl, by rw [hU], by rw [hU]; exact hPc, va_K.moved hW.alike hKc, hDc.weaken (fun _ _ _ _ => trivial), hE.call hS hU hW (fun q h => hFc q h)⟩⟩ rfl rfl hl.1 rfl (lv_room (Nat.le_of_ble_eq_true rfl)) dX12_factor_147 ⟨Nat.le_of_ble_eq_true rfl, Nat.le_of_ble_eq_true rfl⟩) hS (fun q _ h => hFc q h) hFc (fun r_37 u tC H1 locs htC hvm hw_38 hB hz1 hk1 hS => ?_)
          obtain ⟨sp9_39, rfl⟩ : ∃ z, z = u := ⟨_, rfl⟩
          try dsimp only at hw_38 hB
          obtain ⟨hP1, hK1, hD1⟩ := hB
          rw [htC] at hP1
          have hK1 := va_K.moved hvm.symm hK1
          obtain ⟨hP, hD⟩ := va_join (wr := []) (w1 := [(zo14irriiiiiirriirrrrlriiii m0 th aS aI im (nI a) sp9_39 (nI E) 0 5 aB aT se dn aG aO aN aD bv aY rn kd nu tv), (zaI aS cS 901 fS)]) hP hD [0, 1] [] rfl rfl (by decide) (by decide) hk1 hFc hP1 hD1
          have hK := (hK.sub (tys' := []) [] rfl).app hK1
          generalize H1 = H at hP hS ⊢
          have hP : va_P (dC, dI) vwCl [(zo14irriiiiiirriirrrrlriiii m0 th aS aI im (nI a) sp9_39 (nI E) 0 5 aB aT se dn aG aO aN aD bv aY rn kd nu tv), (zaI aS cS 901 fS)] H := hP
          have hD : va_D A [(zo14irriiiiiirriirrrrlriiii m0 th aS aI im (nI a) sp9_39 (nI E) 0 5 aB aT se dn aG aO aN aD bv aY rn kd nu tv), (zaI aS cS 901 fS)] := hD
          have hK : va_K (dC, dI) vwCl [(cS, .int)] s := hK
          rcases hw_38 with ⟨rfl, rfl⟩ | ⟨j_40, hj_41, rfl, h_42, rfl⟩
          · skip
            refine lv_istore_n (lv' := [(3, .int (-1)), (2, .int (nI j_16)), (1, .int r_2), (0, .ref m0)]) hx hb dX12_factor_150 rfl hl (by decide) rfl (fun ls hl => ?_)
            refine lv_aload_n hx hb dX12_factor_151 rfl (lv_at hl 3 rfl) ?_
            refine lv_aload_n hx hb dX12_factor_152 rfl (lv_at hl 3 rfl) ?_
            refine va_get (D := (dC, dI)) (ci := 14) (v := .int 0) (C := RX12) (T := TX12) (N := 23) hx hb hts kc_factor5_0 hown hK hP 0 rfl rfl 7 (by decide) (hts (.fieldLink RX12 65 "MistHeapsModel" "isWrong" "Z") kc_factor5_1) (fun _ h9 => h9) rfl dX12_factor_153 ?_
            refine lv_if_ne (tgt := 164) hx hb dX12_factor_156 (by decide) (fun c_43 => absurd c_43 (by decide)) (fun _ => ?_)
            refine lv_iload_n hx hb dX12_factor_159 rfl (lv_at hl 0 rfl) ?_
            refine lv_iconst (v := (-1)) hx hb dX12_factor_160 (by decide) ?_
            refine lv_icmp_ne (tgt := 168) hx hb dX12_factor_161 (by decide) (fun c_44 => absurd c_44 (by decide)) (fun _ => ?_)
            refine lv_iconst (v := 1) hx hb dX12_factor_164 (by decide) ?_
            refine lv_goto (tgt := 169) hx hb dX12_factor_165 (by decide) ?_
            refine va_put (D := (dC, dI)) (ci := 14) (v := .int 1) (ty := .boolean) (C := RX12) (T := TX12) (N := 23) hx hb hts kc_factor5_0 tyX12 tyX12_ok nmX12 hown hK hP hD hS 0 rfl rfl 7 (by decide) (hts (.fieldLink RX12 65 "MistHeapsModel" "isWrong" "Z") kc_factor5_1) (fun _ h9 => h9) rfl (by decide +kernel) rfl rfl (Nat.le_of_ble_eq_true rfl) dX12_factor_169 (fun H locs hP hD hS => ?_)
            have hP : va_P (dC, dI) vwCl [(zo14irriiiiiirriirrrrlriiii m0 th aS aI im (nI a) (nI (p0 + 1)) (nI E) 1 5 aB aT se dn aG aO aN aD bv aY rn kd nu tv), (zaI aS cS 901 fS)] H := hP
            have hD : va_D A [(zo14irriiiiiirriirrrrlriiii m0 th aS aI im (nI a) (nI (p0 + 1)) (nI E) 1 5 aB aT se dn aG aO aN aD bv aY rn kd nu tv), (zaI aS cS 901 fS)] := hD
            refine lv_aload_n hx hb dX12_factor_172 rfl (lv_at hl 3 rfl) ?_
            have hPc := hP.sub (ws' := [(zo14irriiiiiirriirrrrlriiii m0 th aS aI im (nI a) (nI (p0 + 1)) (nI E) 1 5 aB aT se dn aG aO aN aD bv aY rn kd nu tv), (zaI aS cS 901 fS)]) [0, 1] rfl
            have hDc := hD.sub (ws' := [(zo14irriiiiiirriirrrrlriiii m0 th aS aI im (nI a) (nI (p0 + 1)) (nI E) 1 5 aB aT se dn aG aO aN aD bv aY rn kd nu tv), (zaI aS cS 901 fS)]) [0, 1] (by decide) rfl
            have hKc := hK.sub (tys' := [(cS, .int)]) [0] rfl
            have hFc := va_free (wc := [(zo14irriiiiiirriirrrrlriiii m0 th aS aI im (nI a) (nI (p0 + 1)) (nI E) 1 5 aB aT se dn aG aO aN aD bv aY rn kd nu tv), (zaI aS cS 901 fS)]) hD hS hA [0, 1] rfl
            refine va_calli (va_runV (As := []) (rest := []) ⟨hx, hb, hml, hown, hts⟩ (c_figures l dC dI m0 aS aI aB aT aG aO aN aD aY th im (nI a) (nI (p0 + 1)) (nI E) 1 5 se dn rn kd nu tv bv cS fS a (p0 + 1) E H.size (by omega) (by omega) (by omega) (Or.inr rfl)) (cwV 0 hts gX12_factor_X12_figures rfl rfl rfl hd_yX12_figures ⟨Nat.le_of_ble_eq_true rfl, Nat.le_of_ble_eq_true rfl⟩) ⟨fun a U g mk q => by obtain ⟨q0, q1, qP, qK, qD⟩ := q; exact ⟨q0, q1, qP, va_K.moved (u := U) (U := U.calling g mk a) (Vm.Alike.refl U.vm) qK, qD⟩, va_recv hK hP (ci := 14) (q := (RX12, TX12, 23)) (q0 := 0) rfl rfl, fun U hU hW => ⟨rfl, by rw [hU], by rw [hU]; exact hPc, va_K.moved hW.alike hKc, hDc.weaken (fun _ _ _ _ => trivial)⟩⟩ rfl rfl hl.1 rfl (lv_room (Nat.le_of_ble_eq_true rfl)) dX12_factor_173 ⟨Nat.le_of_ble_eq_true rfl, Nat.le_of_ble_eq_true rfl⟩) hS (fun q _ h => hFc q h) hFc (fun r_45 u tC H1 locs htC hvm hw_46 hB hz1 hk1 hS => ?_)
            obtain ⟨sp9_47, wg9_48⟩ := u
            try dsimp only at hw_46 hB
            obtain ⟨hP1, hK1, hD1⟩ := hB
            rw [htC] at hP1
            have hK1 := va_K.moved hvm.symm hK1
            obtain ⟨hP, hD⟩ := va_join (wr := []) (w1 := [(zo14irriiiiiirriirrrrlriiii m0 th aS aI im (nI a) sp9_47 (nI E) wg9_48 5 aB aT se dn aG aO aN aD bv aY rn kd nu tv), (zaI aS cS 901 fS)]) hP hD [0, 1] [] rfl rfl (by decide) (by decide) hk1 hFc hP1 hD1
            have hK := (hK.sub (tys' := []) [] rfl).app hK1
            generalize H1 = H at hP hS ⊢
            have hP : va_P (dC, dI) vwCl [(zo14irriiiiiirriirrrrlriiii m0 th aS aI im (nI a) sp9_47 (nI E) wg9_48 5 aB aT se dn aG aO aN aD bv aY rn kd nu tv), (zaI aS cS 901 fS)] H := hP
            have hD : va_D A [(zo14irriiiiiirriirrrrlriiii m0 th aS aI im (nI a) sp9_47 (nI E) wg9_48 5 aB aT se dn aG aO aN aD bv aY rn kd nu tv), (zaI aS cS 901 fS)] := hD
            have hK : va_K (dC, dI) vwCl [(cS, .int)] s := hK
            obtain ⟨p_49, v_50, h_51, h_52, rfl, rfl, h_53, h_54, h_55⟩ := hw_46
            rcases h_54 with rfl | rfl
            · skip
              exact absurd (h_55 rfl).1 (by decide)
            · skip
              refine lv_istore (lv' := [(4, .int (nI v_50)), (3, .int (-1)), (2, .int (nI j_16)), (1, .int r_2), (0, .ref m0)]) hx hb dX12_factor_176 hl (by decide) rfl (fun ls hl => ?_)
              refine lv_aload_n hx hb dX12_factor_178 rfl (lv_at hl 4 rfl) ?_
              refine lv_iload_n hx hb dX12_factor_179 rfl (lv_at hl 2 rfl) ?_
              refine lv_bipush (v := 8) hx hb dX12_factor_180 (by decide) ?_
              refine lv_iload_n hx hb dX12_factor_182 rfl (lv_at hl 1 rfl) ?_
              refine lv_imul hx hb dX12_factor_183 ?_
              refine qi_as (y := (-8)) (by decide) ?_
              refine lv_iadd hx hb dX12_factor_184 ?_
              refine lv_bipush (v := 32) hx hb dX12_factor_185 (by decide) ?_
              refine lv_iload hx hb dX12_factor_187 (lv_at hl 0 rfl) ?_
              refine lv_imul hx hb dX12_factor_189 ?_
              refine qi_as (y := nI (32 * v_50)) (pk_mul 32 v_50) ?_
              refine lv_iadd hx hb dX12_factor_190 ?_
              have hPc := hP.sub (ws' := [(zo14irriiiiiirriirrrrlriiii m0 th aS aI im (nI a) (nI p_49) (nI E) 1 5 aB aT se dn aG aO aN aD bv aY rn kd nu tv)]) [0] rfl
              have hKc := hK.sub (tys' := []) [] rfl
              refine va_csv (va_runV (As := [.int (((nI j_16) + (-8)) + (nI (32 * v_50)))]) (rest := []) ⟨hx, hb, hml, hown, hts⟩ (c_emitsW l dC dI m0 aS aI aB aT aG aO aN aD aY th im (nI a) (nI p_49) (nI E) 1 5 se dn rn kd nu tv bv (((nI j_16) + (-8)) + (nI (32 * v_50)))) (cwV 1 hts gX12_factor_X12_emits rfl rfl rfl hd_yX12_emits ⟨Nat.le_of_ble_eq_true rfl, Nat.le_of_ble_eq_true rfl⟩) ⟨fun a U g mk q => by obtain ⟨q0, qP, qK⟩ := q; exact ⟨q0, qP, va_K.moved (u := U) (U := U.calling g mk a) (Vm.Alike.refl U.vm) qK⟩, va_recv hK hP (ci := 14) (q := (RX12, TX12, 23)) (q0 := 0) rfl rfl, fun U hU hW => ⟨rfl, by rw [hU]; exact hPc, va_K.moved hW.alike hKc⟩⟩ rfl rfl hl.1 rfl (lv_room (Nat.le_of_ble_eq_true rfl)) dX12_factor_191 ⟨Nat.le_of_ble_eq_true rfl, Nat.le_of_ble_eq_true rfl⟩).run (fun hw_57 => ?_)
              rw [hQ]
              have hP9 := hP.sub (ws' := [(zo14irriiiiiirriirrrrlriiii m0 th aS aI im (nI a) (nI p_49) (nI E) 1 5 aB aT se dn aG aO aN aD bv aY rn kd nu tv), (zaI aS cS 901 fS)]) [0, 1] rfl
              have hD9 := hD.sub (ws' := [(zo14irriiiiiirriirrrrlriiii m0 th aS aI im (nI a) (nI p_49) (nI E) 1 5 aB aT se dn aG aO aN aD bv aY rn kd nu tv), (zaI aS cS 901 fS)]) [0, 1] (by decide) rfl
              have hK9 := hK.sub (tys' := [(cS, .int)]) [0] rfl
              exact W.vret hx hb hr (fun tQ htQ hWQ => ⟨⟨(fS, (nI p_49), 1), rfl, ⟨p_49, k, rfl, by omega, by omega, PF.rf, Or.inl rfl⟩, by rw [htQ]; exact hP9, va_K.moved hWQ.alike hK9, hD9⟩, hS.F htQ⟩) hS.2.2 dX12_factor_194
          · skip
            have hj_41 : j_40 < 3 := hj_41
            refine lv_istore_n (lv' := [(3, .int (nI j_40)), (2, .int (nI j_16)), (1, .int r_2), (0, .ref m0)]) hx hb dX12_factor_150 rfl hl (by decide) rfl (fun ls hl => ?_)
            refine lv_aload_n hx hb dX12_factor_151 rfl (lv_at hl 3 rfl) ?_
            refine lv_aload_n hx hb dX12_factor_152 rfl (lv_at hl 3 rfl) ?_
            refine va_get (D := (dC, dI)) (ci := 14) (v := .int 0) (C := RX12) (T := TX12) (N := 23) hx hb hts kc_factor5_0 hown hK hP 0 rfl rfl 7 (by decide) (hts (.fieldLink RX12 65 "MistHeapsModel" "isWrong" "Z") kc_factor5_1) (fun _ h9 => h9) rfl dX12_factor_153 ?_
            refine lv_if_ne (tgt := 164) hx hb dX12_factor_156 (by decide) (fun c_58 => absurd c_58 (by decide)) (fun _ => ?_)
            refine lv_iload_n hx hb dX12_factor_159 rfl (lv_at hl 0 rfl) ?_
            refine lv_iconst (v := (-1)) hx hb dX12_factor_160 (by decide) ?_
            refine lv_icmp_ne (tgt := 168) hx hb dX12_factor_161 (by decide) (fun c_59 => ?_) (fun c_59 => ?_)
            · skip
              refine lv_iconst (v := 0) hx hb dX12_factor_168 (by decide) ?_
              refine va_put (D := (dC, dI)) (ci := 14) (v := .int 0) (ty := .boolean) (C := RX12) (T := TX12) (N := 23) hx hb hts kc_factor5_0 tyX12 tyX12_ok nmX12 hown hK hP hD hS 0 rfl rfl 7 (by decide) (hts (.fieldLink RX12 65 "MistHeapsModel" "isWrong" "Z") kc_factor5_1) (fun _ h9 => h9) rfl (by decide +kernel) rfl rfl (Nat.le_of_ble_eq_true rfl) dX12_factor_169 (fun H locs hP hD hS => ?_)
              have hP : va_P (dC, dI) vwCl [(zo14irriiiiiirriirrrrlriiii m0 th aS aI im (nI a) (nI ((p0 + 1) + 1)) (nI E) 0 5 aB aT se dn aG aO aN aD bv aY rn kd nu tv), (zaI aS cS 901 fS)] H := hP
              have hD : va_D A [(zo14irriiiiiirriirrrrlriiii m0 th aS aI im (nI a) (nI ((p0 + 1) + 1)) (nI E) 0 5 aB aT se dn aG aO aN aD bv aY rn kd nu tv), (zaI aS cS 901 fS)] := hD
              refine lv_aload_n hx hb dX12_factor_172 rfl (lv_at hl 3 rfl) ?_
              have hPc := hP.sub (ws' := [(zo14irriiiiiirriirrrrlriiii m0 th aS aI im (nI a) (nI ((p0 + 1) + 1)) (nI E) 0 5 aB aT se dn aG aO aN aD bv aY rn kd nu tv), (zaI aS cS 901 fS)]) [0, 1] rfl
              have hDc := hD.sub (ws' := [(zo14irriiiiiirriirrrrlriiii m0 th aS aI im (nI a) (nI ((p0 + 1) + 1)) (nI E) 0 5 aB aT se dn aG aO aN aD bv aY rn kd nu tv), (zaI aS cS 901 fS)]) [0, 1] (by decide) rfl
              have hKc := hK.sub (tys' := [(cS, .int)]) [0] rfl
              have hFc := va_free (wc := [(zo14irriiiiiirriirrrrlriiii m0 th aS aI im (nI a) (nI ((p0 + 1) + 1)) (nI E) 0 5 aB aT se dn aG aO aN aD bv aY rn kd nu tv), (zaI aS cS 901 fS)]) hD hS hA [0, 1] rfl
              refine va_calli (va_runV (As := []) (rest := []) ⟨hx, hb, hml, hown, hts⟩ (c_figures l dC dI m0 aS aI aB aT aG aO aN aD aY th im (nI a) (nI ((p0 + 1) + 1)) (nI E) 0 5 se dn rn kd nu tv bv cS fS a ((p0 + 1) + 1) E H.size (by omega) (by omega) (by omega) (Or.inl rfl)) (cwV 0 hts gX12_factor_X12_figures rfl rfl rfl hd_yX12_figures ⟨Nat.le_of_ble_eq_true rfl, Nat.le_of_ble_eq_true rfl⟩) ⟨fun a U g mk q => by obtain ⟨q0, q1, qP, qK, qD⟩ := q; exact ⟨q0, q1, qP, va_K.moved (u := U) (U := U.calling g mk a) (Vm.Alike.refl U.vm) qK, qD⟩, va_recv hK hP (ci := 14) (q := (RX12, TX12, 23)) (q0 := 0) rfl rfl, fun U hU hW => ⟨rfl, by rw [hU], by rw [hU]; exact hPc, va_K.moved hW.alike hKc, hDc.weaken (fun _ _ _ _ => trivial)⟩⟩ rfl rfl hl.1 rfl (lv_room (Nat.le_of_ble_eq_true rfl)) dX12_factor_173 ⟨Nat.le_of_ble_eq_true rfl, Nat.le_of_ble_eq_true rfl⟩) hS (fun q _ h => hFc q h) hFc (fun r_60 u tC H1 locs htC hvm hw_61 hB hz1 hk1 hS => ?_)
              obtain ⟨sp9_62, wg9_63⟩ := u
              try dsimp only at hw_61 hB
              obtain ⟨hP1, hK1, hD1⟩ := hB
              rw [htC] at hP1
              have hK1 := va_K.moved hvm.symm hK1
              obtain ⟨hP, hD⟩ := va_join (wr := []) (w1 := [(zo14irriiiiiirriirrrrlriiii m0 th aS aI im (nI a) sp9_62 (nI E) wg9_63 5 aB aT se dn aG aO aN aD bv aY rn kd nu tv), (zaI aS cS 901 fS)]) hP hD [0, 1] [] rfl rfl (by decide) (by decide) hk1 hFc hP1 hD1
              have hK := (hK.sub (tys' := []) [] rfl).app hK1
              generalize H1 = H at hP hS ⊢
              have hP : va_P (dC, dI) vwCl [(zo14irriiiiiirriirrrrlriiii m0 th aS aI im (nI a) sp9_62 (nI E) wg9_63 5 aB aT se dn aG aO aN aD bv aY rn kd nu tv), (zaI aS cS 901 fS)] H := hP
              have hD : va_D A [(zo14irriiiiiirriirrrrlriiii m0 th aS aI im (nI a) sp9_62 (nI E) wg9_63 5 aB aT se dn aG aO aN aD bv aY rn kd nu tv), (zaI aS cS 901 fS)] := hD
              have hK : va_K (dC, dI) vwCl [(cS, .int)] s := hK
              obtain ⟨p_64, v_65, h_66, h_67, rfl, rfl, h_68, h_69, h_70⟩ := hw_61
              rcases h_69 with rfl | rfl
              · skip
                obtain ⟨h_70, h_70b⟩ := h_70 rfl
                refine lv_istore (lv' := [(4, .int (nI v_65)), (3, .int (nI j_40)), (2, .int (nI j_16)), (1, .int r_2), (0, .ref m0)]) hx hb dX12_factor_176 hl (by decide) rfl (fun ls hl => ?_)
                refine lv_aload_n hx hb dX12_factor_178 rfl (lv_at hl 4 rfl) ?_
                refine lv_iload_n hx hb dX12_factor_179 rfl (lv_at hl 2 rfl) ?_
                refine lv_bipush (v := 8) hx hb dX12_factor_180 (by decide) ?_
                refine lv_iload_n hx hb dX12_factor_182 rfl (lv_at hl 1 rfl) ?_
                refine lv_imul hx hb dX12_factor_183 ?_
                refine qi_as (y := nI (8 * j_40)) (pk_mul 8 j_40) ?_
                refine lv_iadd hx hb dX12_factor_184 ?_
                refine qi_as (y := nI (j_16 + (8 * j_40))) (nI_add j_16 (8 * j_40)) ?_
                refine lv_bipush (v := 32) hx hb dX12_factor_185 (by decide) ?_
                refine lv_iload hx hb dX12_factor_187 (lv_at hl 0 rfl) ?_
                refine lv_imul hx hb dX12_factor_189 ?_
                refine qi_as (y := nI (32 * v_65)) (pk_mul 32 v_65) ?_
                refine lv_iadd hx hb dX12_factor_190 ?_
                refine qi_as (y := nI ((j_16 + (8 * j_40)) + (32 * v_65))) (nI_add (j_16 + (8 * j_40)) (32 * v_65)) ?_
                have hPc := hP.sub (ws' := [(zo14irriiiiiirriirrrrlriiii m0 th aS aI im (nI a) (nI p_64) (nI E) 0 5 aB aT se dn aG aO aN aD bv aY rn kd nu tv), (zaI aS cS 901 fS)]) [0, 1] rfl
                have hDc := hD.sub (ws' := [(zo14irriiiiiirriirrrrlriiii m0 th aS aI im (nI a) (nI p_64) (nI E) 0 5 aB aT se dn aG aO aN aD bv aY rn kd nu tv), (zaI aS cS 901 fS)]) [0, 1] (by decide) rfl
                have hKc := hK.sub (tys' := [(cS, .int)]) [0] rfl
                have hFc := va_free (wc := [(zo14irriiiiiirriirrrrlriiii m0 th aS aI im (nI a) (nI p_64) (nI E) 0 5 aB aT se dn aG aO aN aD bv aY rn kd nu tv), (zaI aS cS 901 fS)]) hD hS hA [0, 1] rfl
                refine va_callv (va_runV (As := [.int (nI ((j_16 + (8 * j_40)) + (32 * v_65)))]) (rest := []) ⟨hx, hb, hml, hown, hts⟩ (c_emits l dC dI m0 aS aI aB aT aG aO aN aD aY th im (nI a) (nI p_64) (nI E) 0 5 se dn rn kd nu tv bv cS fS a k (nI ((j_16 + (8 * j_40)) + (32 * v_65))) H.size (ga) ((gI).2.2.2.1) (by have := (gI).2.2.2.2.1; omega)) (cwV 1 hts gX12_factor_X12_emits rfl rfl rfl hd_yX12_emits ⟨Nat.le_of_ble_eq_true rfl, Nat.le_of_ble_eq_true rfl⟩) ⟨fun a U g mk q => by obtain ⟨q0, q1, qP, qK, qD⟩ := q; exact ⟨q0, q1, qP, va_K.moved (u := U) (U := U.calling g mk a) (Vm.Alike.refl U.vm) qK, qD⟩, va_recv hK hP (ci := 14) (q := (RX12, TX12, 23)) (q0 := 0) rfl rfl, fun U hU hW => ⟨rfl, by rw [hU], by rw [hU]; exact hPc, va_K.moved hW.alike hKc, hDc.weaken (fun _ _ _ _ => trivial)⟩⟩ rfl rfl hl.1 rfl (lv_room (Nat.le_of_ble_eq_true rfl)) dX12_factor_191 ⟨Nat.le_of_ble_eq_true rfl, Nat.le_of_ble_eq_true rfl⟩) hS (fun q _ h => hFc q h) hFc (fun u tC H1 locs htC hvm hw_72 hB hz1 hk1 hS => ?_)
                obtain ⟨fS9_73, rfl⟩ : ∃ z, z = u := ⟨_, rfl⟩
                try dsimp only at hw_72 hB
                obtain ⟨hP1, hK1, hD1⟩ := hB
                rw [htC] at hP1
                have hK1 := va_K.moved hvm.symm hK1
                obtain ⟨hP, hD⟩ := va_join (wr := []) (w1 := [(zo14irriiiiiirriirrrrlriiii m0 th aS aI im (nI a) (nI p_64) (nI E) 0 5 aB aT se dn aG aO aN aD bv aY rn kd nu tv), (zaI aS cS 901 fS9_73)]) hP hD [0, 1] [] rfl rfl (by decide) (by decide) hk1 hFc hP1 hD1
                have hK := (hK.sub (tys' := []) [] rfl).app hK1
                generalize H1 = H at hP hS ⊢
                have hP : va_P (dC, dI) vwCl [(zo14irriiiiiirriirrrrlriiii m0 th aS aI im (nI a) (nI p_64) (nI E) 0 5 aB aT se dn aG aO aN aD bv aY rn kd nu tv), (zaI aS cS 901 fS9_73)] H := hP
                have hD : va_D A [(zo14irriiiiiirriirrrrlriiii m0 th aS aI im (nI a) (nI p_64) (nI E) 0 5 aB aT se dn aG aO aN aD bv aY rn kd nu tv), (zaI aS cS 901 fS9_73)] := hD
                have hK : va_K (dC, dI) vwCl [(cS, .int)] s := hK
                obtain rfl : fS9_73 = emt fS a k (nI ((j_16 + (8 * j_40)) + (32 * v_65))) := by rcases hw_72 with ⟨q, _⟩ | ⟨_, q⟩; exact absurd rfl q; exact q
                have hI_75 : PI (emt fS a k (nI ((j_16 + (8 * j_40)) + (32 * v_65)))) a (k + 1) (d + 1) p_64 E := ((gI).mono (by omega) (by omega)).em (by omega) (by omega) (stepd_test (by omega) (by omega) (by omega) (by omega))
                have hF_76 : PF a fS (emt fS a k (nI ((j_16 + (8 * j_40)) + (32 * v_65)))) := (PF.rf).tr (PF_emt (k := k) (x := nI ((j_16 + (8 * j_40)) + (32 * v_65))) ga (by have := (gI).2.2.2.2.1; omega))
                rw [hQ]
                have hP9 := hP.sub (ws' := [(zo14irriiiiiirriirrrrlriiii m0 th aS aI im (nI a) (nI p_64) (nI E) 0 5 aB aT se dn aG aO aN aD bv aY rn kd nu tv), (zaI aS cS 901 (emt fS a k (nI ((j_16 + (8 * j_40)) + (32 * v_65)))))]) [0, 1] rfl
                have hD9 := hD.sub (ws' := [(zo14irriiiiiirriirrrrlriiii m0 th aS aI im (nI a) (nI p_64) (nI E) 0 5 aB aT se dn aG aO aN aD bv aY rn kd nu tv), (zaI aS cS 901 (emt fS a k (nI ((j_16 + (8 * j_40)) + (32 * v_65)))))]) [0, 1] (by decide) rfl
                have hK9 := hK.sub (tys' := [(cS, .int)]) [0] rfl
                exact W.vret hx hb hr (fun tQ htQ hWQ => ⟨⟨((emt fS a k (nI ((j_16 + (8 * j_40)) + (32 * v_65)))), (nI p_64), 0), rfl, ⟨p_64, (k + 1), rfl, by omega, by omega, hF_76, Or.inr ⟨rfl, by omega, hI_75, by omega⟩⟩, by rw [htQ]; exact hP9, va_K.moved hWQ.alike hK9, hD9⟩, hS.F htQ⟩) hS.2.2 dX12_factor_194
              · skip
                refine lv_istore (lv' := [(4, .int (nI v_65)), (3, .int (nI j_40)), (2, .int (nI j_16)), (1, .int r_2), (0, .ref m0)]) hx hb dX12_factor_176 hl (by decide) rfl (fun ls hl => ?_)
                refine lv_aload_n hx hb dX12_factor_178 rfl (lv_at hl 4 rfl) ?_
                refine lv_iload_n hx hb dX12_factor_179 rfl (lv_at hl 2 rfl) ?_
                refine lv_bipush (v := 8) hx hb dX12_factor_180 (by decide) ?_
                refine lv_iload_n hx hb dX12_factor_182 rfl (lv_at hl 1 rfl) ?_
                refine lv_imul hx hb dX12_factor_183 ?_
                refine qi_as (y := nI (8 * j_40)) (pk_mul 8 j_40) ?_
                refine lv_iadd hx hb dX12_factor_184 ?_
                refine qi_as (y := nI (j_16 + (8 * j_40))) (nI_add j_16 (8 * j_40)) ?_
                refine lv_bipush (v := 32) hx hb dX12_factor_185 (by decide) ?_
                refine lv_iload hx hb dX12_factor_187 (lv_at hl 0 rfl) ?_
                refine lv_imul hx hb dX12_factor_189 ?_
                refine qi_as (y := nI (32 * v_65)) (pk_mul 32 v_65) ?_
                refine lv_iadd hx hb dX12_factor_190 ?_
                refine qi_as (y := nI ((j_16 + (8 * j_40)) + (32 * v_65))) (nI_add (j_16 + (8 * j_40)) (32 * v_65)) ?_
                have hPc := hP.sub (ws' := [(zo14irriiiiiirriirrrrlriiii m0 th aS aI im (nI a) (nI p_64) (nI E) 1 5 aB aT se dn aG aO aN aD bv aY rn kd nu tv)]) [0] rfl
                have hKc := hK.sub (tys' := []) [] rfl
                refine va_csv (va_runV (As := [.int (nI ((j_16 + (8 * j_40)) + (32 * v_65)))]) (rest := []) ⟨hx, hb, hml, hown, hts⟩ (c_emitsW l dC dI m0 aS aI aB aT aG aO aN aD aY th im (nI a) (nI p_64) (nI E) 1 5 se dn rn kd nu tv bv (nI ((j_16 + (8 * j_40)) + (32 * v_65)))) (cwV 1 hts gX12_factor_X12_emits rfl rfl rfl hd_yX12_emits ⟨Nat.le_of_ble_eq_true rfl, Nat.le_of_ble_eq_true rfl⟩) ⟨fun a U g mk q => by obtain ⟨q0, qP, qK⟩ := q; exact ⟨q0, qP, va_K.moved (u := U) (U := U.calling g mk a) (Vm.Alike.refl U.vm) qK⟩, va_recv hK hP (ci := 14) (q := (RX12, TX12, 23)) (q0 := 0) rfl rfl, fun U hU hW => ⟨rfl, by rw [hU]; exact hPc, va_K.moved hW.alike hKc⟩⟩ rfl rfl hl.1 rfl (lv_room (Nat.le_of_ble_eq_true rfl)) dX12_factor_191 ⟨Nat.le_of_ble_eq_true rfl, Nat.le_of_ble_eq_true rfl⟩).run (fun hw_78 => ?_)
                rw [hQ]
                have hP9 := hP.sub (ws' := [(zo14irriiiiiirriirrrrlriiii m0 th aS aI im (nI a) (nI p_64) (nI E) 1 5 aB aT se dn aG aO aN aD bv aY rn kd nu tv), (zaI aS cS 901 fS)]) [0, 1] rfl
                have hD9 := hD.sub (ws' := [(zo14irriiiiiirriirrrrlriiii m0 th aS aI im (nI a) (nI p_64) (nI E) 1 5 aB aT se dn aG aO aN aD bv aY rn kd nu tv), (zaI aS cS 901 fS)]) [0, 1] (by decide) rfl
                have hK9 := hK.sub (tys' := [(cS, .int)]) [0] rfl
                exact W.vret hx hb hr (fun tQ htQ hWQ => ⟨⟨(fS, (nI p_64), 1), rfl, ⟨p_64, k, rfl, by omega, by omega, PF.rf, Or.inl rfl⟩, by rw [htQ]; exact hP9, va_K.moved hWQ.alike hK9, hD9⟩, hS.F htQ⟩) hS.2.2 dX12_factor_194
            · skip
              refine lv_iconst (v := 1) hx hb dX12_factor_164 (by decide) ?_
              refine lv_goto (tgt := 169) hx hb dX12_factor_165 (by decide) ?_
              refine va_put (D := (dC, dI)) (ci := 14) (v := .int 1) (ty := .boolean) (C := RX12) (T := TX12) (N := 23) hx hb hts kc_factor5_0 tyX12 tyX12_ok nmX12 hown hK hP hD hS 0 rfl rfl 7 (by decide) (hts (.fieldLink RX12 65 "MistHeapsModel" "isWrong" "Z") kc_factor5_1) (fun _ h9 => h9) rfl (by decide +kernel) rfl rfl (Nat.le_of_ble_eq_true rfl) dX12_factor_169 (fun H locs hP hD hS => ?_)
              have hP : va_P (dC, dI) vwCl [(zo14irriiiiiirriirrrrlriiii m0 th aS aI im (nI a) (nI ((p0 + 1) + 1)) (nI E) 1 5 aB aT se dn aG aO aN aD bv aY rn kd nu tv), (zaI aS cS 901 fS)] H := hP
              have hD : va_D A [(zo14irriiiiiirriirrrrlriiii m0 th aS aI im (nI a) (nI ((p0 + 1) + 1)) (nI E) 1 5 aB aT se dn aG aO aN aD bv aY rn kd nu tv), (zaI aS cS 901 fS)] := hD
              refine lv_aload_n hx hb dX12_factor_172 rfl (lv_at hl 3 rfl) ?_
              have hPc := hP.sub (ws' := [(zo14irriiiiiirriirrrrlriiii m0 th aS aI im (nI a) (nI ((p0 + 1) + 1)) (nI E) 1 5 aB aT se dn aG aO aN aD bv aY rn kd nu tv), (zaI aS cS 901 fS)]) [0, 1] rfl
              have hDc := hD.sub (ws' := [(zo14irriiiiiirriirrrrlriiii m0 th aS aI im (nI a) (nI ((p0 + 1) + 1)) (nI E) 1 5 aB aT se dn aG aO aN aD bv aY rn kd nu tv), (zaI aS cS 901 fS)]) [0, 1] (by decide) rfl
              have hKc := hK.sub (tys' := [(cS, .int)]) [0] rfl
              have hFc := va_free (wc := [(zo14irriiiiiirriirrrrlriiii m0 th aS aI im (nI a) (nI ((p0 + 1) + 1)) (nI E) 1 5 aB aT se dn aG aO aN aD bv aY rn kd nu tv), (zaI aS cS 901 fS)]) hD hS hA [0, 1] rfl
              refine va_calli (va_runV (As := []) (rest := []) ⟨hx, hb, hml, hown, hts⟩ (c_figures l dC dI m0 aS aI aB aT aG aO aN aD aY th im (nI a) (nI ((p0 + 1) + 1)) (nI E) 1 5 se dn rn kd nu tv bv cS fS a ((p0 + 1) + 1) E H.size (by omega) (by omega) (by omega) (Or.inr rfl)) (cwV 0 hts gX12_factor_X12_figures rfl rfl rfl hd_yX12_figures ⟨Nat.le_of_ble_eq_true rfl, Nat.le_of_ble_eq_true rfl⟩) ⟨fun a U g mk q => by obtain ⟨q0, q1, qP, qK, qD⟩ := q; exact ⟨q0, q1, qP, va_K.moved (u := U) (U := U.calling g mk a) (Vm.Alike.refl U.vm) qK, qD⟩, va_recv hK hP (ci := 14) (q := (RX12, TX12, 23)) (q0 := 0) rfl rfl, fun U hU hW => ⟨rfl, by rw [hU], by rw [hU]; exact hPc, va_K.moved hW.alike hKc, hDc.weaken (fun _ _ _ _ => trivial)⟩⟩ rfl rfl hl.1 rfl (lv_room (Nat.le_of_ble_eq_true rfl)) dX12_factor_173 ⟨Nat.le_of_ble_eq_true rfl, Nat.le_of_ble_eq_true rfl⟩) hS (fun q _ h => hFc q h) hFc (fun r_79 u tC H1 locs htC hvm hw_80 hB hz1 hk1 hS => ?_)
              obtain ⟨sp9_81, wg9_82⟩ := u
              try dsimp only at hw_80 hB
              obtain ⟨hP1, hK1, hD1⟩ := hB
              rw [htC] at hP1
              have hK1 := va_K.moved hvm.symm hK1
              obtain ⟨hP, hD⟩ := va_join (wr := []) (w1 := [(zo14irriiiiiirriirrrrlriiii m0 th aS aI im (nI a) sp9_81 (nI E) wg9_82 5 aB aT se dn aG aO aN aD bv aY rn kd nu tv), (zaI aS cS 901 fS)]) hP hD [0, 1] [] rfl rfl (by decide) (by decide) hk1 hFc hP1 hD1
              have hK := (hK.sub (tys' := []) [] rfl).app hK1
              generalize H1 = H at hP hS ⊢
              have hP : va_P (dC, dI) vwCl [(zo14irriiiiiirriirrrrlriiii m0 th aS aI im (nI a) sp9_81 (nI E) wg9_82 5 aB aT se dn aG aO aN aD bv aY rn kd nu tv), (zaI aS cS 901 fS)] H := hP
              have hD : va_D A [(zo14irriiiiiirriirrrrlriiii m0 th aS aI im (nI a) sp9_81 (nI E) wg9_82 5 aB aT se dn aG aO aN aD bv aY rn kd nu tv), (zaI aS cS 901 fS)] := hD
              have hK : va_K (dC, dI) vwCl [(cS, .int)] s := hK
              obtain ⟨p_83, v_84, h_85, h_86, rfl, rfl, h_87, h_88, h_89⟩ := hw_80
              rcases h_88 with rfl | rfl
              · skip
                exact absurd (h_89 rfl).1 (by decide)
              · skip
                refine lv_istore (lv' := [(4, .int (nI v_84)), (3, .int (nI j_40)), (2, .int (nI j_16)), (1, .int r_2), (0, .ref m0)]) hx hb dX12_factor_176 hl (by decide) rfl (fun ls hl => ?_)
                refine lv_aload_n hx hb dX12_factor_178 rfl (lv_at hl 4 rfl) ?_
                refine lv_iload_n hx hb dX12_factor_179 rfl (lv_at hl 2 rfl) ?_
                refine lv_bipush (v := 8) hx hb dX12_factor_180 (by decide) ?_
                refine lv_iload_n hx hb dX12_factor_182 rfl (lv_at hl 1 rfl) ?_
                refine lv_imul hx hb dX12_factor_183 ?_
                refine qi_as (y := nI (8 * j_40)) (pk_mul 8 j_40) ?_
                refine lv_iadd hx hb dX12_factor_184 ?_
                refine qi_as (y := nI (j_16 + (8 * j_40))) (nI_add j_16 (8 * j_40)) ?_
                refine lv_bipush (v := 32) hx hb dX12_factor_185 (by decide) ?_
                refine lv_iload hx hb dX12_factor_187 (lv_at hl 0 rfl) ?_
                refine lv_imul hx hb dX12_factor_189 ?_
                refine qi_as (y := nI (32 * v_84)) (pk_mul 32 v_84) ?_
                refine lv_iadd hx hb dX12_factor_190 ?_
                refine qi_as (y := nI ((j_16 + (8 * j_40)) + (32 * v_84))) (nI_add (j_16 + (8 * j_40)) (32 * v_84)) ?_
                have hPc := hP.sub (ws' := [(zo14irriiiiiirriirrrrlriiii m0 th aS aI im (nI a) (nI p_83) (nI E) 1 5 aB aT se dn aG aO aN aD bv aY rn kd nu tv)]) [0] rfl
                have hKc := hK.sub (tys' := []) [] rfl
                refine va_csv (va_runV (As := [.int (nI ((j_16 + (8 * j_40)) + (32 * v_84)))]) (rest := []) ⟨hx, hb, hml, hown, hts⟩ (c_emitsW l dC dI m0 aS aI aB aT aG aO aN aD aY th im (nI a) (nI p_83) (nI E) 1 5 se dn rn kd nu tv bv (nI ((j_16 + (8 * j_40)) + (32 * v_84)))) (cwV 1 hts gX12_factor_X12_emits rfl rfl rfl hd_yX12_emits ⟨Nat.le_of_ble_eq_true rfl, Nat.le_of_ble_eq_true rfl⟩) ⟨fun a U g mk q => by obtain ⟨q0, qP, qK⟩ := q; exact ⟨q0, qP, va_K.moved (u := U) (U := U.calling g mk a) (Vm.Alike.refl U.vm) qK⟩, va_recv hK hP (ci := 14) (q := (RX12, TX12, 23)) (q0 := 0) rfl rfl, fun U hU hW => ⟨rfl, by rw [hU]; exact hPc, va_K.moved hW.alike hKc⟩⟩ rfl rfl hl.1 rfl (lv_room (Nat.le_of_ble_eq_true rfl)) dX12_factor_191 ⟨Nat.le_of_ble_eq_true rfl, Nat.le_of_ble_eq_true rfl⟩).run (fun hw_91 => ?_)
                rw [hQ]
                have hP9 := hP.sub (ws' := [(zo14irriiiiiirriirrrrlriiii m0 th aS aI im (nI a) (nI p_83) (nI E) 1 5 aB aT se dn aG aO aN aD bv aY rn kd nu tv), (zaI aS cS 901 fS)]) [0, 1] rfl
                have hD9 := hD.sub (ws' := [(zo14irriiiiiirriirrrrlriiii m0 th aS aI im (nI a) (nI p_83) (nI E) 1 5 aB aT se dn aG aO aN aD bv aY rn kd nu tv), (zaI aS cS 901 fS)]) [0, 1] (by decide) rfl
                have hK9 := hK.sub (tys' := [(cS, .int)]) [0] rfl
                exact W.vret hx hb hr (fun tQ htQ hWQ => ⟨⟨(fS, (nI p_83), 1), rfl, ⟨p_83, k, rfl, by omega, by omega, PF.rf, Or.inl rfl⟩, by rw [htQ]; exact hP9, va_K.moved hWQ.alike hK9, hD9⟩, hS.F htQ⟩) hS.2.2 dX12_factor_194
        · skip
          refine lv_iconst (v := 1) hx hb dX12_factor_125 (by decide) ?_
          refine lv_goto (tgt := 130) hx hb dX12_factor_126 (by decide) ?_
          refine va_put (D := (dC, dI)) (ci := 14) (v := .int 1) (ty := .boolean) (C := RX12) (T := TX12) (N := 23) hx hb hts kc_factor5_0 tyX12 tyX12_ok nmX12 hown hK hP hD hS 0 rfl rfl 7 (by decide) (hts (.fieldLink RX12 65 "MistHeapsModel" "isWrong" "Z") kc_factor5_1) (fun _ h9 => h9) rfl (by decide +kernel) rfl rfl (Nat.le_of_ble_eq_true rfl) dX12_factor_130 (fun H locs hP hD hS => ?_)
          have hP : va_P (dC, dI) vwCl [(zo14irriiiiiirriirrrrlriiii m0 th aS aI im (nI a) (nI (p0 + 1)) (nI E) 1 5 aB aT se dn aG aO aN aD bv aY rn kd nu tv), (zaI aS cS 901 fS)] H := hP
          have hD : va_D A [(zo14irriiiiiirriirrrrlriiii m0 th aS aI im (nI a) (nI (p0 + 1)) (nI E) 1 5 aB aT se dn aG aO aN aD bv aY rn kd nu tv), (zaI aS cS 901 fS)] := hD
          refine lv_aload_n hx hb dX12_factor_133 rfl (lv_at hl 2 rfl) ?_
          refine va_get (D := (dC, dI)) (ci := 14) (v := .int 1) (C := RX12) (T := TX12) (N := 23) hx hb hts kc_factor5_0 hown hK hP 0 rfl rfl 7 (by decide) (hts (.fieldLink RX12 65 "MistHeapsModel" "isWrong" "Z") kc_factor5_1) (fun _ h9 => h9) rfl dX12_factor_134 ?_
          refine lv_if_eq (tgt := 144) hx hb dX12_factor_137 (by decide) (fun c_92 => absurd c_92 (by decide)) (fun _ => ?_)
          refine lv_iconst (v := 0) hx hb dX12_factor_140 (by decide) ?_
          refine lv_goto (tgt := 150) hx hb dX12_factor_141 (by decide) ?_
          refine lv_istore_n (lv' := [(3, .int 0), (2, .int (nI j_16)), (1, .int r_2), (0, .ref m0)]) hx hb dX12_factor_150 rfl hl (by decide) rfl (fun ls hl => ?_)
          refine lv_aload_n hx hb dX12_factor_151 rfl (lv_at hl 3 rfl) ?_
          refine lv_aload_n hx hb dX12_factor_152 rfl (lv_at hl 3 rfl) ?_
          refine va_get (D := (dC, dI)) (ci := 14) (v := .int 1) (C := RX12) (T := TX12) (N := 23) hx hb hts kc_factor5_0 hown hK hP 0 rfl rfl 7 (by decide) (hts (.fieldLink RX12 65 "MistHeapsModel" "isWrong" "Z") kc_factor5_1) (fun _ h9 => h9) rfl dX12_factor_153 ?_
          refine lv_if_ne (tgt := 164) hx hb dX12_factor_156 (by decide) (fun _ => ?_) (fun c_93 => absurd c_93 (by decide))
          refine lv_iconst (v := 1) hx hb dX12_factor_164 (by decide) ?_
          refine lv_goto (tgt := 169) hx hb dX12_factor_165 (by decide) ?_
          refine va_put (D := (dC, dI)) (ci := 14) (v := .int 1) (ty := .boolean) (C := RX12) (T := TX12) (N := 23) hx hb hts kc_factor5_0 tyX12 tyX12_ok nmX12 hown hK hP hD hS 0 rfl rfl 7 (by decide) (hts (.fieldLink RX12 65 "MistHeapsModel" "isWrong" "Z") kc_factor5_1) (fun _ h9 => h9) rfl (by decide +kernel) rfl rfl (Nat.le_of_ble_eq_true rfl) dX12_factor_169 (fun H locs hP hD hS => ?_)
          have hP : va_P (dC, dI) vwCl [(zo14irriiiiiirriirrrrlriiii m0 th aS aI im (nI a) (nI (p0 + 1)) (nI E) 1 5 aB aT se dn aG aO aN aD bv aY rn kd nu tv), (zaI aS cS 901 fS)] H := hP
          have hD : va_D A [(zo14irriiiiiirriirrrrlriiii m0 th aS aI im (nI a) (nI (p0 + 1)) (nI E) 1 5 aB aT se dn aG aO aN aD bv aY rn kd nu tv), (zaI aS cS 901 fS)] := hD
          refine lv_aload_n hx hb dX12_factor_172 rfl (lv_at hl 3 rfl) ?_
          have hPc := hP.sub (ws' := [(zo14irriiiiiirriirrrrlriiii m0 th aS aI im (nI a) (nI (p0 + 1)) (nI E) 1 5 aB aT se dn aG aO aN aD bv aY rn kd nu tv), (zaI aS cS 901 fS)]) [0, 1] rfl
          have hDc := hD.sub (ws' := [(zo14irriiiiiirriirrrrlriiii m0 th aS aI im (nI a) (nI (p0 + 1)) (nI E) 1 5 aB aT se dn aG aO aN aD bv aY rn kd nu tv), (zaI aS cS 901 fS)]) [0, 1] (by decide) rfl
          have hKc := hK.sub (tys' := [(cS, .int)]) [0] rfl
          have hFc := va_free (wc := [(zo14irriiiiiirriirrrrlriiii m0 th aS aI im (nI a) (nI (p0 + 1)) (nI E) 1 5 aB aT se dn aG aO aN aD bv aY rn kd nu tv), (zaI aS cS 901 fS)]) hD hS hA [0, 1] rfl
          refine va_calli (va_runV (As := []) (rest := []) ⟨hx, hb, hml, hown, hts⟩ (c_figures l dC dI m0 aS aI aB aT aG aO aN aD aY th im (nI a) (nI (p0 + 1)) (nI E) 1 5 se dn rn kd nu tv bv cS fS a (p0 + 1) E H.size (by omega) (by omega) (by omega) (Or.inr rfl)) (cwV 0 hts gX12_factor_X12_figures rfl rfl rfl hd_yX12_figures ⟨Nat.le_of_ble_eq_true rfl, Nat.le_of_ble_eq_true rfl⟩) ⟨fun a U g mk q => by obtain ⟨q0, q1, qP, qK, qD⟩ := q; exact ⟨q0, q1, qP, va_K.moved (u := U) (U := U.calling g mk a) (Vm.Alike.refl U.vm) qK, qD⟩, va_recv hK hP (ci := 14) (q := (RX12, TX12, 23)) (q0 := 0) rfl rfl, fun U hU hW => ⟨rfl, by rw [hU], by rw [hU]; exact hPc, va_K.moved hW.alike hKc, hDc.weaken (fun _ _ _ _ => trivial)⟩⟩ rfl rfl hl.1 rfl (lv_room (Nat.le_of_ble_eq_true rfl)) dX12_factor_173 ⟨Nat.le_of_ble_eq_true rfl, Nat.le_of_ble_eq_true rfl⟩) hS (fun q _ h => hFc q h) hFc (fun r_94 u tC H1 locs htC hvm hw_95 hB hz1 hk1 hS => ?_)
          obtain ⟨sp9_96, wg9_97⟩ := u
          try dsimp only at hw_95 hB
          obtain ⟨hP1, hK1, hD1⟩ := hB
          rw [htC] at hP1
          have hK1 := va_K.moved hvm.symm hK1
          obtain ⟨hP, hD⟩ := va_join (wr := []) (w1 := [(zo14irriiiiiirriirrrrlriiii m0 th aS aI im (nI a) sp9_96 (nI E) wg9_97 5 aB aT se dn aG aO aN aD bv aY rn kd nu tv), (zaI aS cS 901 fS)]) hP hD [0, 1] [] rfl rfl (by decide) (by decide) hk1 hFc hP1 hD1
          have hK := (hK.sub (tys' := []) [] rfl).app hK1
          generalize H1 = H at hP hS ⊢
          have hP : va_P (dC, dI) vwCl [(zo14irriiiiiirriirrrrlriiii m0 th aS aI im (nI a) sp9_96 (nI E) wg9_97 5 aB aT se dn aG aO aN aD bv aY rn kd nu tv), (zaI aS cS 901 fS)] H := hP
          have hD : va_D A [(zo14irriiiiiirriirrrrlriiii m0 th aS aI im (nI a) sp9_96 (nI E) wg9_97 5 aB aT se dn aG aO aN aD bv aY rn kd nu tv), (zaI aS cS 901 fS)] := hD
          have hK : va_K (dC, dI) vwCl [(cS, .int)] s := hK
          obtain ⟨p_98, v_99, h_100, h_101, rfl, rfl, h_102, h_103, h_104⟩ := hw_95
          rcases h_103 with rfl | rfl
          · skip
            exact absurd (h_104 rfl).1 (by decide)
          · skip
            refine lv_istore (lv' := [(4, .int (nI v_99)), (3, .int 0), (2, .int (nI j_16)), (1, .int r_2), (0, .ref m0)]) hx hb dX12_factor_176 hl (by decide) rfl (fun ls hl => ?_)
            refine lv_aload_n hx hb dX12_factor_178 rfl (lv_at hl 4 rfl) ?_
            refine lv_iload_n hx hb dX12_factor_179 rfl (lv_at hl 2 rfl) ?_
            refine lv_bipush (v := 8) hx hb dX12_factor_180 (by decide) ?_
            refine lv_iload_n hx hb dX12_factor_182 rfl (lv_at hl 1 rfl) ?_
            refine lv_imul hx hb dX12_factor_183 ?_
            refine qi_as (y := 0) (by decide) ?_
            refine lv_iadd hx hb dX12_factor_184 ?_
            refine qi_as (y := nI (j_16 + 0)) (nI_add j_16 0) ?_
            refine lv_bipush (v := 32) hx hb dX12_factor_185 (by decide) ?_
            refine lv_iload hx hb dX12_factor_187 (lv_at hl 0 rfl) ?_
            refine lv_imul hx hb dX12_factor_189 ?_
            refine qi_as (y := nI (32 * v_99)) (pk_mul 32 v_99) ?_
            refine lv_iadd hx hb dX12_factor_190 ?_
            refine qi_as (y := nI ((j_16 + 0) + (32 * v_99))) (nI_add (j_16 + 0) (32 * v_99)) ?_
            have hPc := hP.sub (ws' := [(zo14irriiiiiirriirrrrlriiii m0 th aS aI im (nI a) (nI p_98) (nI E) 1 5 aB aT se dn aG aO aN aD bv aY rn kd nu tv)]) [0] rfl
            have hKc := hK.sub (tys' := []) [] rfl
            refine va_csv (va_runV (As := [.int (nI ((j_16 + 0) + (32 * v_99)))]) (rest := []) ⟨hx, hb, hml, hown, hts⟩ (c_emitsW l dC dI m0 aS aI aB aT aG aO aN aD aY th im (nI a) (nI p_98) (nI E) 1 5 se dn rn kd nu tv bv (nI ((j_16 + 0) + (32 * v_99)))) (cwV 1 hts gX12_factor_X12_emits rfl rfl rfl hd_yX12_emits ⟨Nat.le_of_ble_eq_true rfl, Nat.le_of_ble_eq_true rfl⟩) ⟨fun a U g mk q => by obtain ⟨q0, qP, qK⟩ := q; exact ⟨q0, qP, va_K.moved (u := U) (U := U.calling g mk a) (Vm.Alike.refl U.vm) qK⟩, va_recv hK hP (ci := 14) (q := (RX12, TX12, 23)) (q0 := 0) rfl rfl, fun U hU hW => ⟨rfl, by rw [hU]; exact hPc, va_K.moved hW.alike hKc⟩⟩ rfl rfl hl.1 rfl (lv_room (Nat.le_of_ble_eq_true rfl)) dX12_factor_191 ⟨Nat.le_of_ble_eq_true rfl, Nat.le_of_ble_eq_true rfl⟩).run (fun hw_106 => ?_)
            rw [hQ]
            have hP9 := hP.sub (ws' := [(zo14irriiiiiirriirrrrlriiii m0 th aS aI im (nI a) (nI p_98) (nI E) 1 5 aB aT se dn aG aO aN aD bv aY rn kd nu tv), (zaI aS cS 901 fS)]) [0, 1] rfl
            have hD9 := hD.sub (ws' := [(zo14irriiiiiirriirrrrlriiii m0 th aS aI im (nI a) (nI p_98) (nI E) 1 5 aB aT se dn aG aO aN aD bv aY rn kd nu tv), (zaI aS cS 901 fS)]) [0, 1] (by decide) rfl
            have hK9 := hK.sub (tys' := [(cS, .int)]) [0] rfl
            exact W.vret hx hb hr (fun tQ htQ hWQ => ⟨⟨(fS, (nI p_98), 1), rfl, ⟨p_98, k, rfl, by omega, by omega, PF.rf, Or.inl rfl⟩, by rw [htQ]; exact hP9, va_K.moved hWQ.alike hK9, hD9⟩, hS.F htQ⟩) hS.2.2 dX12_factor_194
    · skip
      subst c_12
      have hlt : p0 < E := hv_lt (f := fS) (by rw [← hw_3]; decide)
      refine lv_aload_n hx hb dX12_factor_25 rfl (lv_at hl 1 rfl) ?_
      refine lv_aload_n hx hb dX12_factor_26 rfl (lv_at hl 1 rfl) ?_
      refine va_get (D := (dC, dI)) (ci := 14) (v := .int 5) (C := RX12) (T := TX12) (N := 23) hx hb hts kc_factor5_0 hown hK hP 0 rfl rfl 8 (by decide) (hts (.fieldLink RX12 89 "MistHeapsModel" "open" "I") kc_factor5_2) (fun _ h9 => h9) rfl dX12_factor_27 ?_
      refine lv_iconst (v := 5) hx hb dX12_factor_30 (by decide) ?_
      refine lv_icmp_ne (tgt := 38) hx hb dX12_factor_31 (by decide) (fun c_107 => absurd c_107 (by decide)) (fun _ => ?_)
      refine lv_iconst (v := 1) hx hb dX12_factor_34 (by decide) ?_
      refine lv_goto (tgt := 39) hx hb dX12_factor_35 (by decide) ?_
      refine va_put (D := (dC, dI)) (ci := 14) (v := .int 1) (ty := .boolean) (C := RX12) (T := TX12) (N := 23) hx hb hts kc_factor5_0 tyX12 tyX12_ok nmX12 hown hK hP hD hS 0 rfl rfl 7 (by decide) (hts (.fieldLink RX12 65 "MistHeapsModel" "isWrong" "Z") kc_factor5_1) (fun _ h9 => h9) rfl (by decide +kernel) rfl rfl (Nat.le_of_ble_eq_true rfl) dX12_factor_39 (fun H locs hP hD hS => ?_)
      have hP : va_P (dC, dI) vwCl [(zo14irriiiiiirriirrrrlriiii m0 th aS aI im (nI a) (nI p0) (nI E) 1 5 aB aT se dn aG aO aN aD bv aY rn kd nu tv), (zaI aS cS 901 fS)] H := hP
      have hD : va_D A [(zo14irriiiiiirriirrrrlriiii m0 th aS aI im (nI a) (nI p0) (nI E) 1 5 aB aT se dn aG aO aN aD bv aY rn kd nu tv), (zaI aS cS 901 fS)] := hD
      refine lv_aload_n hx hb dX12_factor_42 rfl (lv_at hl 1 rfl) ?_
      refine lv_dup hx hb dX12_factor_43 rfl ?_
      refine va_get (D := (dC, dI)) (ci := 14) (v := .int 5) (C := RX12) (T := TX12) (N := 23) hx hb hts kc_factor5_0 hown hK hP 0 rfl rfl 8 (by decide) (hts (.fieldLink RX12 89 "MistHeapsModel" "open" "I") kc_factor5_2) (fun _ h9 => h9) rfl dX12_factor_44 ?_
      refine lv_iconst (v := 1) hx hb dX12_factor_47 (by decide) ?_
      refine lv_iadd hx hb dX12_factor_48 ?_
      refine qi_as (y := 6) (by decide) ?_
      refine va_put (D := (dC, dI)) (ci := 14) (v := .int 6) (ty := .int) (C := RX12) (T := TX12) (N := 23) hx hb hts kc_factor5_0 tyX12 tyX12_ok nmX12 hown hK hP hD hS 0 rfl rfl 8 (by decide) (hts (.fieldLink RX12 89 "MistHeapsModel" "open" "I") kc_factor5_2) (fun _ h9 => h9) rfl (by decide +kernel) rfl rfl (Nat.le_of_ble_eq_true rfl) dX12_factor_49 (fun H locs hP hD hS => ?_)
      have hP : va_P (dC, dI) vwCl [(zo14irriiiiiirriirrrrlriiii m0 th aS aI im (nI a) (nI p0) (nI E) 1 6 aB aT se dn aG aO aN aD bv aY rn kd nu tv), (zaI aS cS 901 fS)] H := hP
      have hD : va_D A [(zo14irriiiiiirriirrrrlriiii m0 th aS aI im (nI a) (nI p0) (nI E) 1 6 aB aT se dn aG aO aN aD bv aY rn kd nu tv), (zaI aS cS 901 fS)] := hD
      refine lv_aload_n hx hb dX12_factor_52 rfl (lv_at hl 1 rfl) ?_
      refine lv_dup hx hb dX12_factor_53 rfl ?_
      refine va_get (D := (dC, dI)) (ci := 14) (v := .int (nI p0)) (C := RX12) (T := TX12) (N := 23) hx hb hts kc_factor5_0 hown hK hP 0 rfl rfl 5 (by decide) (hts (.fieldLink RX12 59 "MistHeapsModel" "spot" "I") kc_factor5_3) (fun _ h9 => h9) rfl dX12_factor_54 ?_
      refine lv_aload_n hx hb dX12_factor_57 rfl (lv_at hl 1 rfl) ?_
      refine va_get (D := (dC, dI)) (ci := 14) (v := .int 1) (C := RX12) (T := TX12) (N := 23) hx hb hts kc_factor5_0 hown hK hP 0 rfl rfl 7 (by decide) (hts (.fieldLink RX12 65 "MistHeapsModel" "isWrong" "Z") kc_factor5_1) (fun _ h9 => h9) rfl dX12_factor_58 ?_
      refine lv_if_eq (tgt := 68) hx hb dX12_factor_61 (by decide) (fun c_108 => absurd c_108 (by decide)) (fun _ => ?_)
      refine lv_iconst (v := 0) hx hb dX12_factor_64 (by decide) ?_
      refine lv_goto (tgt := 69) hx hb dX12_factor_65 (by decide) ?_
      refine lv_iadd hx hb dX12_factor_69 ?_
      refine qi_as (y := nI (p0 + 0)) (nI_add p0 0) ?_
      refine va_put (D := (dC, dI)) (ci := 14) (v := .int (nI (p0 + 0))) (ty := .int) (C := RX12) (T := TX12) (N := 23) hx hb hts kc_factor5_0 tyX12 tyX12_ok nmX12 hown hK hP hD hS 0 rfl rfl 5 (by decide) (hts (.fieldLink RX12 59 "MistHeapsModel" "spot" "I") kc_factor5_3) (fun _ h9 => h9) rfl (by decide +kernel) rfl rfl (Nat.le_of_ble_eq_true rfl) dX12_factor_70 (fun H locs hP hD hS => ?_)
      have hP : va_P (dC, dI) vwCl [(zo14irriiiiiirriirrrrlriiii m0 th aS aI im (nI a) (nI (p0 + 0)) (nI E) 1 6 aB aT se dn aG aO aN aD bv aY rn kd nu tv), (zaI aS cS 901 fS)] H := hP
      have hD : va_D A [(zo14irriiiiiirriirrrrlriiii m0 th aS aI im (nI a) (nI (p0 + 0)) (nI E) 1 6 aB aT se dn aG aO aN aD bv aY rn kd nu tv), (zaI aS cS 901 fS)] := hD
      refine lv_iload_n hx hb dX12_factor_73 rfl (lv_at hl 0 rfl) ?_
      refine lv_bipush (v := 33) hx hb dX12_factor_74 (by decide) ?_
      refine lv_icmp_ne (tgt := 91) hx hb dX12_factor_76 (by decide) (fun _ => ?_) (fun c_109 => absurd c_109 (by decide))
      refine lv_aload_n hx hb dX12_factor_91 rfl (lv_at hl 1 rfl) ?_
      have hPc := hP.sub (ws' := [(zo14irriiiiiirriirrrrlriiii m0 th aS aI im (nI a) (nI (p0 + 0)) (nI E) 1 6 aB aT se dn aG aO aN aD bv aY rn kd nu tv)]) [0] rfl
      have hKc := hK.sub (tys' := []) [] rfl
      refine va_csv (va_runV (As := []) (rest := []) ⟨hx, hb, hml, hown, hts⟩ (c_someW l dC dI m0 aS aI aB aT aG aO aN aD aY th im (nI a) (nI (p0 + 0)) (nI E) 1 6 se dn rn kd nu tv bv) (cwV 0 hts gX12_factor_X12_some rfl rfl rfl hd_yX12_some ⟨Nat.le_of_ble_eq_true rfl, Nat.le_of_ble_eq_true rfl⟩) ⟨fun a U g mk q => by obtain ⟨q0, qP, qK⟩ := q; exact ⟨q0, qP, va_K.moved (u := U) (U := U.calling g mk a) (Vm.Alike.refl U.vm) qK⟩, va_recv hK hP (ci := 14) (q := (RX12, TX12, 23)) (q0 := 0) rfl rfl, fun U hU hW => ⟨rfl, by rw [hU]; exact hPc, va_K.moved hW.alike hKc⟩⟩ rfl rfl hl.1 rfl (lv_room (Nat.le_of_ble_eq_true rfl)) dX12_factor_92 ⟨Nat.le_of_ble_eq_true rfl, Nat.le_of_ble_eq_true rfl⟩).run (fun hw_111 => ?_)
      refine lv_aload_n hx hb dX12_factor_95 rfl (lv_at hl 1 rfl) ?_
      refine lv_bipush (v := 41) hx hb dX12_factor_96 (by decide) ?_
      have hPc := hP.sub (ws' := [(zo14irriiiiiirriirrrrlriiii m0 th aS aI im (nI a) (nI (p0 + 0)) (nI E) 1 6 aB aT se dn aG aO aN aD bv aY rn kd nu tv), (zaI aS cS 901 fS)]) [0, 1] rfl
      have hDc := hD.sub (ws' := [(zo14irriiiiiirriirrrrlriiii m0 th aS aI im (nI a) (nI (p0 + 0)) (nI E) 1 6 aB aT se dn aG aO aN aD bv aY rn kd nu tv), (zaI aS cS 901 fS)]) [0, 1] (by decide) rfl
      have hKc := hK.sub (tys' := [(cS, .int)]) [0] rfl
      have hFc := va_free (wc := [(zo14irriiiiiirriirrrrlriiii m0 th aS aI im (nI a) (nI (p0 + 0)) (nI E) 1 6 aB aT se dn aG aO aN aD bv aY rn kd nu tv), (zaI aS cS 901 fS)]) hD hS hA [0, 1] rfl
      refine va_callv (va_runV (As := [.int 41]) (rest := []) ⟨hx, hb, hml, hown, hts⟩ (c_must l dC dI m0 aS aI aB aT aG aO aN aD aY th im (nI a) (nI (p0 + 0)) (nI E) 1 6 se dn rn kd nu tv bv cS fS a (p0 + 0) E 41 H.size (by omega) (by omega) (by omega) (Or.inr rfl) (by decide)) (cwV 1 hts gX12_factor_X12_must rfl rfl rfl hd_yX12_must ⟨Nat.le_of_ble_eq_true rfl, Nat.le_of_ble_eq_true rfl⟩) ⟨fun a U g mk q => by obtain ⟨q0, q1, qP, qK, qD⟩ := q; exact ⟨q0, q1, qP, va_K.moved (u := U) (U := U.calling g mk a) (Vm.Alike.refl U.vm) qK, qD⟩, va_recv hK hP (ci := 14) (q := (RX12, TX12, 23)) (q0 := 0) rfl rfl, fun U hU hW => ⟨rfl, by rw [hU], by rw [hU]; exact hPc, va_K.moved hW.alike hKc, hDc.weaken (fun _ _ _ _ => trivial)⟩⟩ rfl rfl hl.1 rfl (lv_room (Nat.le_of_ble_eq_true rfl)) dX12_factor_98 ⟨Nat.le_of_ble_eq_true rfl, Nat.le_of_ble_eq_true rfl⟩) hS (fun q _ h => hFc q h) hFc (fun u tC H1 locs htC hvm hw_113 hB hz1 hk1 hS => ?_)
      obtain ⟨sp9_114, wg9_115⟩ := u
      try dsimp only at hw_113 hB
      obtain ⟨hP1, hK1, hD1⟩ := hB
      rw [htC] at hP1
      have hK1 := va_K.moved hvm.symm hK1
      obtain ⟨hP, hD⟩ := va_join (wr := []) (w1 := [(zo14irriiiiiirriirrrrlriiii m0 th aS aI im (nI a) sp9_114 (nI E) wg9_115 6 aB aT se dn aG aO aN aD bv aY rn kd nu tv), (zaI aS cS 901 fS)]) hP hD [0, 1] [] rfl rfl (by decide) (by decide) hk1 hFc hP1 hD1
      have hK := (hK.sub (tys' := []) [] rfl).app hK1
      generalize H1 = H at hP hS ⊢
      have hP : va_P (dC, dI) vwCl [(zo14irriiiiiirriirrrrlriiii m0 th aS aI im (nI a) sp9_114 (nI E) wg9_115 6 aB aT se dn aG aO aN aD bv aY rn kd nu tv), (zaI aS cS 901 fS)] H := hP
      have hD : va_D A [(zo14irriiiiiirriirrrrlriiii m0 th aS aI im (nI a) sp9_114 (nI E) wg9_115 6 aB aT se dn aG aO aN aD bv aY rn kd nu tv), (zaI aS cS 901 fS)] := hD
      have hK : va_K (dC, dI) vwCl [(cS, .int)] s := hK
      obtain ⟨rfl, rfl⟩ : _ ∧ _ := by rcases hw_113 with q | ⟨_, q, _⟩; exact q; exact absurd q (by decide)
      refine lv_aload_n hx hb dX12_factor_101 rfl (lv_at hl 1 rfl) ?_
      refine lv_dup hx hb dX12_factor_102 rfl ?_
      refine va_get (D := (dC, dI)) (ci := 14) (v := .int 6) (C := RX12) (T := TX12) (N := 23) hx hb hts kc_factor5_0 hown hK hP 0 rfl rfl 8 (by decide) (hts (.fieldLink RX12 89 "MistHeapsModel" "open" "I") kc_factor5_2) (fun _ h9 => h9) rfl dX12_factor_103 ?_
      refine lv_iconst (v := 1) hx hb dX12_factor_106 (by decide) ?_
      refine lv_isub hx hb dX12_factor_107 ?_
      refine qi_as (y := 5) (by decide) ?_
      refine va_put (D := (dC, dI)) (ci := 14) (v := .int 5) (ty := .int) (C := RX12) (T := TX12) (N := 23) hx hb hts kc_factor5_0 tyX12 tyX12_ok nmX12 hown hK hP hD hS 0 rfl rfl 8 (by decide) (hts (.fieldLink RX12 89 "MistHeapsModel" "open" "I") kc_factor5_2) (fun _ h9 => h9) rfl (by decide +kernel) rfl rfl (Nat.le_of_ble_eq_true rfl) dX12_factor_108 (fun H locs hP hD hS => ?_)
      have hP : va_P (dC, dI) vwCl [(zo14irriiiiiirriirrrrlriiii m0 th aS aI im (nI a) (nI (p0 + 0)) (nI E) 1 5 aB aT se dn aG aO aN aD bv aY rn kd nu tv), (zaI aS cS 901 fS)] H := hP
      have hD : va_D A [(zo14irriiiiiirriirrrrlriiii m0 th aS aI im (nI a) (nI (p0 + 0)) (nI E) 1 5 aB aT se dn aG aO aN aD bv aY rn kd nu tv), (zaI aS cS 901 fS)] := hD
      rw [hQ]
      have hP9 := hP.sub (ws' := [(zo14irriiiiiirriirrrrlriiii m0 th aS aI im (nI a) (nI (p0 + 0)) (nI E) 1 5 aB aT se dn aG aO aN aD bv aY rn kd nu tv), (zaI aS cS 901 fS)]) [0, 1] rfl
      have hD9 := hD.sub (ws' := [(zo14irriiiiiirriirrrrlriiii m0 th aS aI im (nI a) (nI (p0 + 0)) (nI E) 1 5 aB aT se dn aG aO aN aD bv aY rn kd nu tv), (zaI aS cS 901 fS)]) [0, 1] (by decide) rfl
      have hK9 := hK.sub (tys' := [(cS, .int)]) [0] rfl
      exact W.vret hx hb hr (fun tQ htQ hWQ => ⟨⟨(fS, (nI (p0 + 0)), 1), rfl, ⟨p0 + 0, k, rfl, by omega, by omega, PF.rf, Or.inl rfl⟩, by rw [htQ]; exact hP9, va_K.moved hWQ.alike hK9, hD9⟩, hS.F htQ⟩) hS.2.2 dX12_factor_111

theorem kc_every5_0 : ∀ w ∈ wsX120, w ∈ wsX12_every := fun w h => List.mem_cons_of_mem _ (gin_wsX120 w h)
theorem kc_every5_1 : (.fieldLink RX12 65 "MistHeapsModel" "isWrong" "Z" : Cond) ∈ wsX12_every := kc_of 1147 rfl rfl rfl
theorem kc_every5_2 : (.fieldLink RX12 59 "MistHeapsModel" "spot" "I" : Cond) ∈ wsX12_every := kc_of 1145 rfl rfl rfl
set_option maxHeartbeats 4000000 in
set_option maxRecDepth 100000 in
theorem c_every5 (l : Launch) (dC : Nat → ClassId) (dI : Nat → Nat → Nat) (sK sV : Nat → Nat) (m0 aS aI aB aT aG aO aN aD aY : Nat) (th im ac sp en wg op se dn rn kd nu tv : Int32) (bv : Int64) (cS : ClassId) (fS : Nat → Int32) (a p0 E k d : Nat) (sz : Nat) (gI : PI fS a k d p0 E) : Met l yX12_every wsX12_every ({ frames := 6, cells := 0, slots := 0, locals := 131 } : Room) (va_Pc [.ref m0] (fun U => U.heap.size = sz ∧ va_P (dC, dI) vwCl [(zo14irriiiiiirriirrrrlriiii m0 th aS aI im (nI a) (nI p0) (nI E) 0 5 aB aT se dn aG aO aN aD bv aY rn kd nu tv), (zaI aS cS 901 fS)] U.heap ∧ va_K (dC, dI) vwCl [(cS, .int)] U ∧ va_D (fun _ => True) [(zo14irriiiiiirriirrrrlriiii m0 th aS aI im (nI a) (nI p0) (nI E) 0 5 aB aT se dn aG aO aN aD bv aY rn kd nu tv), (zaI aS cS 901 fS)] ∧ Gs sK sV (va_A [(zo14irriiiiiirriirrrrlriiii m0 th aS aI im (nI a) (nI p0) (nI E) 0 5 aB aT se dn aG aO aN aD bv aY rn kd nu tv), (zaI aS cS 901 fS)] sz) U)) (va_Qv (fun (u : (Nat → Int32) × (Int32) × (Int32)) => match u with | (fS9, sp9, wg9) => ∃ p9 k9 : Nat, sp9 = nI p9 ∧ p0 ≤ p9 ∧ p9 ≤ E ∧ PF a fS fS9 ∧ (wg9 = 1 ∨ (wg9 = 0 ∧ p0 + 3 ≤ p9 ∧ PI fS9 a k9 (d + 1) p9 E ∧ k9 + p0 ≤ k + p9))) (fun (u : (Nat → Int32) × (Int32) × (Int32)) (t : State) => match u with | (fS9, sp9, wg9) => va_P (dC, dI) vwCl [(zo14irriiiiiirriirrrrlriiii m0 th aS aI im (nI a) sp9 (nI E) wg9 5 aB aT se dn aG aO aN aD bv aY rn kd nu tv), (zaI aS cS 901 fS9)] t.heap ∧ va_K (dC, dI) vwCl [(cS, .int)] t ∧ va_D (va_A [(zo14irriiiiiirriirrrrlriiii m0 th aS aI im (nI a) (nI p0) (nI E) 0 5 aB aT se dn aG aO aN aD bv aY rn kd nu tv), (zaI aS cS 901 fS)] sz) [(zo14irriiiiiirriirrrrlriiii m0 th aS aI im (nI a) sp9 (nI E) wg9 5 aB aT se dn aG aO aN aD bv aY rn kd nu tv), (zaI aS cS 901 fS9)]) (va_A [(zo14irriiiiiirriirrrrlriiii m0 th aS aI im (nI a) (nI p0) (nI E) 0 5 aB aT se dn aG aO aN aD bv aY rn kd nu tv), (zaI aS cS 901 fS)] sz)) 0 0 (va_A [(zo14irriiiiiirriirrrrlriiii m0 th aS aI im (nI a) (nI p0) (nI E) 0 5 aB aT se dn aG aO aN aD bv aY rn kd nu tv), (zaI aS cS 901 fS)] sz) := by
  refine met_ofQ (cc := cX12_every) (maxL := 1) (ret := none) (by decide) rfl ?_
  intro p e s m args below meth c s₁ Q B hml hv hQ
  obtain ⟨rfl, hsz, hP, hK, hD0, hE⟩ := hv
  have hx := B.exec
  have hb := B.bytes
  have hr := B.returns
  have hts := atoms_spec (ws := wsX12_every) B.pre
  have hown : s.vm.findClass RX12 = some m.cls := findClass_of_methodNamed B.named
  have hlocks := B.notSynchronized
  subst hsz
  have hD := hD0.self (sz := s.heap.size)
  generalize hAe : va_A [(zo14irriiiiiirriirrrrlriiii m0 th aS aI im (nI a) (nI p0) (nI E) 0 5 aB aT se dn aG aO aN aD bv aY rn kd nu tv), (zaI aS cS 901 fS)] s.heap.size = A at hD hQ hE ⊢
  have hA : ∀ q : Nat, s.heap.size ≤ q → A q := fun q h => by rw [← hAe]; exact Or.inr h
  have hS : va_S A s.heap s.heap [] := va_S.rf
  have hl := lv_entry [.ref m0] (n := 1) (Nat.le_of_ble_eq_true rfl)
  rw [lg_entry_eq]
  generalize (lg_sl [.ref m0] ++ List.replicate (1 - (lg_sl [.ref m0]).length) Slot.unset).toArray = ls at hl ⊢
  generalize hag : ([.ref m0] : List Value).toArray = args at hts hQ ⊢
  have hl : lv_has ls 1 [(0, .ref m0)] := hl
  obtain ⟨H, hH⟩ : ∃ H : Heap, H = s.heap := ⟨_, rfl⟩
  rw [← hH] at hP
  rw [← hH]
  have hS : va_S A s.heap H [] := by rw [hH]; exact hS
  obtain ⟨locs, hlo⟩ : ∃ L : List Loc, L = [] := ⟨_, rfl⟩
  rw [← hlo] at hS
  rw [← hlo]
  clear hH hlo
  obtain ⟨ga, gp, gE, zk, gkp, gd, gs⟩ := id gI
  refine lv_aload_n hx hb dX12_every_0 rfl (lv_at hl 0 rfl) ?_
  have hPc := hP.sub (ws' := [(zo14irriiiiiirriirrrrlriiii m0 th aS aI im (nI a) (nI p0) (nI E) 0 5 aB aT se dn aG aO aN aD bv aY rn kd nu tv), (zaI aS cS 901 fS)]) [0, 1] rfl
  have hDc := hD.sub (ws' := [(zo14irriiiiiirriirrrrlriiii m0 th aS aI im (nI a) (nI p0) (nI E) 0 5 aB aT se dn aG aO aN aD bv aY rn kd nu tv), (zaI aS cS 901 fS)]) [0, 1] (by decide) rfl
  have hKc := hK.sub (tys' := [(cS, .int)]) [0] rfl
  have hFc := va_free (wc := [(zo14irriiiiiirriirrrrlriiii m0 th aS aI im (nI a) (nI p0) (nI E) 0 5 aB aT se dn aG aO aN aD bv aY rn kd nu tv), (zaI aS cS 901 fS)]) hD hS hA [0, 1] rfl
  refine va_callv (va_runV (As := []) (rest := []) ⟨hx, hb, hml, hown, hts⟩ (c_factor5 l dC dI sK sV m0 aS aI aB aT aG aO aN aD aY th im (nI a) (nI p0) (nI E) 0 5 se dn rn kd nu tv bv cS fS a p0 E k d H.size ((gI).mono (by omega) (by omega))) (cwV 0 hts gX12_every_X12_factor rfl rfl rfl hd_yX12_factor ⟨Nat.le_of_ble_eq_true rfl, Nat.le_of_ble_eq_true rfl⟩) ⟨fun a U g mk q => by obtain ⟨q0, q1, qP, qK, qD, qhE⟩ := q; exact ⟨q0, q1, qP, va_K.moved (u := U) (U := U.calling g mk a) (Vm.Alike.refl U.vm) qK, qD, qhE.same rfl rfl⟩, va_recv hK hP (ci := 14) (q := (RX12, TX12, 23)) (q0 := 0) rfl rfl, fun U hU hW => ⟨rfl, by rw [hU], by rw [hU]; exact hPc, va_K.moved hW.alike hKc, hDc.weaken (fun _ _ _ _ => trivial), hE.call hS hU hW (fun q h => hFc q h)⟩⟩ rfl rfl hl.1 rfl (lv_room (Nat.le_of_ble_eq_true rfl)) dX12_every_1 ⟨Nat.le_of_ble_eq_true rfl, Nat.le_of_ble_eq_true rfl⟩) hS (fun q _ h => hFc q h) hFc (fun u tC H1 locs htC hvm hw_2 hB hz1 hk1 hS => ?_)
  obtain ⟨fS9_3, sp9_4, wg9_5⟩ := u
  try dsimp only at hw_2 hB
  obtain ⟨hP1, hK1, hD1⟩ := hB
  rw [htC] at hP1
  have hK1 := va_K.moved hvm.symm hK1
  obtain ⟨hP, hD⟩ := va_join (wr := []) (w1 := [(zo14irriiiiiirriirrrrlriiii m0 th aS aI im (nI a) sp9_4 (nI E) wg9_5 5 aB aT se dn aG aO aN aD bv aY rn kd nu tv), (zaI aS cS 901 fS9_3)]) hP hD [0, 1] [] rfl rfl (by decide) (by decide) hk1 hFc hP1 hD1
  have hK := (hK.sub (tys' := []) [] rfl).app hK1
  generalize H1 = H at hP hS ⊢
  have hP : va_P (dC, dI) vwCl [(zo14irriiiiiirriirrrrlriiii m0 th aS aI im (nI a) sp9_4 (nI E) wg9_5 5 aB aT se dn aG aO aN aD bv aY rn kd nu tv), (zaI aS cS 901 fS9_3)] H := hP
  have hD : va_D A [(zo14irriiiiiirriirrrrlriiii m0 th aS aI im (nI a) sp9_4 (nI E) wg9_5 5 aB aT se dn aG aO aN aD bv aY rn kd nu tv), (zaI aS cS 901 fS9_3)] := hD
  have hK : va_K (dC, dI) vwCl [(cS, .int)] s := hK
  obtain ⟨p_6, k_7, rfl, h_9, h_10, hF_11, q9⟩ := hw_2
  rcases q9 with rfl | ⟨rfl, h_12, hI_13, h_14⟩
  · skip
    have L4 : ∀ (nF : Nat) (p1 : Nat) (k1 : Nat) (w1 : Int32) (f1 : Nat → Int32), E - p1 < nF → (p0 ≤ p1 ∧ p1 ≤ E) → (PF a fS f1) → (w1 = 1 ∨ (w1 = 0 ∧ p0 + 3 ≤ p1 ∧ PI f1 a k1 (d + 1) p1 E ∧ k1 + p0 ≤ k + p1)) → ∀ (H : Heap) (locs : List Loc), va_K (dC, dI) vwCl [(cS, .int)] s → va_P (dC, dI) vwCl [(zo14irriiiiiirriirrrrlriiii m0 th aS aI im (nI a) (nI p1) (nI E) w1 5 aB aT se dn aG aO aN aD bv aY rn kd nu tv), (zaI aS cS 901 f1)] H → va_D A [(zo14irriiiiiirriirrrrlriiii m0 th aS aI im (nI a) (nI p1) (nI E) w1 5 aB aT se dn aG aO aN aD bv aY rn kd nu tv), (zaI aS cS 901 f1)] → va_S A s.heap H locs → ∀ (ls : Array Slot), lv_has ls 1 [(0, .ref m0)] → W p l e ({ frames := 6, cells := 0, slots := 0, locals := 131 } : Room) s m args below meth c H locs 0 0 Q (F0 m 4 ls []) := by
      intro nF
      induction nF with
      | zero => intro p1 k1 w1 f1 hm; exact absurd hm (Nat.not_lt_zero _)
      | succ nF ih4 =>
        intro p1 k1 w1 f1 hm h1 hF hw1 H locs hK hP hD hS ls hl
        obtain ⟨h1a, h1b⟩ := h1
        rcases hw1 with rfl | ⟨rfl, h3, hI, h4⟩
        · skip
          refine lv_aload_n hx hb dX12_every_4 rfl (lv_at hl 0 rfl) ?_
          refine va_get (D := (dC, dI)) (ci := 14) (v := .int 1) (C := RX12) (T := TX12) (N := 23) hx hb hts kc_every5_0 hown hK hP 0 rfl rfl 7 (by decide) (hts (.fieldLink RX12 65 "MistHeapsModel" "isWrong" "Z") kc_every5_1) (fun _ h9 => h9) rfl dX12_every_5 ?_
          refine lv_if_ne (tgt := 43) hx hb dX12_every_8 (by decide) (fun _ => ?_) (fun c_15 => absurd c_15 (by decide))
          rw [hQ]
          have hP9 := hP.sub (ws' := [(zo14irriiiiiirriirrrrlriiii m0 th aS aI im (nI a) (nI p1) (nI E) 1 5 aB aT se dn aG aO aN aD bv aY rn kd nu tv), (zaI aS cS 901 f1)]) [0, 1] rfl
          have hD9 := hD.sub (ws' := [(zo14irriiiiiirriirrrrlriiii m0 th aS aI im (nI a) (nI p1) (nI E) 1 5 aB aT se dn aG aO aN aD bv aY rn kd nu tv), (zaI aS cS 901 f1)]) [0, 1] (by decide) rfl
          have hK9 := hK.sub (tys' := [(cS, .int)]) [0] rfl
          exact W.vret hx hb hr (fun tQ htQ hWQ => ⟨⟨(f1, (nI p1), 1), rfl, ⟨p1, k, rfl, by omega, by omega, hF, Or.inl rfl⟩, by rw [htQ]; exact hP9, va_K.moved hWQ.alike hK9, hD9⟩, hS.F htQ⟩) hS.2.2 dX12_every_43
        · skip
          have k5 := hI.2.2.2.2.1
          refine lv_aload_n hx hb dX12_every_4 rfl (lv_at hl 0 rfl) ?_
          refine va_get (D := (dC, dI)) (ci := 14) (v := .int 0) (C := RX12) (T := TX12) (N := 23) hx hb hts kc_every5_0 hown hK hP 0 rfl rfl 7 (by decide) (hts (.fieldLink RX12 65 "MistHeapsModel" "isWrong" "Z") kc_every5_1) (fun _ h9 => h9) rfl dX12_every_5 ?_
          refine lv_if_ne (tgt := 43) hx hb dX12_every_8 (by decide) (fun c_16 => absurd c_16 (by decide)) (fun _ => ?_)
          refine lv_aload_n hx hb dX12_every_11 rfl (lv_at hl 0 rfl) ?_
          have hPc := hP.sub (ws' := [(zo14irriiiiiirriirrrrlriiii m0 th aS aI im (nI a) (nI p1) (nI E) 0 5 aB aT se dn aG aO aN aD bv aY rn kd nu tv), (zaI aS cS 901 f1)]) [0, 1] rfl
          have hKc := hK.sub (tys' := [(cS, .int)]) [0] rfl
          refine vp_callSi (va_runV (As := []) (rest := []) ⟨hx, hb, hml, hown, hts⟩ (c_here l dC dI m0 aS aI aB aT aG aO aN aD aY th im (nI a) (nI p1) (nI E) 0 5 se dn rn kd nu tv bv cS f1 a p1 E (by omega) (by omega) (by omega)) (cwV 0 hts gX12_every_X12_here rfl rfl rfl hd_yX12_here ⟨Nat.le_of_ble_eq_true rfl, Nat.le_of_ble_eq_true rfl⟩) ⟨fun a U g mk q => by obtain ⟨q0, qP, qK⟩ := q; exact ⟨q0, qP, va_K.moved (u := U) (U := U.calling g mk a) (Vm.Alike.refl U.vm) qK⟩, va_recv hK hP (ci := 14) (q := (RX12, TX12, 23)) (q0 := 0) rfl rfl, fun U hU hW => ⟨rfl, by rw [hU]; exact hPc, va_K.moved hW.alike hKc⟩⟩ rfl rfl hl.1 rfl (lv_room (Nat.le_of_ble_eq_true rfl)) dX12_every_12 ⟨Nat.le_of_ble_eq_true rfl, Nat.le_of_ble_eq_true rfl⟩).run (fun r_17 hw_18 => ?_)
          refine lv_bipush (v := 38) hx hb dX12_every_15 (by decide) ?_
          refine lv_icmp_ne (tgt := 43) hx hb dX12_every_17 (by decide) (fun c_19 => ?_) (fun c_19 => ?_)
          · skip
            rw [hQ]
            have hP9 := hP.sub (ws' := [(zo14irriiiiiirriirrrrlriiii m0 th aS aI im (nI a) (nI p1) (nI E) 0 5 aB aT se dn aG aO aN aD bv aY rn kd nu tv), (zaI aS cS 901 f1)]) [0, 1] rfl
            have hD9 := hD.sub (ws' := [(zo14irriiiiiirriirrrrlriiii m0 th aS aI im (nI a) (nI p1) (nI E) 0 5 aB aT se dn aG aO aN aD bv aY rn kd nu tv), (zaI aS cS 901 f1)]) [0, 1] (by decide) rfl
            have hK9 := hK.sub (tys' := [(cS, .int)]) [0] rfl
            exact W.vret hx hb hr (fun tQ htQ hWQ => ⟨⟨(f1, (nI p1), 0), rfl, ⟨p1, k1, rfl, by omega, by omega, hF, Or.inr ⟨rfl, by omega, hI, by omega⟩⟩, by rw [htQ]; exact hP9, va_K.moved hWQ.alike hK9, hD9⟩, hS.F htQ⟩) hS.2.2 dX12_every_43
          · skip
            have hlt : p1 < E := hv_lt (f := f1) (by rw [← hw_18, c_19]; decide)
            refine lv_aload_n hx hb dX12_every_20 rfl (lv_at hl 0 rfl) ?_
            refine lv_dup hx hb dX12_every_21 rfl ?_
            refine va_get (D := (dC, dI)) (ci := 14) (v := .int (nI p1)) (C := RX12) (T := TX12) (N := 23) hx hb hts kc_every5_0 hown hK hP 0 rfl rfl 5 (by decide) (hts (.fieldLink RX12 59 "MistHeapsModel" "spot" "I") kc_every5_2) (fun _ h9 => h9) rfl dX12_every_22 ?_
            refine lv_iconst (v := 1) hx hb dX12_every_25 (by decide) ?_
            refine lv_iadd hx hb dX12_every_26 ?_
            refine qi_as (y := nI (p1 + 1)) (nI_add p1 1) ?_
            refine va_put (D := (dC, dI)) (ci := 14) (v := .int (nI (p1 + 1))) (ty := .int) (C := RX12) (T := TX12) (N := 23) hx hb hts kc_every5_0 tyX12 tyX12_ok nmX12 hown hK hP hD hS 0 rfl rfl 5 (by decide) (hts (.fieldLink RX12 59 "MistHeapsModel" "spot" "I") kc_every5_2) (fun _ h9 => h9) rfl (by decide +kernel) rfl rfl (Nat.le_of_ble_eq_true rfl) dX12_every_27 (fun H locs hP hD hS => ?_)
            have hP : va_P (dC, dI) vwCl [(zo14irriiiiiirriirrrrlriiii m0 th aS aI im (nI a) (nI (p1 + 1)) (nI E) 0 5 aB aT se dn aG aO aN aD bv aY rn kd nu tv), (zaI aS cS 901 f1)] H := hP
            have hD : va_D A [(zo14irriiiiiirriirrrrlriiii m0 th aS aI im (nI a) (nI (p1 + 1)) (nI E) 0 5 aB aT se dn aG aO aN aD bv aY rn kd nu tv), (zaI aS cS 901 f1)] := hD
            refine lv_aload_n hx hb dX12_every_30 rfl (lv_at hl 0 rfl) ?_
            have hPc := hP.sub (ws' := [(zo14irriiiiiirriirrrrlriiii m0 th aS aI im (nI a) (nI (p1 + 1)) (nI E) 0 5 aB aT se dn aG aO aN aD bv aY rn kd nu tv), (zaI aS cS 901 f1)]) [0, 1] rfl
            have hDc := hD.sub (ws' := [(zo14irriiiiiirriirrrrlriiii m0 th aS aI im (nI a) (nI (p1 + 1)) (nI E) 0 5 aB aT se dn aG aO aN aD bv aY rn kd nu tv), (zaI aS cS 901 f1)]) [0, 1] (by decide) rfl
            have hKc := hK.sub (tys' := [(cS, .int)]) [0] rfl
            have hFc := va_free (wc := [(zo14irriiiiiirriirrrrlriiii m0 th aS aI im (nI a) (nI (p1 + 1)) (nI E) 0 5 aB aT se dn aG aO aN aD bv aY rn kd nu tv), (zaI aS cS 901 f1)]) hD hS hA [0, 1] rfl
            refine va_callv (va_runV (As := []) (rest := []) ⟨hx, hb, hml, hown, hts⟩ (c_factor5 l dC dI sK sV m0 aS aI aB aT aG aO aN aD aY th im (nI a) (nI (p1 + 1)) (nI E) 0 5 se dn rn kd nu tv bv cS f1 a (p1 + 1) E k1 (d + 1) H.size ((hI).mono (by omega) (by omega))) (cwV 0 hts gX12_every_X12_factor rfl rfl rfl hd_yX12_factor ⟨Nat.le_of_ble_eq_true rfl, Nat.le_of_ble_eq_true rfl⟩) ⟨fun a U g mk q => by obtain ⟨q0, q1, qP, qK, qD, qhE⟩ := q; exact ⟨q0, q1, qP, va_K.moved (u := U) (U := U.calling g mk a) (Vm.Alike.refl U.vm) qK, qD, qhE.same rfl rfl⟩, va_recv hK hP (ci := 14) (q := (RX12, TX12, 23)) (q0 := 0) rfl rfl, fun U hU hW => ⟨rfl, by rw [hU], by rw [hU]; exact hPc, va_K.moved hW.alike hKc, hDc.weaken (fun _ _ _ _ => trivial), hE.call hS hU hW (fun q h => hFc q h)⟩⟩ rfl rfl hl.1 rfl (lv_room (Nat.le_of_ble_eq_true rfl)) dX12_every_31 ⟨Nat.le_of_ble_eq_true rfl, Nat.le_of_ble_eq_true rfl⟩) hS (fun q _ h => hFc q h) hFc (fun u tC H1 locs htC hvm hw_21 hB hz1 hk1 hS => ?_)
            obtain ⟨fS9_22, sp9_23, wg9_24⟩ := u
            try dsimp only at hw_21 hB
            obtain ⟨hP1, hK1, hD1⟩ := hB
            rw [htC] at hP1
            have hK1 := va_K.moved hvm.symm hK1
            obtain ⟨hP, hD⟩ := va_join (wr := []) (w1 := [(zo14irriiiiiirriirrrrlriiii m0 th aS aI im (nI a) sp9_23 (nI E) wg9_24 5 aB aT se dn aG aO aN aD bv aY rn kd nu tv), (zaI aS cS 901 fS9_22)]) hP hD [0, 1] [] rfl rfl (by decide) (by decide) hk1 hFc hP1 hD1
            have hK := (hK.sub (tys' := []) [] rfl).app hK1
            generalize H1 = H at hP hS ⊢
            have hP : va_P (dC, dI) vwCl [(zo14irriiiiiirriirrrrlriiii m0 th aS aI im (nI a) sp9_23 (nI E) wg9_24 5 aB aT se dn aG aO aN aD bv aY rn kd nu tv), (zaI aS cS 901 fS9_22)] H := hP
            have hD : va_D A [(zo14irriiiiiirriirrrrlriiii m0 th aS aI im (nI a) sp9_23 (nI E) wg9_24 5 aB aT se dn aG aO aN aD bv aY rn kd nu tv), (zaI aS cS 901 fS9_22)] := hD
            have hK : va_K (dC, dI) vwCl [(cS, .int)] s := hK
            obtain ⟨p_25, k_26, rfl, h_28, h_29, hF_30, q9⟩ := hw_21
            rcases q9 with rfl | ⟨rfl, h_31, hI_32, h_33⟩
            · skip
              refine lv_aload_n hx hb dX12_every_34 rfl (lv_at hl 0 rfl) ?_
              refine lv_bipush (v := (-2)) hx hb dX12_every_35 (by decide) ?_
              have hPc := hP.sub (ws' := [(zo14irriiiiiirriirrrrlriiii m0 th aS aI im (nI a) (nI p_25) (nI E) 1 5 aB aT se dn aG aO aN aD bv aY rn kd nu tv)]) [0] rfl
              have hKc := hK.sub (tys' := []) [] rfl
              refine va_csv (va_runV (As := [.int (-2)]) (rest := []) ⟨hx, hb, hml, hown, hts⟩ (c_emitsW l dC dI m0 aS aI aB aT aG aO aN aD aY th im (nI a) (nI p_25) (nI E) 1 5 se dn rn kd nu tv bv (-2)) (cwV 1 hts gX12_every_X12_emits rfl rfl rfl hd_yX12_emits ⟨Nat.le_of_ble_eq_true rfl, Nat.le_of_ble_eq_true rfl⟩) ⟨fun a U g mk q => by obtain ⟨q0, qP, qK⟩ := q; exact ⟨q0, qP, va_K.moved (u := U) (U := U.calling g mk a) (Vm.Alike.refl U.vm) qK⟩, va_recv hK hP (ci := 14) (q := (RX12, TX12, 23)) (q0 := 0) rfl rfl, fun U hU hW => ⟨rfl, by rw [hU]; exact hPc, va_K.moved hW.alike hKc⟩⟩ rfl rfl hl.1 rfl (lv_room (Nat.le_of_ble_eq_true rfl)) dX12_every_37 ⟨Nat.le_of_ble_eq_true rfl, Nat.le_of_ble_eq_true rfl⟩).run (fun hw_35 => ?_)
              refine lv_goto (tgt := 4) hx hb dX12_every_40 (by decide) ?_
              exact ih4 (p_25) (k) (1) (fS9_22) (by omega) (by omega) ((hF).tr hF_30) (Or.inl rfl) _ _ (hK.sub [0] rfl) (hP.sub [0, 1] rfl) (hD.sub [0, 1] (by decide) rfl) hS ls (lv_sub hl [0] rfl)
            · skip
              have k5 := hI_32.2.2.2.2.1
              refine lv_aload_n hx hb dX12_every_34 rfl (lv_at hl 0 rfl) ?_
              refine lv_bipush (v := (-2)) hx hb dX12_every_35 (by decide) ?_
              have hPc := hP.sub (ws' := [(zo14irriiiiiirriirrrrlriiii m0 th aS aI im (nI a) (nI p_25) (nI E) 0 5 aB aT se dn aG aO aN aD bv aY rn kd nu tv), (zaI aS cS 901 fS9_22)]) [0, 1] rfl
              have hDc := hD.sub (ws' := [(zo14irriiiiiirriirrrrlriiii m0 th aS aI im (nI a) (nI p_25) (nI E) 0 5 aB aT se dn aG aO aN aD bv aY rn kd nu tv), (zaI aS cS 901 fS9_22)]) [0, 1] (by decide) rfl
              have hKc := hK.sub (tys' := [(cS, .int)]) [0] rfl
              have hFc := va_free (wc := [(zo14irriiiiiirriirrrrlriiii m0 th aS aI im (nI a) (nI p_25) (nI E) 0 5 aB aT se dn aG aO aN aD bv aY rn kd nu tv), (zaI aS cS 901 fS9_22)]) hD hS hA [0, 1] rfl
              refine va_callv (va_runV (As := [.int (-2)]) (rest := []) ⟨hx, hb, hml, hown, hts⟩ (c_emits l dC dI m0 aS aI aB aT aG aO aN aD aY th im (nI a) (nI p_25) (nI E) 0 5 se dn rn kd nu tv bv cS fS9_22 a k_26 (-2) H.size (ga) ((hI_32).2.2.2.1) (by have := (hI_32).2.2.2.2.1; omega)) (cwV 1 hts gX12_every_X12_emits rfl rfl rfl hd_yX12_emits ⟨Nat.le_of_ble_eq_true rfl, Nat.le_of_ble_eq_true rfl⟩) ⟨fun a U g mk q => by obtain ⟨q0, q1, qP, qK, qD⟩ := q; exact ⟨q0, q1, qP, va_K.moved (u := U) (U := U.calling g mk a) (Vm.Alike.refl U.vm) qK, qD⟩, va_recv hK hP (ci := 14) (q := (RX12, TX12, 23)) (q0 := 0) rfl rfl, fun U hU hW => ⟨rfl, by rw [hU], by rw [hU]; exact hPc, va_K.moved hW.alike hKc, hDc.weaken (fun _ _ _ _ => trivial)⟩⟩ rfl rfl hl.1 rfl (lv_room (Nat.le_of_ble_eq_true rfl)) dX12_every_37 ⟨Nat.le_of_ble_eq_true rfl, Nat.le_of_ble_eq_true rfl⟩) hS (fun q _ h => hFc q h) hFc (fun u tC H1 locs htC hvm hw_37 hB hz1 hk1 hS => ?_)
              obtain ⟨fS9_38, rfl⟩ : ∃ z, z = u := ⟨_, rfl⟩
              try dsimp only at hw_37 hB
              obtain ⟨hP1, hK1, hD1⟩ := hB
              rw [htC] at hP1
              have hK1 := va_K.moved hvm.symm hK1
              obtain ⟨hP, hD⟩ := va_join (wr := []) (w1 := [(zo14irriiiiiirriirrrrlriiii m0 th aS aI im (nI a) (nI p_25) (nI E) 0 5 aB aT se dn aG aO aN aD bv aY rn kd nu tv), (zaI aS cS 901 fS9_38)]) hP hD [0, 1] [] rfl rfl (by decide) (by decide) hk1 hFc hP1 hD1
              have hK := (hK.sub (tys' := []) [] rfl).app hK1
              generalize H1 = H at hP hS ⊢
              have hP : va_P (dC, dI) vwCl [(zo14irriiiiiirriirrrrlriiii m0 th aS aI im (nI a) (nI p_25) (nI E) 0 5 aB aT se dn aG aO aN aD bv aY rn kd nu tv), (zaI aS cS 901 fS9_38)] H := hP
              have hD : va_D A [(zo14irriiiiiirriirrrrlriiii m0 th aS aI im (nI a) (nI p_25) (nI E) 0 5 aB aT se dn aG aO aN aD bv aY rn kd nu tv), (zaI aS cS 901 fS9_38)] := hD
              have hK : va_K (dC, dI) vwCl [(cS, .int)] s := hK
              obtain rfl : fS9_38 = emt fS9_22 a k_26 (-2) := by rcases hw_37 with ⟨q, _⟩ | ⟨_, q⟩; exact absurd rfl q; exact q
              have hI_40 : PI (emt fS9_22 a k_26 (-2)) a (k_26 + 1) (((d + 1) + 1) - 1) p_25 E := ((hI_32).mono (by omega) (by omega)).em (by omega) (by omega) (stepd_both (by omega))
              have hF_41 : PF a fS (emt fS9_22 a k_26 (-2)) := ((hF).tr hF_30).tr (PF_emt (k := k_26) (x := (-2)) ga (by have := (hI_32).2.2.2.2.1; omega))
              refine lv_goto (tgt := 4) hx hb dX12_every_40 (by decide) ?_
              exact ih4 (p_25) ((k_26 + 1)) (0) (emt fS9_22 a k_26 (-2)) (by omega) (by omega) (hF_41) (Or.inr ⟨rfl, by omega, hI_40, by omega⟩) _ _ (hK.sub [0] rfl) (hP.sub [0, 1] rfl) (hD.sub [0, 1] (by decide) rfl) hS ls (lv_sub hl [0] rfl)
    exact L4 _ (p_6) (k) (1) (fS9_3) (Nat.lt_succ_self _) (by omega) ((PF.rf).tr hF_11) (Or.inl rfl) _ _ (hK.sub [0] rfl) (hP.sub [0, 1] rfl) (hD.sub [0, 1] (by decide) rfl) hS ls (lv_sub hl [0] rfl)
  · skip
    have k5 := hI_13.2.2.2.2.1
    have L4 : ∀ (nF : Nat) (p1 : Nat) (k1 : Nat) (w1 : Int32) (f1 : Nat → Int32), E - p1 < nF → (p0 ≤ p1 ∧ p1 ≤ E) → (PF a fS f1) → (w1 = 1 ∨ (w1 = 0 ∧ p0 + 3 ≤ p1 ∧ PI f1 a k1 (d + 1) p1 E ∧ k1 + p0 ≤ k + p1)) → ∀ (H : Heap) (locs : List Loc), va_K (dC, dI) vwCl [(cS, .int)] s → va_P (dC, dI) vwCl [(zo14irriiiiiirriirrrrlriiii m0 th aS aI im (nI a) (nI p1) (nI E) w1 5 aB aT se dn aG aO aN aD bv aY rn kd nu tv), (zaI aS cS 901 f1)] H → va_D A [(zo14irriiiiiirriirrrrlriiii m0 th aS aI im (nI a) (nI p1) (nI E) w1 5 aB aT se dn aG aO aN aD bv aY rn kd nu tv), (zaI aS cS 901 f1)] → va_S A s.heap H locs → ∀ (ls : Array Slot), lv_has ls 1 [(0, .ref m0)] → W p l e ({ frames := 6, cells := 0, slots := 0, locals := 131 } : Room) s m args below meth c H locs 0 0 Q (F0 m 4 ls []) := by
      intro nF
      induction nF with
      | zero => intro p1 k1 w1 f1 hm; exact absurd hm (Nat.not_lt_zero _)
      | succ nF ih4 =>
        intro p1 k1 w1 f1 hm h1 hF hw1 H locs hK hP hD hS ls hl
        obtain ⟨h1a, h1b⟩ := h1
        rcases hw1 with rfl | ⟨rfl, h3, hI, h4⟩
        · skip
          refine lv_aload_n hx hb dX12_every_4 rfl (lv_at hl 0 rfl) ?_
          refine va_get (D := (dC, dI)) (ci := 14) (v := .int 1) (C := RX12) (T := TX12) (N := 23) hx hb hts kc_every5_0 hown hK hP 0 rfl rfl 7 (by decide) (hts (.fieldLink RX12 65 "MistHeapsModel" "isWrong" "Z") kc_every5_1) (fun _ h9 => h9) rfl dX12_every_5 ?_
          refine lv_if_ne (tgt := 43) hx hb dX12_every_8 (by decide) (fun _ => ?_) (fun c_42 => absurd c_42 (by decide))
          rw [hQ]
          have hP9 := hP.sub (ws' := [(zo14irriiiiiirriirrrrlriiii m0 th aS aI im (nI a) (nI p1) (nI E) 1 5 aB aT se dn aG aO aN aD bv aY rn kd nu tv), (zaI aS cS 901 f1)]) [0, 1] rfl
          have hD9 := hD.sub (ws' := [(zo14irriiiiiirriirrrrlriiii m0 th aS aI im (nI a) (nI p1) (nI E) 1 5 aB aT se dn aG aO aN aD bv aY rn kd nu tv), (zaI aS cS 901 f1)]) [0, 1] (by decide) rfl
          have hK9 := hK.sub (tys' := [(cS, .int)]) [0] rfl
          exact W.vret hx hb hr (fun tQ htQ hWQ => ⟨⟨(f1, (nI p1), 1), rfl, ⟨p1, k, rfl, by omega, by omega, hF, Or.inl rfl⟩, by rw [htQ]; exact hP9, va_K.moved hWQ.alike hK9, hD9⟩, hS.F htQ⟩) hS.2.2 dX12_every_43
        · skip
          have k5 := hI.2.2.2.2.1
          refine lv_aload_n hx hb dX12_every_4 rfl (lv_at hl 0 rfl) ?_
          refine va_get (D := (dC, dI)) (ci := 14) (v := .int 0) (C := RX12) (T := TX12) (N := 23) hx hb hts kc_every5_0 hown hK hP 0 rfl rfl 7 (by decide) (hts (.fieldLink RX12 65 "MistHeapsModel" "isWrong" "Z") kc_every5_1) (fun _ h9 => h9) rfl dX12_every_5 ?_
          refine lv_if_ne (tgt := 43) hx hb dX12_every_8 (by decide) (fun c_43 => absurd c_43 (by decide)) (fun _ => ?_)
          refine lv_aload_n hx hb dX12_every_11 rfl (lv_at hl 0 rfl) ?_
          have hPc := hP.sub (ws' := [(zo14irriiiiiirriirrrrlriiii m0 th aS aI im (nI a) (nI p1) (nI E) 0 5 aB aT se dn aG aO aN aD bv aY rn kd nu tv), (zaI aS cS 901 f1)]) [0, 1] rfl
          have hKc := hK.sub (tys' := [(cS, .int)]) [0] rfl
          refine vp_callSi (va_runV (As := []) (rest := []) ⟨hx, hb, hml, hown, hts⟩ (c_here l dC dI m0 aS aI aB aT aG aO aN aD aY th im (nI a) (nI p1) (nI E) 0 5 se dn rn kd nu tv bv cS f1 a p1 E (by omega) (by omega) (by omega)) (cwV 0 hts gX12_every_X12_here rfl rfl rfl hd_yX12_here ⟨Nat.le_of_ble_eq_true rfl, Nat.le_of_ble_eq_true rfl⟩) ⟨fun a U g mk q => by obtain ⟨q0, qP, qK⟩ := q; exact ⟨q0, qP, va_K.moved (u := U) (U := U.calling g mk a) (Vm.Alike.refl U.vm) qK⟩, va_recv hK hP (ci := 14) (q := (RX12, TX12, 23)) (q0 := 0) rfl rfl, fun U hU hW => ⟨rfl, by rw [hU]; exact hPc, va_K.moved hW.alike hKc⟩⟩ rfl rfl hl.1 rfl (lv_room (Nat.le_of_ble_eq_true rfl)) dX12_every_12 ⟨Nat.le_of_ble_eq_true rfl, Nat.le_of_ble_eq_true rfl⟩).run (fun r_44 hw_45 => ?_)
          refine lv_bipush (v := 38) hx hb dX12_every_15 (by decide) ?_
          refine lv_icmp_ne (tgt := 43) hx hb dX12_every_17 (by decide) (fun c_46 => ?_) (fun c_46 => ?_)
          · skip
            rw [hQ]
            have hP9 := hP.sub (ws' := [(zo14irriiiiiirriirrrrlriiii m0 th aS aI im (nI a) (nI p1) (nI E) 0 5 aB aT se dn aG aO aN aD bv aY rn kd nu tv), (zaI aS cS 901 f1)]) [0, 1] rfl
            have hD9 := hD.sub (ws' := [(zo14irriiiiiirriirrrrlriiii m0 th aS aI im (nI a) (nI p1) (nI E) 0 5 aB aT se dn aG aO aN aD bv aY rn kd nu tv), (zaI aS cS 901 f1)]) [0, 1] (by decide) rfl
            have hK9 := hK.sub (tys' := [(cS, .int)]) [0] rfl
            exact W.vret hx hb hr (fun tQ htQ hWQ => ⟨⟨(f1, (nI p1), 0), rfl, ⟨p1, k1, rfl, by omega, by omega, hF, Or.inr ⟨rfl, by omega, hI, by omega⟩⟩, by rw [htQ]; exact hP9, va_K.moved hWQ.alike hK9, hD9⟩, hS.F htQ⟩) hS.2.2 dX12_every_43
          · skip
            have hlt : p1 < E := hv_lt (f := f1) (by rw [← hw_45, c_46]; decide)
            refine lv_aload_n hx hb dX12_every_20 rfl (lv_at hl 0 rfl) ?_
            refine lv_dup hx hb dX12_every_21 rfl ?_
            refine va_get (D := (dC, dI)) (ci := 14) (v := .int (nI p1)) (C := RX12) (T := TX12) (N := 23) hx hb hts kc_every5_0 hown hK hP 0 rfl rfl 5 (by decide) (hts (.fieldLink RX12 59 "MistHeapsModel" "spot" "I") kc_every5_2) (fun _ h9 => h9) rfl dX12_every_22 ?_
            refine lv_iconst (v := 1) hx hb dX12_every_25 (by decide) ?_
            refine lv_iadd hx hb dX12_every_26 ?_
            refine qi_as (y := nI (p1 + 1)) (nI_add p1 1) ?_
            refine va_put (D := (dC, dI)) (ci := 14) (v := .int (nI (p1 + 1))) (ty := .int) (C := RX12) (T := TX12) (N := 23) hx hb hts kc_every5_0 tyX12 tyX12_ok nmX12 hown hK hP hD hS 0 rfl rfl 5 (by decide) (hts (.fieldLink RX12 59 "MistHeapsModel" "spot" "I") kc_every5_2) (fun _ h9 => h9) rfl (by decide +kernel) rfl rfl (Nat.le_of_ble_eq_true rfl) dX12_every_27 (fun H locs hP hD hS => ?_)
            have hP : va_P (dC, dI) vwCl [(zo14irriiiiiirriirrrrlriiii m0 th aS aI im (nI a) (nI (p1 + 1)) (nI E) 0 5 aB aT se dn aG aO aN aD bv aY rn kd nu tv), (zaI aS cS 901 f1)] H := hP
            have hD : va_D A [(zo14irriiiiiirriirrrrlriiii m0 th aS aI im (nI a) (nI (p1 + 1)) (nI E) 0 5 aB aT se dn aG aO aN aD bv aY rn kd nu tv), (zaI aS cS 901 f1)] := hD
            refine lv_aload_n hx hb dX12_every_30 rfl (lv_at hl 0 rfl) ?_
            have hPc := hP.sub (ws' := [(zo14irriiiiiirriirrrrlriiii m0 th aS aI im (nI a) (nI (p1 + 1)) (nI E) 0 5 aB aT se dn aG aO aN aD bv aY rn kd nu tv), (zaI aS cS 901 f1)]) [0, 1] rfl
            have hDc := hD.sub (ws' := [(zo14irriiiiiirriirrrrlriiii m0 th aS aI im (nI a) (nI (p1 + 1)) (nI E) 0 5 aB aT se dn aG aO aN aD bv aY rn kd nu tv), (zaI aS cS 901 f1)]) [0, 1] (by decide) rfl
            have hKc := hK.sub (tys' := [(cS, .int)]) [0] rfl
            have hFc := va_free (wc := [(zo14irriiiiiirriirrrrlriiii m0 th aS aI im (nI a) (nI (p1 + 1)) (nI E) 0 5 aB aT se dn aG aO aN aD bv aY rn kd nu tv), (zaI aS cS 901 f1)]) hD hS hA [0, 1] rfl
            refine va_callv (va_runV (As := []) (rest := []) ⟨hx, hb, hml, hown, hts⟩ (c_factor5 l dC dI sK sV m0 aS aI aB aT aG aO aN aD aY th im (nI a) (nI (p1 + 1)) (nI E) 0 5 se dn rn kd nu tv bv cS f1 a (p1 + 1) E k1 (d + 1) H.size ((hI).mono (by omega) (by omega))) (cwV 0 hts gX12_every_X12_factor rfl rfl rfl hd_yX12_factor ⟨Nat.le_of_ble_eq_true rfl, Nat.le_of_ble_eq_true rfl⟩) ⟨fun a U g mk q => by obtain ⟨q0, q1, qP, qK, qD, qhE⟩ := q; exact ⟨q0, q1, qP, va_K.moved (u := U) (U := U.calling g mk a) (Vm.Alike.refl U.vm) qK, qD, qhE.same rfl rfl⟩, va_recv hK hP (ci := 14) (q := (RX12, TX12, 23)) (q0 := 0) rfl rfl, fun U hU hW => ⟨rfl, by rw [hU], by rw [hU]; exact hPc, va_K.moved hW.alike hKc, hDc.weaken (fun _ _ _ _ => trivial), hE.call hS hU hW (fun q h => hFc q h)⟩⟩ rfl rfl hl.1 rfl (lv_room (Nat.le_of_ble_eq_true rfl)) dX12_every_31 ⟨Nat.le_of_ble_eq_true rfl, Nat.le_of_ble_eq_true rfl⟩) hS (fun q _ h => hFc q h) hFc (fun u tC H1 locs htC hvm hw_48 hB hz1 hk1 hS => ?_)
            obtain ⟨fS9_49, sp9_50, wg9_51⟩ := u
            try dsimp only at hw_48 hB
            obtain ⟨hP1, hK1, hD1⟩ := hB
            rw [htC] at hP1
            have hK1 := va_K.moved hvm.symm hK1
            obtain ⟨hP, hD⟩ := va_join (wr := []) (w1 := [(zo14irriiiiiirriirrrrlriiii m0 th aS aI im (nI a) sp9_50 (nI E) wg9_51 5 aB aT se dn aG aO aN aD bv aY rn kd nu tv), (zaI aS cS 901 fS9_49)]) hP hD [0, 1] [] rfl rfl (by decide) (by decide) hk1 hFc hP1 hD1
            have hK := (hK.sub (tys' := []) [] rfl).app hK1
            generalize H1 = H at hP hS ⊢
            have hP : va_P (dC, dI) vwCl [(zo14irriiiiiirriirrrrlriiii m0 th aS aI im (nI a) sp9_50 (nI E) wg9_51 5 aB aT se dn aG aO aN aD bv aY rn kd nu tv), (zaI aS cS 901 fS9_49)] H := hP
            have hD : va_D A [(zo14irriiiiiirriirrrrlriiii m0 th aS aI im (nI a) sp9_50 (nI E) wg9_51 5 aB aT se dn aG aO aN aD bv aY rn kd nu tv), (zaI aS cS 901 fS9_49)] := hD
            have hK : va_K (dC, dI) vwCl [(cS, .int)] s := hK
            obtain ⟨p_52, k_53, rfl, h_55, h_56, hF_57, q9⟩ := hw_48
            rcases q9 with rfl | ⟨rfl, h_58, hI_59, h_60⟩
            · skip
              refine lv_aload_n hx hb dX12_every_34 rfl (lv_at hl 0 rfl) ?_
              refine lv_bipush (v := (-2)) hx hb dX12_every_35 (by decide) ?_
              have hPc := hP.sub (ws' := [(zo14irriiiiiirriirrrrlriiii m0 th aS aI im (nI a) (nI p_52) (nI E) 1 5 aB aT se dn aG aO aN aD bv aY rn kd nu tv)]) [0] rfl
              have hKc := hK.sub (tys' := []) [] rfl
              refine va_csv (va_runV (As := [.int (-2)]) (rest := []) ⟨hx, hb, hml, hown, hts⟩ (c_emitsW l dC dI m0 aS aI aB aT aG aO aN aD aY th im (nI a) (nI p_52) (nI E) 1 5 se dn rn kd nu tv bv (-2)) (cwV 1 hts gX12_every_X12_emits rfl rfl rfl hd_yX12_emits ⟨Nat.le_of_ble_eq_true rfl, Nat.le_of_ble_eq_true rfl⟩) ⟨fun a U g mk q => by obtain ⟨q0, qP, qK⟩ := q; exact ⟨q0, qP, va_K.moved (u := U) (U := U.calling g mk a) (Vm.Alike.refl U.vm) qK⟩, va_recv hK hP (ci := 14) (q := (RX12, TX12, 23)) (q0 := 0) rfl rfl, fun U hU hW => ⟨rfl, by rw [hU]; exact hPc, va_K.moved hW.alike hKc⟩⟩ rfl rfl hl.1 rfl (lv_room (Nat.le_of_ble_eq_true rfl)) dX12_every_37 ⟨Nat.le_of_ble_eq_true rfl, Nat.le_of_ble_eq_true rfl⟩).run (fun hw_62 => ?_)
              refine lv_goto (tgt := 4) hx hb dX12_every_40 (by decide) ?_
              exact ih4 (p_52) (k) (1) (fS9_49) (by omega) (by omega) ((hF).tr hF_57) (Or.inl rfl) _ _ (hK.sub [0] rfl) (hP.sub [0, 1] rfl) (hD.sub [0, 1] (by decide) rfl) hS ls (lv_sub hl [0] rfl)
            · skip
              have k5 := hI_59.2.2.2.2.1
              refine lv_aload_n hx hb dX12_every_34 rfl (lv_at hl 0 rfl) ?_
              refine lv_bipush (v := (-2)) hx hb dX12_every_35 (by decide) ?_
              have hPc := hP.sub (ws' := [(zo14irriiiiiirriirrrrlriiii m0 th aS aI im (nI a) (nI p_52) (nI E) 0 5 aB aT se dn aG aO aN aD bv aY rn kd nu tv), (zaI aS cS 901 fS9_49)]) [0, 1] rfl
              have hDc := hD.sub (ws' := [(zo14irriiiiiirriirrrrlriiii m0 th aS aI im (nI a) (nI p_52) (nI E) 0 5 aB aT se dn aG aO aN aD bv aY rn kd nu tv), (zaI aS cS 901 fS9_49)]) [0, 1] (by decide) rfl
              have hKc := hK.sub (tys' := [(cS, .int)]) [0] rfl
              have hFc := va_free (wc := [(zo14irriiiiiirriirrrrlriiii m0 th aS aI im (nI a) (nI p_52) (nI E) 0 5 aB aT se dn aG aO aN aD bv aY rn kd nu tv), (zaI aS cS 901 fS9_49)]) hD hS hA [0, 1] rfl
              refine va_callv (va_runV (As := [.int (-2)]) (rest := []) ⟨hx, hb, hml, hown, hts⟩ (c_emits l dC dI m0 aS aI aB aT aG aO aN aD aY th im (nI a) (nI p_52) (nI E) 0 5 se dn rn kd nu tv bv cS fS9_49 a k_53 (-2) H.size (ga) ((hI_59).2.2.2.1) (by have := (hI_59).2.2.2.2.1; omega)) (cwV 1 hts gX12_every_X12_emits rfl rfl rfl hd_yX12_emits ⟨Nat.le_of_ble_eq_true rfl, Nat.le_of_ble_eq_true rfl⟩) ⟨fun a U g mk q => by obtain ⟨q0, q1, qP, qK, qD⟩ := q; exact ⟨q0, q1, qP, va_K.moved (u := U) (U := U.calling g mk a) (Vm.Alike.refl U.vm) qK, qD⟩, va_recv hK hP (ci := 14) (q := (RX12, TX12, 23)) (q0 := 0) rfl rfl, fun U hU hW => ⟨rfl, by rw [hU], by rw [hU]; exact hPc, va_K.moved hW.alike hKc, hDc.weaken (fun _ _ _ _ => trivial)⟩⟩ rfl rfl hl.1 rfl (lv_room (Nat.le_of_ble_eq_true rfl)) dX12_every_37 ⟨Nat.le_of_ble_eq_true rfl, Nat.le_of_ble_eq_true rfl⟩) hS (fun q _ h => hFc q h) hFc (fun u tC H1 locs htC hvm hw_64 hB hz1 hk1 hS => ?_)
              obtain ⟨fS9_65, rfl⟩ : ∃ z, z = u := ⟨_, rfl⟩
              try dsimp only at hw_64 hB
              obtain ⟨hP1, hK1, hD1⟩ := hB
              rw [htC] at hP1
              have hK1 := va_K.moved hvm.symm hK1
              obtain ⟨hP, hD⟩ := va_join (wr := []) (w1 := [(zo14irriiiiiirriirrrrlriiii m0 th aS aI im (nI a) (nI p_52) (nI E) 0 5 aB aT se dn aG aO aN aD bv aY rn kd nu tv), (zaI aS cS 901 fS9_65)]) hP hD [0, 1] [] rfl rfl (by decide) (by decide) hk1 hFc hP1 hD1
              have hK := (hK.sub (tys' := []) [] rfl).app hK1
              generalize H1 = H at hP hS ⊢
              have hP : va_P (dC, dI) vwCl [(zo14irriiiiiirriirrrrlriiii m0 th aS aI im (nI a) (nI p_52) (nI E) 0 5 aB aT se dn aG aO aN aD bv aY rn kd nu tv), (zaI aS cS 901 fS9_65)] H := hP
              have hD : va_D A [(zo14irriiiiiirriirrrrlriiii m0 th aS aI im (nI a) (nI p_52) (nI E) 0 5 aB aT se dn aG aO aN aD bv aY rn kd nu tv), (zaI aS cS 901 fS9_65)] := hD
              have hK : va_K (dC, dI) vwCl [(cS, .int)] s := hK
              obtain rfl : fS9_65 = emt fS9_49 a k_53 (-2) := by rcases hw_64 with ⟨q, _⟩ | ⟨_, q⟩; exact absurd rfl q; exact q
              have hI_67 : PI (emt fS9_49 a k_53 (-2)) a (k_53 + 1) (((d + 1) + 1) - 1) p_52 E := ((hI_59).mono (by omega) (by omega)).em (by omega) (by omega) (stepd_both (by omega))
              have hF_68 : PF a fS (emt fS9_49 a k_53 (-2)) := ((hF).tr hF_57).tr (PF_emt (k := k_53) (x := (-2)) ga (by have := (hI_59).2.2.2.2.1; omega))
              refine lv_goto (tgt := 4) hx hb dX12_every_40 (by decide) ?_
              exact ih4 (p_52) ((k_53 + 1)) (0) (emt fS9_49 a k_53 (-2)) (by omega) (by omega) (hF_68) (Or.inr ⟨rfl, by omega, hI_67, by omega⟩) _ _ (hK.sub [0] rfl) (hP.sub [0, 1] rfl) (hD.sub [0, 1] (by decide) rfl) hS ls (lv_sub hl [0] rfl)
    exact L4 _ (p_6) (k_7) (0) (fS9_3) (Nat.lt_succ_self _) (by omega) ((PF.rf).tr hF_11) (Or.inr ⟨rfl, by omega, hI_13, by omega⟩) _ _ (hK.sub [0] rfl) (hP.sub [0, 1] rfl) (hD.sub [0, 1] (by decide) rfl) hS ls (lv_sub hl [0] rfl)

theorem kc_some5_0 : ∀ w ∈ wsX120, w ∈ wsX12_some := fun w h => List.mem_cons_of_mem _ (gin_wsX120 w h)
theorem kc_some5_1 : (.fieldLink RX12 65 "MistHeapsModel" "isWrong" "Z" : Cond) ∈ wsX12_some := kc_of 1147 rfl rfl rfl
theorem kc_some5_2 : (.fieldLink RX12 59 "MistHeapsModel" "spot" "I" : Cond) ∈ wsX12_some := kc_of 1145 rfl rfl rfl
set_option maxHeartbeats 4000000 in
set_option maxRecDepth 100000 in
theorem c_some5 (l : Launch) (dC : Nat → ClassId) (dI : Nat → Nat → Nat) (sK sV : Nat → Nat) (m0 aS aI aB aT aG aO aN aD aY : Nat) (th im ac sp en wg op se dn rn kd nu tv : Int32) (bv : Int64) (cS : ClassId) (fS : Nat → Int32) (a p0 E k d : Nat) (sz : Nat) (gI : PI fS a k d p0 E) : Met l yX12_some wsX12_some ({ frames := 7, cells := 0, slots := 0, locals := 151 } : Room) (va_Pc [.ref m0] (fun U => U.heap.size = sz ∧ va_P (dC, dI) vwCl [(zo14irriiiiiirriirrrrlriiii m0 th aS aI im (nI a) (nI p0) (nI E) 0 5 aB aT se dn aG aO aN aD bv aY rn kd nu tv), (zaI aS cS 901 fS)] U.heap ∧ va_K (dC, dI) vwCl [(cS, .int)] U ∧ va_D (fun _ => True) [(zo14irriiiiiirriirrrrlriiii m0 th aS aI im (nI a) (nI p0) (nI E) 0 5 aB aT se dn aG aO aN aD bv aY rn kd nu tv), (zaI aS cS 901 fS)] ∧ Gs sK sV (va_A [(zo14irriiiiiirriirrrrlriiii m0 th aS aI im (nI a) (nI p0) (nI E) 0 5 aB aT se dn aG aO aN aD bv aY rn kd nu tv), (zaI aS cS 901 fS)] sz) U)) (va_Qv (fun (u : (Nat → Int32) × (Int32) × (Int32)) => match u with | (fS9, sp9, wg9) => ∃ p9 k9 : Nat, sp9 = nI p9 ∧ p0 ≤ p9 ∧ p9 ≤ E ∧ PF a fS fS9 ∧ (wg9 = 1 ∨ (wg9 = 0 ∧ p0 + 3 ≤ p9 ∧ PI fS9 a k9 (d + 1) p9 E ∧ k9 + p0 ≤ k + p9))) (fun (u : (Nat → Int32) × (Int32) × (Int32)) (t : State) => match u with | (fS9, sp9, wg9) => va_P (dC, dI) vwCl [(zo14irriiiiiirriirrrrlriiii m0 th aS aI im (nI a) sp9 (nI E) wg9 5 aB aT se dn aG aO aN aD bv aY rn kd nu tv), (zaI aS cS 901 fS9)] t.heap ∧ va_K (dC, dI) vwCl [(cS, .int)] t ∧ va_D (va_A [(zo14irriiiiiirriirrrrlriiii m0 th aS aI im (nI a) (nI p0) (nI E) 0 5 aB aT se dn aG aO aN aD bv aY rn kd nu tv), (zaI aS cS 901 fS)] sz) [(zo14irriiiiiirriirrrrlriiii m0 th aS aI im (nI a) sp9 (nI E) wg9 5 aB aT se dn aG aO aN aD bv aY rn kd nu tv), (zaI aS cS 901 fS9)]) (va_A [(zo14irriiiiiirriirrrrlriiii m0 th aS aI im (nI a) (nI p0) (nI E) 0 5 aB aT se dn aG aO aN aD bv aY rn kd nu tv), (zaI aS cS 901 fS)] sz)) 0 0 (va_A [(zo14irriiiiiirriirrrrlriiii m0 th aS aI im (nI a) (nI p0) (nI E) 0 5 aB aT se dn aG aO aN aD bv aY rn kd nu tv), (zaI aS cS 901 fS)] sz) := by
  refine met_ofQ (cc := cX12_some) (maxL := 1) (ret := none) (by decide) rfl ?_
  intro p e s m args below meth c s₁ Q B hml hv hQ
  obtain ⟨rfl, hsz, hP, hK, hD0, hE⟩ := hv
  have hx := B.exec
  have hb := B.bytes
  have hr := B.returns
  have hts := atoms_spec (ws := wsX12_some) B.pre
  have hown : s.vm.findClass RX12 = some m.cls := findClass_of_methodNamed B.named
  have hlocks := B.notSynchronized
  subst hsz
  have hD := hD0.self (sz := s.heap.size)
  generalize hAe : va_A [(zo14irriiiiiirriirrrrlriiii m0 th aS aI im (nI a) (nI p0) (nI E) 0 5 aB aT se dn aG aO aN aD bv aY rn kd nu tv), (zaI aS cS 901 fS)] s.heap.size = A at hD hQ hE ⊢
  have hA : ∀ q : Nat, s.heap.size ≤ q → A q := fun q h => by rw [← hAe]; exact Or.inr h
  have hS : va_S A s.heap s.heap [] := va_S.rf
  have hl := lv_entry [.ref m0] (n := 1) (Nat.le_of_ble_eq_true rfl)
  rw [lg_entry_eq]
  generalize (lg_sl [.ref m0] ++ List.replicate (1 - (lg_sl [.ref m0]).length) Slot.unset).toArray = ls at hl ⊢
  generalize hag : ([.ref m0] : List Value).toArray = args at hts hQ ⊢
  have hl : lv_has ls 1 [(0, .ref m0)] := hl
  obtain ⟨H, hH⟩ : ∃ H : Heap, H = s.heap := ⟨_, rfl⟩
  rw [← hH] at hP
  rw [← hH]
  have hS : va_S A s.heap H [] := by rw [hH]; exact hS
  obtain ⟨locs, hlo⟩ : ∃ L : List Loc, L = [] := ⟨_, rfl⟩
  rw [← hlo] at hS
  rw [← hlo]
  clear hH hlo
  obtain ⟨ga, gp, gE, zk, gkp, gd, gs⟩ := id gI
  refine lv_aload_n hx hb dX12_some_0 rfl (lv_at hl 0 rfl) ?_
  have hPc := hP.sub (ws' := [(zo14irriiiiiirriirrrrlriiii m0 th aS aI im (nI a) (nI p0) (nI E) 0 5 aB aT se dn aG aO aN aD bv aY rn kd nu tv), (zaI aS cS 901 fS)]) [0, 1] rfl
  have hDc := hD.sub (ws' := [(zo14irriiiiiirriirrrrlriiii m0 th aS aI im (nI a) (nI p0) (nI E) 0 5 aB aT se dn aG aO aN aD bv aY rn kd nu tv), (zaI aS cS 901 fS)]) [0, 1] (by decide) rfl
  have hKc := hK.sub (tys' := [(cS, .int)]) [0] rfl
  have hFc := va_free (wc := [(zo14irriiiiiirriirrrrlriiii m0 th aS aI im (nI a) (nI p0) (nI E) 0 5 aB aT se dn aG aO aN aD bv aY rn kd nu tv), (zaI aS cS 901 fS)]) hD hS hA [0, 1] rfl
  refine va_callv (va_runV (As := []) (rest := []) ⟨hx, hb, hml, hown, hts⟩ (c_every5 l dC dI sK sV m0 aS aI aB aT aG aO aN aD aY th im (nI a) (nI p0) (nI E) 0 5 se dn rn kd nu tv bv cS fS a p0 E k d H.size ((gI).mono (by omega) (by omega))) (cwV 0 hts gX12_some_X12_every rfl rfl rfl hd_yX12_every ⟨Nat.le_of_ble_eq_true rfl, Nat.le_of_ble_eq_true rfl⟩) ⟨fun a U g mk q => by obtain ⟨q0, q1, qP, qK, qD, qhE⟩ := q; exact ⟨q0, q1, qP, va_K.moved (u := U) (U := U.calling g mk a) (Vm.Alike.refl U.vm) qK, qD, qhE.same rfl rfl⟩, va_recv hK hP (ci := 14) (q := (RX12, TX12, 23)) (q0 := 0) rfl rfl, fun U hU hW => ⟨rfl, by rw [hU], by rw [hU]; exact hPc, va_K.moved hW.alike hKc, hDc.weaken (fun _ _ _ _ => trivial), hE.call hS hU hW (fun q h => hFc q h)⟩⟩ rfl rfl hl.1 rfl (lv_room (Nat.le_of_ble_eq_true rfl)) dX12_some_1 ⟨Nat.le_of_ble_eq_true rfl, Nat.le_of_ble_eq_true rfl⟩) hS (fun q _ h => hFc q h) hFc (fun u tC H1 locs htC hvm hw_2 hB hz1 hk1 hS => ?_)
  obtain ⟨fS9_3, sp9_4, wg9_5⟩ := u
  try dsimp only at hw_2 hB
  obtain ⟨hP1, hK1, hD1⟩ := hB
  rw [htC] at hP1
  have hK1 := va_K.moved hvm.symm hK1
  obtain ⟨hP, hD⟩ := va_join (wr := []) (w1 := [(zo14irriiiiiirriirrrrlriiii m0 th aS aI im (nI a) sp9_4 (nI E) wg9_5 5 aB aT se dn aG aO aN aD bv aY rn kd nu tv), (zaI aS cS 901 fS9_3)]) hP hD [0, 1] [] rfl rfl (by decide) (by decide) hk1 hFc hP1 hD1
  have hK := (hK.sub (tys' := []) [] rfl).app hK1
  generalize H1 = H at hP hS ⊢
  have hP : va_P (dC, dI) vwCl [(zo14irriiiiiirriirrrrlriiii m0 th aS aI im (nI a) sp9_4 (nI E) wg9_5 5 aB aT se dn aG aO aN aD bv aY rn kd nu tv), (zaI aS cS 901 fS9_3)] H := hP
  have hD : va_D A [(zo14irriiiiiirriirrrrlriiii m0 th aS aI im (nI a) sp9_4 (nI E) wg9_5 5 aB aT se dn aG aO aN aD bv aY rn kd nu tv), (zaI aS cS 901 fS9_3)] := hD
  have hK : va_K (dC, dI) vwCl [(cS, .int)] s := hK
  obtain ⟨p_6, k_7, rfl, h_9, h_10, hF_11, q9⟩ := hw_2
  rcases q9 with rfl | ⟨rfl, h_12, hI_13, h_14⟩
  · skip
    have L4 : ∀ (nF : Nat) (p1 : Nat) (k1 : Nat) (w1 : Int32) (f1 : Nat → Int32), E - p1 < nF → (p0 ≤ p1 ∧ p1 ≤ E) → (PF a fS f1) → (w1 = 1 ∨ (w1 = 0 ∧ p0 + 3 ≤ p1 ∧ PI f1 a k1 (d + 1) p1 E ∧ k1 + p0 ≤ k + p1)) → ∀ (H : Heap) (locs : List Loc), va_K (dC, dI) vwCl [(cS, .int)] s → va_P (dC, dI) vwCl [(zo14irriiiiiirriirrrrlriiii m0 th aS aI im (nI a) (nI p1) (nI E) w1 5 aB aT se dn aG aO aN aD bv aY rn kd nu tv), (zaI aS cS 901 f1)] H → va_D A [(zo14irriiiiiirriirrrrlriiii m0 th aS aI im (nI a) (nI p1) (nI E) w1 5 aB aT se dn aG aO aN aD bv aY rn kd nu tv), (zaI aS cS 901 f1)] → va_S A s.heap H locs → ∀ (ls : Array Slot), lv_has ls 1 [(0, .ref m0)] → W p l e ({ frames := 7, cells := 0, slots := 0, locals := 151 } : Room) s m args below meth c H locs 0 0 Q (F0 m 4 ls []) := by
      intro nF
      induction nF with
      | zero => intro p1 k1 w1 f1 hm; exact absurd hm (Nat.not_lt_zero _)
      | succ nF ih4 =>
        intro p1 k1 w1 f1 hm h1 hF hw1 H locs hK hP hD hS ls hl
        obtain ⟨h1a, h1b⟩ := h1
        rcases hw1 with rfl | ⟨rfl, h3, hI, h4⟩
        · skip
          refine lv_aload_n hx hb dX12_some_4 rfl (lv_at hl 0 rfl) ?_
          refine va_get (D := (dC, dI)) (ci := 14) (v := .int 1) (C := RX12) (T := TX12) (N := 23) hx hb hts kc_some5_0 hown hK hP 0 rfl rfl 7 (by decide) (hts (.fieldLink RX12 65 "MistHeapsModel" "isWrong" "Z") kc_some5_1) (fun _ h9 => h9) rfl dX12_some_5 ?_
          refine lv_if_ne (tgt := 43) hx hb dX12_some_8 (by decide) (fun _ => ?_) (fun c_15 => absurd c_15 (by decide))
          rw [hQ]
          have hP9 := hP.sub (ws' := [(zo14irriiiiiirriirrrrlriiii m0 th aS aI im (nI a) (nI p1) (nI E) 1 5 aB aT se dn aG aO aN aD bv aY rn kd nu tv), (zaI aS cS 901 f1)]) [0, 1] rfl
          have hD9 := hD.sub (ws' := [(zo14irriiiiiirriirrrrlriiii m0 th aS aI im (nI a) (nI p1) (nI E) 1 5 aB aT se dn aG aO aN aD bv aY rn kd nu tv), (zaI aS cS 901 f1)]) [0, 1] (by decide) rfl
          have hK9 := hK.sub (tys' := [(cS, .int)]) [0] rfl
          exact W.vret hx hb hr (fun tQ htQ hWQ => ⟨⟨(f1, (nI p1), 1), rfl, ⟨p1, k, rfl, by omega, by omega, hF, Or.inl rfl⟩, by rw [htQ]; exact hP9, va_K.moved hWQ.alike hK9, hD9⟩, hS.F htQ⟩) hS.2.2 dX12_some_43
        · skip
          have k5 := hI.2.2.2.2.1
          refine lv_aload_n hx hb dX12_some_4 rfl (lv_at hl 0 rfl) ?_
          refine va_get (D := (dC, dI)) (ci := 14) (v := .int 0) (C := RX12) (T := TX12) (N := 23) hx hb hts kc_some5_0 hown hK hP 0 rfl rfl 7 (by decide) (hts (.fieldLink RX12 65 "MistHeapsModel" "isWrong" "Z") kc_some5_1) (fun _ h9 => h9) rfl dX12_some_5 ?_
          refine lv_if_ne (tgt := 43) hx hb dX12_some_8 (by decide) (fun c_16 => absurd c_16 (by decide)) (fun _ => ?_)
          refine lv_aload_n hx hb dX12_some_11 rfl (lv_at hl 0 rfl) ?_
          have hPc := hP.sub (ws' := [(zo14irriiiiiirriirrrrlriiii m0 th aS aI im (nI a) (nI p1) (nI E) 0 5 aB aT se dn aG aO aN aD bv aY rn kd nu tv), (zaI aS cS 901 f1)]) [0, 1] rfl
          have hKc := hK.sub (tys' := [(cS, .int)]) [0] rfl
          refine vp_callSi (va_runV (As := []) (rest := []) ⟨hx, hb, hml, hown, hts⟩ (c_here l dC dI m0 aS aI aB aT aG aO aN aD aY th im (nI a) (nI p1) (nI E) 0 5 se dn rn kd nu tv bv cS f1 a p1 E (by omega) (by omega) (by omega)) (cwV 0 hts gX12_some_X12_here rfl rfl rfl hd_yX12_here ⟨Nat.le_of_ble_eq_true rfl, Nat.le_of_ble_eq_true rfl⟩) ⟨fun a U g mk q => by obtain ⟨q0, qP, qK⟩ := q; exact ⟨q0, qP, va_K.moved (u := U) (U := U.calling g mk a) (Vm.Alike.refl U.vm) qK⟩, va_recv hK hP (ci := 14) (q := (RX12, TX12, 23)) (q0 := 0) rfl rfl, fun U hU hW => ⟨rfl, by rw [hU]; exact hPc, va_K.moved hW.alike hKc⟩⟩ rfl rfl hl.1 rfl (lv_room (Nat.le_of_ble_eq_true rfl)) dX12_some_12 ⟨Nat.le_of_ble_eq_true rfl, Nat.le_of_ble_eq_true rfl⟩).run (fun r_17 hw_18 => ?_)
          refine lv_bipush (v := 124) hx hb dX12_some_15 (by decide) ?_
          refine lv_icmp_ne (tgt := 43) hx hb dX12_some_17 (by decide) (fun c_19 => ?_) (fun c_19 => ?_)
          · skip
            rw [hQ]
            have hP9 := hP.sub (ws' := [(zo14irriiiiiirriirrrrlriiii m0 th aS aI im (nI a) (nI p1) (nI E) 0 5 aB aT se dn aG aO aN aD bv aY rn kd nu tv), (zaI aS cS 901 f1)]) [0, 1] rfl
            have hD9 := hD.sub (ws' := [(zo14irriiiiiirriirrrrlriiii m0 th aS aI im (nI a) (nI p1) (nI E) 0 5 aB aT se dn aG aO aN aD bv aY rn kd nu tv), (zaI aS cS 901 f1)]) [0, 1] (by decide) rfl
            have hK9 := hK.sub (tys' := [(cS, .int)]) [0] rfl
            exact W.vret hx hb hr (fun tQ htQ hWQ => ⟨⟨(f1, (nI p1), 0), rfl, ⟨p1, k1, rfl, by omega, by omega, hF, Or.inr ⟨rfl, by omega, hI, by omega⟩⟩, by rw [htQ]; exact hP9, va_K.moved hWQ.alike hK9, hD9⟩, hS.F htQ⟩) hS.2.2 dX12_some_43
          · skip
            have hlt : p1 < E := hv_lt (f := f1) (by rw [← hw_18, c_19]; decide)
            refine lv_aload_n hx hb dX12_some_20 rfl (lv_at hl 0 rfl) ?_
            refine lv_dup hx hb dX12_some_21 rfl ?_
            refine va_get (D := (dC, dI)) (ci := 14) (v := .int (nI p1)) (C := RX12) (T := TX12) (N := 23) hx hb hts kc_some5_0 hown hK hP 0 rfl rfl 5 (by decide) (hts (.fieldLink RX12 59 "MistHeapsModel" "spot" "I") kc_some5_2) (fun _ h9 => h9) rfl dX12_some_22 ?_
            refine lv_iconst (v := 1) hx hb dX12_some_25 (by decide) ?_
            refine lv_iadd hx hb dX12_some_26 ?_
            refine qi_as (y := nI (p1 + 1)) (nI_add p1 1) ?_
            refine va_put (D := (dC, dI)) (ci := 14) (v := .int (nI (p1 + 1))) (ty := .int) (C := RX12) (T := TX12) (N := 23) hx hb hts kc_some5_0 tyX12 tyX12_ok nmX12 hown hK hP hD hS 0 rfl rfl 5 (by decide) (hts (.fieldLink RX12 59 "MistHeapsModel" "spot" "I") kc_some5_2) (fun _ h9 => h9) rfl (by decide +kernel) rfl rfl (Nat.le_of_ble_eq_true rfl) dX12_some_27 (fun H locs hP hD hS => ?_)
            have hP : va_P (dC, dI) vwCl [(zo14irriiiiiirriirrrrlriiii m0 th aS aI im (nI a) (nI (p1 + 1)) (nI E) 0 5 aB aT se dn aG aO aN aD bv aY rn kd nu tv), (zaI aS cS 901 f1)] H := hP
            have hD : va_D A [(zo14irriiiiiirriirrrrlriiii m0 th aS aI im (nI a) (nI (p1 + 1)) (nI E) 0 5 aB aT se dn aG aO aN aD bv aY rn kd nu tv), (zaI aS cS 901 f1)] := hD
            refine lv_aload_n hx hb dX12_some_30 rfl (lv_at hl 0 rfl) ?_
            have hPc := hP.sub (ws' := [(zo14irriiiiiirriirrrrlriiii m0 th aS aI im (nI a) (nI (p1 + 1)) (nI E) 0 5 aB aT se dn aG aO aN aD bv aY rn kd nu tv), (zaI aS cS 901 f1)]) [0, 1] rfl
            have hDc := hD.sub (ws' := [(zo14irriiiiiirriirrrrlriiii m0 th aS aI im (nI a) (nI (p1 + 1)) (nI E) 0 5 aB aT se dn aG aO aN aD bv aY rn kd nu tv), (zaI aS cS 901 f1)]) [0, 1] (by decide) rfl
            have hKc := hK.sub (tys' := [(cS, .int)]) [0] rfl
            have hFc := va_free (wc := [(zo14irriiiiiirriirrrrlriiii m0 th aS aI im (nI a) (nI (p1 + 1)) (nI E) 0 5 aB aT se dn aG aO aN aD bv aY rn kd nu tv), (zaI aS cS 901 f1)]) hD hS hA [0, 1] rfl
            refine va_callv (va_runV (As := []) (rest := []) ⟨hx, hb, hml, hown, hts⟩ (c_every5 l dC dI sK sV m0 aS aI aB aT aG aO aN aD aY th im (nI a) (nI (p1 + 1)) (nI E) 0 5 se dn rn kd nu tv bv cS f1 a (p1 + 1) E k1 (d + 1) H.size ((hI).mono (by omega) (by omega))) (cwV 0 hts gX12_some_X12_every rfl rfl rfl hd_yX12_every ⟨Nat.le_of_ble_eq_true rfl, Nat.le_of_ble_eq_true rfl⟩) ⟨fun a U g mk q => by obtain ⟨q0, q1, qP, qK, qD, qhE⟩ := q; exact ⟨q0, q1, qP, va_K.moved (u := U) (U := U.calling g mk a) (Vm.Alike.refl U.vm) qK, qD, qhE.same rfl rfl⟩, va_recv hK hP (ci := 14) (q := (RX12, TX12, 23)) (q0 := 0) rfl rfl, fun U hU hW => ⟨rfl, by rw [hU], by rw [hU]; exact hPc, va_K.moved hW.alike hKc, hDc.weaken (fun _ _ _ _ => trivial), hE.call hS hU hW (fun q h => hFc q h)⟩⟩ rfl rfl hl.1 rfl (lv_room (Nat.le_of_ble_eq_true rfl)) dX12_some_31 ⟨Nat.le_of_ble_eq_true rfl, Nat.le_of_ble_eq_true rfl⟩) hS (fun q _ h => hFc q h) hFc (fun u tC H1 locs htC hvm hw_21 hB hz1 hk1 hS => ?_)
            obtain ⟨fS9_22, sp9_23, wg9_24⟩ := u
            try dsimp only at hw_21 hB
            obtain ⟨hP1, hK1, hD1⟩ := hB
            rw [htC] at hP1
            have hK1 := va_K.moved hvm.symm hK1
            obtain ⟨hP, hD⟩ := va_join (wr := []) (w1 := [(zo14irriiiiiirriirrrrlriiii m0 th aS aI im (nI a) sp9_23 (nI E) wg9_24 5 aB aT se dn aG aO aN aD bv aY rn kd nu tv), (zaI aS cS 901 fS9_22)]) hP hD [0, 1] [] rfl rfl (by decide) (by decide) hk1 hFc hP1 hD1
            have hK := (hK.sub (tys' := []) [] rfl).app hK1
            generalize H1 = H at hP hS ⊢
            have hP : va_P (dC, dI) vwCl [(zo14irriiiiiirriirrrrlriiii m0 th aS aI im (nI a) sp9_23 (nI E) wg9_24 5 aB aT se dn aG aO aN aD bv aY rn kd nu tv), (zaI aS cS 901 fS9_22)] H := hP
            have hD : va_D A [(zo14irriiiiiirriirrrrlriiii m0 th aS aI im (nI a) sp9_23 (nI E) wg9_24 5 aB aT se dn aG aO aN aD bv aY rn kd nu tv), (zaI aS cS 901 fS9_22)] := hD
            have hK : va_K (dC, dI) vwCl [(cS, .int)] s := hK
            obtain ⟨p_25, k_26, rfl, h_28, h_29, hF_30, q9⟩ := hw_21
            rcases q9 with rfl | ⟨rfl, h_31, hI_32, h_33⟩
            · skip
              refine lv_aload_n hx hb dX12_some_34 rfl (lv_at hl 0 rfl) ?_
              refine lv_bipush (v := (-3)) hx hb dX12_some_35 (by decide) ?_
              have hPc := hP.sub (ws' := [(zo14irriiiiiirriirrrrlriiii m0 th aS aI im (nI a) (nI p_25) (nI E) 1 5 aB aT se dn aG aO aN aD bv aY rn kd nu tv)]) [0] rfl
              have hKc := hK.sub (tys' := []) [] rfl
              refine va_csv (va_runV (As := [.int (-3)]) (rest := []) ⟨hx, hb, hml, hown, hts⟩ (c_emitsW l dC dI m0 aS aI aB aT aG aO aN aD aY th im (nI a) (nI p_25) (nI E) 1 5 se dn rn kd nu tv bv (-3)) (cwV 1 hts gX12_some_X12_emits rfl rfl rfl hd_yX12_emits ⟨Nat.le_of_ble_eq_true rfl, Nat.le_of_ble_eq_true rfl⟩) ⟨fun a U g mk q => by obtain ⟨q0, qP, qK⟩ := q; exact ⟨q0, qP, va_K.moved (u := U) (U := U.calling g mk a) (Vm.Alike.refl U.vm) qK⟩, va_recv hK hP (ci := 14) (q := (RX12, TX12, 23)) (q0 := 0) rfl rfl, fun U hU hW => ⟨rfl, by rw [hU]; exact hPc, va_K.moved hW.alike hKc⟩⟩ rfl rfl hl.1 rfl (lv_room (Nat.le_of_ble_eq_true rfl)) dX12_some_37 ⟨Nat.le_of_ble_eq_true rfl, Nat.le_of_ble_eq_true rfl⟩).run (fun hw_35 => ?_)
              refine lv_goto (tgt := 4) hx hb dX12_some_40 (by decide) ?_
              exact ih4 (p_25) (k) (1) (fS9_22) (by omega) (by omega) ((hF).tr hF_30) (Or.inl rfl) _ _ (hK.sub [0] rfl) (hP.sub [0, 1] rfl) (hD.sub [0, 1] (by decide) rfl) hS ls (lv_sub hl [0] rfl)
            · skip
              have k5 := hI_32.2.2.2.2.1
              refine lv_aload_n hx hb dX12_some_34 rfl (lv_at hl 0 rfl) ?_
              refine lv_bipush (v := (-3)) hx hb dX12_some_35 (by decide) ?_
              have hPc := hP.sub (ws' := [(zo14irriiiiiirriirrrrlriiii m0 th aS aI im (nI a) (nI p_25) (nI E) 0 5 aB aT se dn aG aO aN aD bv aY rn kd nu tv), (zaI aS cS 901 fS9_22)]) [0, 1] rfl
              have hDc := hD.sub (ws' := [(zo14irriiiiiirriirrrrlriiii m0 th aS aI im (nI a) (nI p_25) (nI E) 0 5 aB aT se dn aG aO aN aD bv aY rn kd nu tv), (zaI aS cS 901 fS9_22)]) [0, 1] (by decide) rfl
              have hKc := hK.sub (tys' := [(cS, .int)]) [0] rfl
              have hFc := va_free (wc := [(zo14irriiiiiirriirrrrlriiii m0 th aS aI im (nI a) (nI p_25) (nI E) 0 5 aB aT se dn aG aO aN aD bv aY rn kd nu tv), (zaI aS cS 901 fS9_22)]) hD hS hA [0, 1] rfl
              refine va_callv (va_runV (As := [.int (-3)]) (rest := []) ⟨hx, hb, hml, hown, hts⟩ (c_emits l dC dI m0 aS aI aB aT aG aO aN aD aY th im (nI a) (nI p_25) (nI E) 0 5 se dn rn kd nu tv bv cS fS9_22 a k_26 (-3) H.size (ga) ((hI_32).2.2.2.1) (by have := (hI_32).2.2.2.2.1; omega)) (cwV 1 hts gX12_some_X12_emits rfl rfl rfl hd_yX12_emits ⟨Nat.le_of_ble_eq_true rfl, Nat.le_of_ble_eq_true rfl⟩) ⟨fun a U g mk q => by obtain ⟨q0, q1, qP, qK, qD⟩ := q; exact ⟨q0, q1, qP, va_K.moved (u := U) (U := U.calling g mk a) (Vm.Alike.refl U.vm) qK, qD⟩, va_recv hK hP (ci := 14) (q := (RX12, TX12, 23)) (q0 := 0) rfl rfl, fun U hU hW => ⟨rfl, by rw [hU], by rw [hU]; exact hPc, va_K.moved hW.alike hKc, hDc.weaken (fun _ _ _ _ => trivial)⟩⟩ rfl rfl hl.1 rfl (lv_room (Nat.le_of_ble_eq_true rfl)) dX12_some_37 ⟨Nat.le_of_ble_eq_true rfl, Nat.le_of_ble_eq_true rfl⟩) hS (fun q _ h => hFc q h) hFc (fun u tC H1 locs htC hvm hw_37 hB hz1 hk1 hS => ?_)
              obtain ⟨fS9_38, rfl⟩ : ∃ z, z = u := ⟨_, rfl⟩
              try dsimp only at hw_37 hB
              obtain ⟨hP1, hK1, hD1⟩ := hB
              rw [htC] at hP1
              have hK1 := va_K.moved hvm.symm hK1
              obtain ⟨hP, hD⟩ := va_join (wr := []) (w1 := [(zo14irriiiiiirriirrrrlriiii m0 th aS aI im (nI a) (nI p_25) (nI E) 0 5 aB aT se dn aG aO aN aD bv aY rn kd nu tv), (zaI aS cS 901 fS9_38)]) hP hD [0, 1] [] rfl rfl (by decide) (by decide) hk1 hFc hP1 hD1
              have hK := (hK.sub (tys' := []) [] rfl).app hK1
              generalize H1 = H at hP hS ⊢
              have hP : va_P (dC, dI) vwCl [(zo14irriiiiiirriirrrrlriiii m0 th aS aI im (nI a) (nI p_25) (nI E) 0 5 aB aT se dn aG aO aN aD bv aY rn kd nu tv), (zaI aS cS 901 fS9_38)] H := hP
              have hD : va_D A [(zo14irriiiiiirriirrrrlriiii m0 th aS aI im (nI a) (nI p_25) (nI E) 0 5 aB aT se dn aG aO aN aD bv aY rn kd nu tv), (zaI aS cS 901 fS9_38)] := hD
              have hK : va_K (dC, dI) vwCl [(cS, .int)] s := hK
              obtain rfl : fS9_38 = emt fS9_22 a k_26 (-3) := by rcases hw_37 with ⟨q, _⟩ | ⟨_, q⟩; exact absurd rfl q; exact q
              have hI_40 : PI (emt fS9_22 a k_26 (-3)) a (k_26 + 1) (((d + 1) + 1) - 1) p_25 E := ((hI_32).mono (by omega) (by omega)).em (by omega) (by omega) (stepd_either (by omega))
              have hF_41 : PF a fS (emt fS9_22 a k_26 (-3)) := ((hF).tr hF_30).tr (PF_emt (k := k_26) (x := (-3)) ga (by have := (hI_32).2.2.2.2.1; omega))
              refine lv_goto (tgt := 4) hx hb dX12_some_40 (by decide) ?_
              exact ih4 (p_25) ((k_26 + 1)) (0) (emt fS9_22 a k_26 (-3)) (by omega) (by omega) (hF_41) (Or.inr ⟨rfl, by omega, hI_40, by omega⟩) _ _ (hK.sub [0] rfl) (hP.sub [0, 1] rfl) (hD.sub [0, 1] (by decide) rfl) hS ls (lv_sub hl [0] rfl)
    exact L4 _ (p_6) (k) (1) (fS9_3) (Nat.lt_succ_self _) (by omega) ((PF.rf).tr hF_11) (Or.inl rfl) _ _ (hK.sub [0] rfl) (hP.sub [0, 1] rfl) (hD.sub [0, 1] (by decide) rfl) hS ls (lv_sub hl [0] rfl)
  · skip
    have k5 := hI_13.2.2.2.2.1
    have L4 : ∀ (nF : Nat) (p1 : Nat) (k1 : Nat) (w1 : Int32) (f1 : Nat → Int32), E - p1 < nF → (p0 ≤ p1 ∧ p1 ≤ E) → (PF a fS f1) → (w1 = 1 ∨ (w1 = 0 ∧ p0 + 3 ≤ p1 ∧ PI f1 a k1 (d + 1) p1 E ∧ k1 + p0 ≤ k + p1)) → ∀ (H : Heap) (locs : List Loc), va_K (dC, dI) vwCl [(cS, .int)] s → va_P (dC, dI) vwCl [(zo14irriiiiiirriirrrrlriiii m0 th aS aI im (nI a) (nI p1) (nI E) w1 5 aB aT se dn aG aO aN aD bv aY rn kd nu tv), (zaI aS cS 901 f1)] H → va_D A [(zo14irriiiiiirriirrrrlriiii m0 th aS aI im (nI a) (nI p1) (nI E) w1 5 aB aT se dn aG aO aN aD bv aY rn kd nu tv), (zaI aS cS 901 f1)] → va_S A s.heap H locs → ∀ (ls : Array Slot), lv_has ls 1 [(0, .ref m0)] → W p l e ({ frames := 7, cells := 0, slots := 0, locals := 151 } : Room) s m args below meth c H locs 0 0 Q (F0 m 4 ls []) := by
      intro nF
      induction nF with
      | zero => intro p1 k1 w1 f1 hm; exact absurd hm (Nat.not_lt_zero _)
      | succ nF ih4 =>
        intro p1 k1 w1 f1 hm h1 hF hw1 H locs hK hP hD hS ls hl
        obtain ⟨h1a, h1b⟩ := h1
        rcases hw1 with rfl | ⟨rfl, h3, hI, h4⟩
        · skip
          refine lv_aload_n hx hb dX12_some_4 rfl (lv_at hl 0 rfl) ?_
          refine va_get (D := (dC, dI)) (ci := 14) (v := .int 1) (C := RX12) (T := TX12) (N := 23) hx hb hts kc_some5_0 hown hK hP 0 rfl rfl 7 (by decide) (hts (.fieldLink RX12 65 "MistHeapsModel" "isWrong" "Z") kc_some5_1) (fun _ h9 => h9) rfl dX12_some_5 ?_
          refine lv_if_ne (tgt := 43) hx hb dX12_some_8 (by decide) (fun _ => ?_) (fun c_42 => absurd c_42 (by decide))
          rw [hQ]
          have hP9 := hP.sub (ws' := [(zo14irriiiiiirriirrrrlriiii m0 th aS aI im (nI a) (nI p1) (nI E) 1 5 aB aT se dn aG aO aN aD bv aY rn kd nu tv), (zaI aS cS 901 f1)]) [0, 1] rfl
          have hD9 := hD.sub (ws' := [(zo14irriiiiiirriirrrrlriiii m0 th aS aI im (nI a) (nI p1) (nI E) 1 5 aB aT se dn aG aO aN aD bv aY rn kd nu tv), (zaI aS cS 901 f1)]) [0, 1] (by decide) rfl
          have hK9 := hK.sub (tys' := [(cS, .int)]) [0] rfl
          exact W.vret hx hb hr (fun tQ htQ hWQ => ⟨⟨(f1, (nI p1), 1), rfl, ⟨p1, k, rfl, by omega, by omega, hF, Or.inl rfl⟩, by rw [htQ]; exact hP9, va_K.moved hWQ.alike hK9, hD9⟩, hS.F htQ⟩) hS.2.2 dX12_some_43
        · skip
          have k5 := hI.2.2.2.2.1
          refine lv_aload_n hx hb dX12_some_4 rfl (lv_at hl 0 rfl) ?_
          refine va_get (D := (dC, dI)) (ci := 14) (v := .int 0) (C := RX12) (T := TX12) (N := 23) hx hb hts kc_some5_0 hown hK hP 0 rfl rfl 7 (by decide) (hts (.fieldLink RX12 65 "MistHeapsModel" "isWrong" "Z") kc_some5_1) (fun _ h9 => h9) rfl dX12_some_5 ?_
          refine lv_if_ne (tgt := 43) hx hb dX12_some_8 (by decide) (fun c_43 => absurd c_43 (by decide)) (fun _ => ?_)
          refine lv_aload_n hx hb dX12_some_11 rfl (lv_at hl 0 rfl) ?_
          have hPc := hP.sub (ws' := [(zo14irriiiiiirriirrrrlriiii m0 th aS aI im (nI a) (nI p1) (nI E) 0 5 aB aT se dn aG aO aN aD bv aY rn kd nu tv), (zaI aS cS 901 f1)]) [0, 1] rfl
          have hKc := hK.sub (tys' := [(cS, .int)]) [0] rfl
          refine vp_callSi (va_runV (As := []) (rest := []) ⟨hx, hb, hml, hown, hts⟩ (c_here l dC dI m0 aS aI aB aT aG aO aN aD aY th im (nI a) (nI p1) (nI E) 0 5 se dn rn kd nu tv bv cS f1 a p1 E (by omega) (by omega) (by omega)) (cwV 0 hts gX12_some_X12_here rfl rfl rfl hd_yX12_here ⟨Nat.le_of_ble_eq_true rfl, Nat.le_of_ble_eq_true rfl⟩) ⟨fun a U g mk q => by obtain ⟨q0, qP, qK⟩ := q; exact ⟨q0, qP, va_K.moved (u := U) (U := U.calling g mk a) (Vm.Alike.refl U.vm) qK⟩, va_recv hK hP (ci := 14) (q := (RX12, TX12, 23)) (q0 := 0) rfl rfl, fun U hU hW => ⟨rfl, by rw [hU]; exact hPc, va_K.moved hW.alike hKc⟩⟩ rfl rfl hl.1 rfl (lv_room (Nat.le_of_ble_eq_true rfl)) dX12_some_12 ⟨Nat.le_of_ble_eq_true rfl, Nat.le_of_ble_eq_true rfl⟩).run (fun r_44 hw_45 => ?_)
          refine lv_bipush (v := 124) hx hb dX12_some_15 (by decide) ?_
          refine lv_icmp_ne (tgt := 43) hx hb dX12_some_17 (by decide) (fun c_46 => ?_) (fun c_46 => ?_)
          · skip
            rw [hQ]
            have hP9 := hP.sub (ws' := [(zo14irriiiiiirriirrrrlriiii m0 th aS aI im (nI a) (nI p1) (nI E) 0 5 aB aT se dn aG aO aN aD bv aY rn kd nu tv), (zaI aS cS 901 f1)]) [0, 1] rfl
            have hD9 := hD.sub (ws' := [(zo14irriiiiiirriirrrrlriiii m0 th aS aI im (nI a) (nI p1) (nI E) 0 5 aB aT se dn aG aO aN aD bv aY rn kd nu tv), (zaI aS cS 901 f1)]) [0, 1] (by decide) rfl
            have hK9 := hK.sub (tys' := [(cS, .int)]) [0] rfl
            exact W.vret hx hb hr (fun tQ htQ hWQ => ⟨⟨(f1, (nI p1), 0), rfl, ⟨p1, k1, rfl, by omega, by omega, hF, Or.inr ⟨rfl, by omega, hI, by omega⟩⟩, by rw [htQ]; exact hP9, va_K.moved hWQ.alike hK9, hD9⟩, hS.F htQ⟩) hS.2.2 dX12_some_43
          · skip
            have hlt : p1 < E := hv_lt (f := f1) (by rw [← hw_45, c_46]; decide)
            refine lv_aload_n hx hb dX12_some_20 rfl (lv_at hl 0 rfl) ?_
            refine lv_dup hx hb dX12_some_21 rfl ?_
            refine va_get (D := (dC, dI)) (ci := 14) (v := .int (nI p1)) (C := RX12) (T := TX12) (N := 23) hx hb hts kc_some5_0 hown hK hP 0 rfl rfl 5 (by decide) (hts (.fieldLink RX12 59 "MistHeapsModel" "spot" "I") kc_some5_2) (fun _ h9 => h9) rfl dX12_some_22 ?_
            refine lv_iconst (v := 1) hx hb dX12_some_25 (by decide) ?_
            refine lv_iadd hx hb dX12_some_26 ?_
            refine qi_as (y := nI (p1 + 1)) (nI_add p1 1) ?_
            refine va_put (D := (dC, dI)) (ci := 14) (v := .int (nI (p1 + 1))) (ty := .int) (C := RX12) (T := TX12) (N := 23) hx hb hts kc_some5_0 tyX12 tyX12_ok nmX12 hown hK hP hD hS 0 rfl rfl 5 (by decide) (hts (.fieldLink RX12 59 "MistHeapsModel" "spot" "I") kc_some5_2) (fun _ h9 => h9) rfl (by decide +kernel) rfl rfl (Nat.le_of_ble_eq_true rfl) dX12_some_27 (fun H locs hP hD hS => ?_)
            have hP : va_P (dC, dI) vwCl [(zo14irriiiiiirriirrrrlriiii m0 th aS aI im (nI a) (nI (p1 + 1)) (nI E) 0 5 aB aT se dn aG aO aN aD bv aY rn kd nu tv), (zaI aS cS 901 f1)] H := hP
            have hD : va_D A [(zo14irriiiiiirriirrrrlriiii m0 th aS aI im (nI a) (nI (p1 + 1)) (nI E) 0 5 aB aT se dn aG aO aN aD bv aY rn kd nu tv), (zaI aS cS 901 f1)] := hD
            refine lv_aload_n hx hb dX12_some_30 rfl (lv_at hl 0 rfl) ?_
            have hPc := hP.sub (ws' := [(zo14irriiiiiirriirrrrlriiii m0 th aS aI im (nI a) (nI (p1 + 1)) (nI E) 0 5 aB aT se dn aG aO aN aD bv aY rn kd nu tv), (zaI aS cS 901 f1)]) [0, 1] rfl
            have hDc := hD.sub (ws' := [(zo14irriiiiiirriirrrrlriiii m0 th aS aI im (nI a) (nI (p1 + 1)) (nI E) 0 5 aB aT se dn aG aO aN aD bv aY rn kd nu tv), (zaI aS cS 901 f1)]) [0, 1] (by decide) rfl
            have hKc := hK.sub (tys' := [(cS, .int)]) [0] rfl
            have hFc := va_free (wc := [(zo14irriiiiiirriirrrrlriiii m0 th aS aI im (nI a) (nI (p1 + 1)) (nI E) 0 5 aB aT se dn aG aO aN aD bv aY rn kd nu tv), (zaI aS cS 901 f1)]) hD hS hA [0, 1] rfl
            refine va_callv (va_runV (As := []) (rest := []) ⟨hx, hb, hml, hown, hts⟩ (c_every5 l dC dI sK sV m0 aS aI aB aT aG aO aN aD aY th im (nI a) (nI (p1 + 1)) (nI E) 0 5 se dn rn kd nu tv bv cS f1 a (p1 + 1) E k1 (d + 1) H.size ((hI).mono (by omega) (by omega))) (cwV 0 hts gX12_some_X12_every rfl rfl rfl hd_yX12_every ⟨Nat.le_of_ble_eq_true rfl, Nat.le_of_ble_eq_true rfl⟩) ⟨fun a U g mk q => by obtain ⟨q0, q1, qP, qK, qD, qhE⟩ := q; exact ⟨q0, q1, qP, va_K.moved (u := U) (U := U.calling g mk a) (Vm.Alike.refl U.vm) qK, qD, qhE.same rfl rfl⟩, va_recv hK hP (ci := 14) (q := (RX12, TX12, 23)) (q0 := 0) rfl rfl, fun U hU hW => ⟨rfl, by rw [hU], by rw [hU]; exact hPc, va_K.moved hW.alike hKc, hDc.weaken (fun _ _ _ _ => trivial), hE.call hS hU hW (fun q h => hFc q h)⟩⟩ rfl rfl hl.1 rfl (lv_room (Nat.le_of_ble_eq_true rfl)) dX12_some_31 ⟨Nat.le_of_ble_eq_true rfl, Nat.le_of_ble_eq_true rfl⟩) hS (fun q _ h => hFc q h) hFc (fun u tC H1 locs htC hvm hw_48 hB hz1 hk1 hS => ?_)
            obtain ⟨fS9_49, sp9_50, wg9_51⟩ := u
            try dsimp only at hw_48 hB
            obtain ⟨hP1, hK1, hD1⟩ := hB
            rw [htC] at hP1
            have hK1 := va_K.moved hvm.symm hK1
            obtain ⟨hP, hD⟩ := va_join (wr := []) (w1 := [(zo14irriiiiiirriirrrrlriiii m0 th aS aI im (nI a) sp9_50 (nI E) wg9_51 5 aB aT se dn aG aO aN aD bv aY rn kd nu tv), (zaI aS cS 901 fS9_49)]) hP hD [0, 1] [] rfl rfl (by decide) (by decide) hk1 hFc hP1 hD1
            have hK := (hK.sub (tys' := []) [] rfl).app hK1
            generalize H1 = H at hP hS ⊢
            have hP : va_P (dC, dI) vwCl [(zo14irriiiiiirriirrrrlriiii m0 th aS aI im (nI a) sp9_50 (nI E) wg9_51 5 aB aT se dn aG aO aN aD bv aY rn kd nu tv), (zaI aS cS 901 fS9_49)] H := hP
            have hD : va_D A [(zo14irriiiiiirriirrrrlriiii m0 th aS aI im (nI a) sp9_50 (nI E) wg9_51 5 aB aT se dn aG aO aN aD bv aY rn kd nu tv), (zaI aS cS 901 fS9_49)] := hD
            have hK : va_K (dC, dI) vwCl [(cS, .int)] s := hK
            obtain ⟨p_52, k_53, rfl, h_55, h_56, hF_57, q9⟩ := hw_48
            rcases q9 with rfl | ⟨rfl, h_58, hI_59, h_60⟩
            · skip
              refine lv_aload_n hx hb dX12_some_34 rfl (lv_at hl 0 rfl) ?_
              refine lv_bipush (v := (-3)) hx hb dX12_some_35 (by decide) ?_
              have hPc := hP.sub (ws' := [(zo14irriiiiiirriirrrrlriiii m0 th aS aI im (nI a) (nI p_52) (nI E) 1 5 aB aT se dn aG aO aN aD bv aY rn kd nu tv)]) [0] rfl
              have hKc := hK.sub (tys' := []) [] rfl
              refine va_csv (va_runV (As := [.int (-3)]) (rest := []) ⟨hx, hb, hml, hown, hts⟩ (c_emitsW l dC dI m0 aS aI aB aT aG aO aN aD aY th im (nI a) (nI p_52) (nI E) 1 5 se dn rn kd nu tv bv (-3)) (cwV 1 hts gX12_some_X12_emits rfl rfl rfl hd_yX12_emits ⟨Nat.le_of_ble_eq_true rfl, Nat.le_of_ble_eq_true rfl⟩) ⟨fun a U g mk q => by obtain ⟨q0, qP, qK⟩ := q; exact ⟨q0, qP, va_K.moved (u := U) (U := U.calling g mk a) (Vm.Alike.refl U.vm) qK⟩, va_recv hK hP (ci := 14) (q := (RX12, TX12, 23)) (q0 := 0) rfl rfl, fun U hU hW => ⟨rfl, by rw [hU]; exact hPc, va_K.moved hW.alike hKc⟩⟩ rfl rfl hl.1 rfl (lv_room (Nat.le_of_ble_eq_true rfl)) dX12_some_37 ⟨Nat.le_of_ble_eq_true rfl, Nat.le_of_ble_eq_true rfl⟩).run (fun hw_62 => ?_)
              refine lv_goto (tgt := 4) hx hb dX12_some_40 (by decide) ?_
              exact ih4 (p_52) (k) (1) (fS9_49) (by omega) (by omega) ((hF).tr hF_57) (Or.inl rfl) _ _ (hK.sub [0] rfl) (hP.sub [0, 1] rfl) (hD.sub [0, 1] (by decide) rfl) hS ls (lv_sub hl [0] rfl)
            · skip
              have k5 := hI_59.2.2.2.2.1
              refine lv_aload_n hx hb dX12_some_34 rfl (lv_at hl 0 rfl) ?_
              refine lv_bipush (v := (-3)) hx hb dX12_some_35 (by decide) ?_
              have hPc := hP.sub (ws' := [(zo14irriiiiiirriirrrrlriiii m0 th aS aI im (nI a) (nI p_52) (nI E) 0 5 aB aT se dn aG aO aN aD bv aY rn kd nu tv), (zaI aS cS 901 fS9_49)]) [0, 1] rfl
              have hDc := hD.sub (ws' := [(zo14irriiiiiirriirrrrlriiii m0 th aS aI im (nI a) (nI p_52) (nI E) 0 5 aB aT se dn aG aO aN aD bv aY rn kd nu tv), (zaI aS cS 901 fS9_49)]) [0, 1] (by decide) rfl
              have hKc := hK.sub (tys' := [(cS, .int)]) [0] rfl
              have hFc := va_free (wc := [(zo14irriiiiiirriirrrrlriiii m0 th aS aI im (nI a) (nI p_52) (nI E) 0 5 aB aT se dn aG aO aN aD bv aY rn kd nu tv), (zaI aS cS 901 fS9_49)]) hD hS hA [0, 1] rfl
              refine va_callv (va_runV (As := [.int (-3)]) (rest := []) ⟨hx, hb, hml, hown, hts⟩ (c_emits l dC dI m0 aS aI aB aT aG aO aN aD aY th im (nI a) (nI p_52) (nI E) 0 5 se dn rn kd nu tv bv cS fS9_49 a k_53 (-3) H.size (ga) ((hI_59).2.2.2.1) (by have := (hI_59).2.2.2.2.1; omega)) (cwV 1 hts gX12_some_X12_emits rfl rfl rfl hd_yX12_emits ⟨Nat.le_of_ble_eq_true rfl, Nat.le_of_ble_eq_true rfl⟩) ⟨fun a U g mk q => by obtain ⟨q0, q1, qP, qK, qD⟩ := q; exact ⟨q0, q1, qP, va_K.moved (u := U) (U := U.calling g mk a) (Vm.Alike.refl U.vm) qK, qD⟩, va_recv hK hP (ci := 14) (q := (RX12, TX12, 23)) (q0 := 0) rfl rfl, fun U hU hW => ⟨rfl, by rw [hU], by rw [hU]; exact hPc, va_K.moved hW.alike hKc, hDc.weaken (fun _ _ _ _ => trivial)⟩⟩ rfl rfl hl.1 rfl (lv_room (Nat.le_of_ble_eq_true rfl)) dX12_some_37 ⟨Nat.le_of_ble_eq_true rfl, Nat.le_of_ble_eq_true rfl⟩) hS (fun q _ h => hFc q h) hFc (fun u tC H1 locs htC hvm hw_64 hB hz1 hk1 hS => ?_)
              obtain ⟨fS9_65, rfl⟩ : ∃ z, z = u := ⟨_, rfl⟩
              try dsimp only at hw_64 hB
              obtain ⟨hP1, hK1, hD1⟩ := hB
              rw [htC] at hP1
              have hK1 := va_K.moved hvm.symm hK1
              obtain ⟨hP, hD⟩ := va_join (wr := []) (w1 := [(zo14irriiiiiirriirrrrlriiii m0 th aS aI im (nI a) (nI p_52) (nI E) 0 5 aB aT se dn aG aO aN aD bv aY rn kd nu tv), (zaI aS cS 901 fS9_65)]) hP hD [0, 1] [] rfl rfl (by decide) (by decide) hk1 hFc hP1 hD1
              have hK := (hK.sub (tys' := []) [] rfl).app hK1
              generalize H1 = H at hP hS ⊢
              have hP : va_P (dC, dI) vwCl [(zo14irriiiiiirriirrrrlriiii m0 th aS aI im (nI a) (nI p_52) (nI E) 0 5 aB aT se dn aG aO aN aD bv aY rn kd nu tv), (zaI aS cS 901 fS9_65)] H := hP
              have hD : va_D A [(zo14irriiiiiirriirrrrlriiii m0 th aS aI im (nI a) (nI p_52) (nI E) 0 5 aB aT se dn aG aO aN aD bv aY rn kd nu tv), (zaI aS cS 901 fS9_65)] := hD
              have hK : va_K (dC, dI) vwCl [(cS, .int)] s := hK
              obtain rfl : fS9_65 = emt fS9_49 a k_53 (-3) := by rcases hw_64 with ⟨q, _⟩ | ⟨_, q⟩; exact absurd rfl q; exact q
              have hI_67 : PI (emt fS9_49 a k_53 (-3)) a (k_53 + 1) (((d + 1) + 1) - 1) p_52 E := ((hI_59).mono (by omega) (by omega)).em (by omega) (by omega) (stepd_either (by omega))
              have hF_68 : PF a fS (emt fS9_49 a k_53 (-3)) := ((hF).tr hF_57).tr (PF_emt (k := k_53) (x := (-3)) ga (by have := (hI_59).2.2.2.2.1; omega))
              refine lv_goto (tgt := 4) hx hb dX12_some_40 (by decide) ?_
              exact ih4 (p_52) ((k_53 + 1)) (0) (emt fS9_49 a k_53 (-3)) (by omega) (by omega) (hF_68) (Or.inr ⟨rfl, by omega, hI_67, by omega⟩) _ _ (hK.sub [0] rfl) (hP.sub [0, 1] rfl) (hD.sub [0, 1] (by decide) rfl) hS ls (lv_sub hl [0] rfl)
    exact L4 _ (p_6) (k_7) (0) (fS9_3) (Nat.lt_succ_self _) (by omega) ((PF.rf).tr hF_11) (Or.inr ⟨rfl, by omega, hI_13, by omega⟩) _ _ (hK.sub [0] rfl) (hP.sub [0, 1] rfl) (hD.sub [0, 1] (by decide) rfl) hS ls (lv_sub hl [0] rfl)
end mg12b
section mg12b
theorem dX12_factor_38 : decode cX12_factor 38 = .ok (.iconst 0, 1) := by decide +kernel
theorem dX12_factor_68 : decode cX12_factor 68 = .ok (.iconst 1, 1) := by decide +kernel
theorem kc_factor4_0 : ∀ w ∈ wsX120, w ∈ wsX12_factor := fun w h => List.mem_cons_of_mem _ (gin_wsX120 w h)
theorem kc_factor4_1 : (.fieldLink RX12 65 "MistHeapsModel" "isWrong" "Z" : Cond) ∈ wsX12_factor := kc_of 1147 rfl rfl rfl
theorem kc_factor4_2 : (.fieldLink RX12 89 "MistHeapsModel" "open" "I" : Cond) ∈ wsX12_factor := kc_of 1148 rfl rfl rfl
theorem kc_factor4_3 : (.fieldLink RX12 59 "MistHeapsModel" "spot" "I" : Cond) ∈ wsX12_factor := kc_of 1145 rfl rfl rfl
set_option maxHeartbeats 4000000 in
set_option maxRecDepth 100000 in
theorem c_factor4 (l : Launch) (dC : Nat → ClassId) (dI : Nat → Nat → Nat) (sK sV : Nat → Nat) (m0 aS aI aB aT aG aO aN aD aY : Nat) (th im ac sp en wg op se dn rn kd nu tv : Int32) (bv : Int64) (cS : ClassId) (fS : Nat → Int32) (a p0 E k d : Nat) (sz : Nat) (gI : PI fS a k d p0 E) : Met l yX12_factor wsX12_factor ({ frames := 8, cells := 0, slots := 0, locals := 171 } : Room) (va_Pc [.ref m0] (fun U => U.heap.size = sz ∧ va_P (dC, dI) vwCl [(zo14irriiiiiirriirrrrlriiii m0 th aS aI im (nI a) (nI p0) (nI E) 0 4 aB aT se dn aG aO aN aD bv aY rn kd nu tv), (zaI aS cS 901 fS)] U.heap ∧ va_K (dC, dI) vwCl [(cS, .int)] U ∧ va_D (fun _ => True) [(zo14irriiiiiirriirrrrlriiii m0 th aS aI im (nI a) (nI p0) (nI E) 0 4 aB aT se dn aG aO aN aD bv aY rn kd nu tv), (zaI aS cS 901 fS)] ∧ Gs sK sV (va_A [(zo14irriiiiiirriirrrrlriiii m0 th aS aI im (nI a) (nI p0) (nI E) 0 4 aB aT se dn aG aO aN aD bv aY rn kd nu tv), (zaI aS cS 901 fS)] sz) U)) (va_Qv (fun (u : (Nat → Int32) × (Int32) × (Int32)) => match u with | (fS9, sp9, wg9) => ∃ p9 k9 : Nat, sp9 = nI p9 ∧ p0 ≤ p9 ∧ p9 ≤ E ∧ PF a fS fS9 ∧ (wg9 = 1 ∨ (wg9 = 0 ∧ p0 + 3 ≤ p9 ∧ PI fS9 a k9 (d + 1) p9 E ∧ k9 + p0 ≤ k + p9))) (fun (u : (Nat → Int32) × (Int32) × (Int32)) (t : State) => match u with | (fS9, sp9, wg9) => va_P (dC, dI) vwCl [(zo14irriiiiiirriirrrrlriiii m0 th aS aI im (nI a) sp9 (nI E) wg9 4 aB aT se dn aG aO aN aD bv aY rn kd nu tv), (zaI aS cS 901 fS9)] t.heap ∧ va_K (dC, dI) vwCl [(cS, .int)] t ∧ va_D (va_A [(zo14irriiiiiirriirrrrlriiii m0 th aS aI im (nI a) (nI p0) (nI E) 0 4 aB aT se dn aG aO aN aD bv aY rn kd nu tv), (zaI aS cS 901 fS)] sz) [(zo14irriiiiiirriirrrrlriiii m0 th aS aI im (nI a) sp9 (nI E) wg9 4 aB aT se dn aG aO aN aD bv aY rn kd nu tv), (zaI aS cS 901 fS9)]) (va_A [(zo14irriiiiiirriirrrrlriiii m0 th aS aI im (nI a) (nI p0) (nI E) 0 4 aB aT se dn aG aO aN aD bv aY rn kd nu tv), (zaI aS cS 901 fS)] sz)) 0 0 (va_A [(zo14irriiiiiirriirrrrlriiii m0 th aS aI im (nI a) (nI p0) (nI E) 0 4 aB aT se dn aG aO aN aD bv aY rn kd nu tv), (zaI aS cS 901 fS)] sz) := by
  refine met_ofQ (cc := cX12_factor) (maxL := 5) (ret := none) (by decide) rfl ?_
  intro p e s m args below meth c s₁ Q B hml hv hQ
  obtain ⟨rfl, hsz, hP, hK, hD0, hE⟩ := hv
  have hx := B.exec
  have hb := B.bytes
  have hr := B.returns
  have hts := atoms_spec (ws := wsX12_factor) B.pre
  have hown : s.vm.findClass RX12 = some m.cls := findClass_of_methodNamed B.named
  have hlocks := B.notSynchronized
  subst hsz
  have hD := hD0.self (sz := s.heap.size)
  generalize hAe : va_A [(zo14irriiiiiirriirrrrlriiii m0 th aS aI im (nI a) (nI p0) (nI E) 0 4 aB aT se dn aG aO aN aD bv aY rn kd nu tv), (zaI aS cS 901 fS)] s.heap.size = A at hD hQ hE ⊢
  have hA : ∀ q : Nat, s.heap.size ≤ q → A q := fun q h => by rw [← hAe]; exact Or.inr h
  have hS : va_S A s.heap s.heap [] := va_S.rf
  have hl := lv_entry [.ref m0] (n := 5) (Nat.le_of_ble_eq_true rfl)
  rw [lg_entry_eq]
  generalize (lg_sl [.ref m0] ++ List.replicate (5 - (lg_sl [.ref m0]).length) Slot.unset).toArray = ls at hl ⊢
  generalize hag : ([.ref m0] : List Value).toArray = args at hts hQ ⊢
  have hl : lv_has ls 5 [(0, .ref m0)] := hl
  obtain ⟨H, hH⟩ : ∃ H : Heap, H = s.heap := ⟨_, rfl⟩
  rw [← hH] at hP
  rw [← hH]
  have hS : va_S A s.heap H [] := by rw [hH]; exact hS
  obtain ⟨locs, hlo⟩ : ∃ L : List Loc, L = [] := ⟨_, rfl⟩
  rw [← hlo] at hS
  rw [← hlo]
  clear hH hlo
  obtain ⟨ga, gp, gE, zk, gkp, gd, gs⟩ := id gI
  refine lv_aload_n hx hb dX12_factor_0 rfl (lv_at hl 0 rfl) ?_
  refine va_get (D := (dC, dI)) (ci := 14) (v := .int 0) (C := RX12) (T := TX12) (N := 23) hx hb hts kc_factor4_0 hown hK hP 0 rfl rfl 7 (by decide) (hts (.fieldLink RX12 65 "MistHeapsModel" "isWrong" "Z") kc_factor4_1) (fun _ h9 => h9) rfl dX12_factor_1 ?_
  refine lv_if_eq (tgt := 8) hx hb dX12_factor_4 (by decide) (fun _ => ?_) (fun c_1 => absurd c_1 (by decide))
  refine lv_aload_n hx hb dX12_factor_8 rfl (lv_at hl 0 rfl) ?_
  have hPc := hP.sub (ws' := [(zo14irriiiiiirriirrrrlriiii m0 th aS aI im (nI a) (nI p0) (nI E) 0 4 aB aT se dn aG aO aN aD bv aY rn kd nu tv), (zaI aS cS 901 fS)]) [0, 1] rfl
  have hKc := hK.sub (tys' := [(cS, .int)]) [0] rfl
  refine vp_callSi (va_runV (As := []) (rest := []) ⟨hx, hb, hml, hown, hts⟩ (c_here l dC dI m0 aS aI aB aT aG aO aN aD aY th im (nI a) (nI p0) (nI E) 0 4 se dn rn kd nu tv bv cS fS a p0 E (by omega) (by omega) (by omega)) (cwV 0 hts gX12_factor_X12_here rfl rfl rfl hd_yX12_here ⟨Nat.le_of_ble_eq_true rfl, Nat.le_of_ble_eq_true rfl⟩) ⟨fun a U g mk q => by obtain ⟨q0, qP, qK⟩ := q; exact ⟨q0, qP, va_K.moved (u := U) (U := U.calling g mk a) (Vm.Alike.refl U.vm) qK⟩, va_recv hK hP (ci := 14) (q := (RX12, TX12, 23)) (q0 := 0) rfl rfl, fun U hU hW => ⟨rfl, by rw [hU]; exact hPc, va_K.moved hW.alike hKc⟩⟩ rfl rfl hl.1 rfl (lv_room (Nat.le_of_ble_eq_true rfl)) dX12_factor_9 ⟨Nat.le_of_ble_eq_true rfl, Nat.le_of_ble_eq_true rfl⟩).run (fun r_2 hw_3 => ?_)
  refine lv_istore_n (lv' := [(1, .int r_2), (0, .ref m0)]) hx hb dX12_factor_12 rfl hl (by decide) rfl (fun ls hl => ?_)
  refine lv_iload_n hx hb dX12_factor_13 rfl (lv_at hl 0 rfl) ?_
  refine lv_bipush (v := 33) hx hb dX12_factor_14 (by decide) ?_
  refine lv_icmp_eq (tgt := 25) hx hb dX12_factor_16 (by decide) (fun c_4 => ?_) (fun c_4 => ?_)
  · skip
    subst c_4
    have hlt : p0 < E := hv_lt (f := fS) (by rw [← hw_3]; decide)
    refine lv_aload_n hx hb dX12_factor_25 rfl (lv_at hl 1 rfl) ?_
    refine lv_aload_n hx hb dX12_factor_26 rfl (lv_at hl 1 rfl) ?_
    refine va_get (D := (dC, dI)) (ci := 14) (v := .int 4) (C := RX12) (T := TX12) (N := 23) hx hb hts kc_factor4_0 hown hK hP 0 rfl rfl 8 (by decide) (hts (.fieldLink RX12 89 "MistHeapsModel" "open" "I") kc_factor4_2) (fun _ h9 => h9) rfl dX12_factor_27 ?_
    refine lv_iconst (v := 5) hx hb dX12_factor_30 (by decide) ?_
    refine lv_icmp_ne (tgt := 38) hx hb dX12_factor_31 (by decide) (fun _ => ?_) (fun c_5 => absurd c_5 (by decide))
    refine lv_iconst (v := 0) hx hb dX12_factor_38 (by decide) ?_
    refine va_put (D := (dC, dI)) (ci := 14) (v := .int 0) (ty := .boolean) (C := RX12) (T := TX12) (N := 23) hx hb hts kc_factor4_0 tyX12 tyX12_ok nmX12 hown hK hP hD hS 0 rfl rfl 7 (by decide) (hts (.fieldLink RX12 65 "MistHeapsModel" "isWrong" "Z") kc_factor4_1) (fun _ h9 => h9) rfl (by decide +kernel) rfl rfl (Nat.le_of_ble_eq_true rfl) dX12_factor_39 (fun H locs hP hD hS => ?_)
    have hP : va_P (dC, dI) vwCl [(zo14irriiiiiirriirrrrlriiii m0 th aS aI im (nI a) (nI p0) (nI E) 0 4 aB aT se dn aG aO aN aD bv aY rn kd nu tv), (zaI aS cS 901 fS)] H := hP
    have hD : va_D A [(zo14irriiiiiirriirrrrlriiii m0 th aS aI im (nI a) (nI p0) (nI E) 0 4 aB aT se dn aG aO aN aD bv aY rn kd nu tv), (zaI aS cS 901 fS)] := hD
    refine lv_aload_n hx hb dX12_factor_42 rfl (lv_at hl 1 rfl) ?_
    refine lv_dup hx hb dX12_factor_43 rfl ?_
    refine va_get (D := (dC, dI)) (ci := 14) (v := .int 4) (C := RX12) (T := TX12) (N := 23) hx hb hts kc_factor4_0 hown hK hP 0 rfl rfl 8 (by decide) (hts (.fieldLink RX12 89 "MistHeapsModel" "open" "I") kc_factor4_2) (fun _ h9 => h9) rfl dX12_factor_44 ?_
    refine lv_iconst (v := 1) hx hb dX12_factor_47 (by decide) ?_
    refine lv_iadd hx hb dX12_factor_48 ?_
    refine qi_as (y := 5) (by decide) ?_
    refine va_put (D := (dC, dI)) (ci := 14) (v := .int 5) (ty := .int) (C := RX12) (T := TX12) (N := 23) hx hb hts kc_factor4_0 tyX12 tyX12_ok nmX12 hown hK hP hD hS 0 rfl rfl 8 (by decide) (hts (.fieldLink RX12 89 "MistHeapsModel" "open" "I") kc_factor4_2) (fun _ h9 => h9) rfl (by decide +kernel) rfl rfl (Nat.le_of_ble_eq_true rfl) dX12_factor_49 (fun H locs hP hD hS => ?_)
    have hP : va_P (dC, dI) vwCl [(zo14irriiiiiirriirrrrlriiii m0 th aS aI im (nI a) (nI p0) (nI E) 0 5 aB aT se dn aG aO aN aD bv aY rn kd nu tv), (zaI aS cS 901 fS)] H := hP
    have hD : va_D A [(zo14irriiiiiirriirrrrlriiii m0 th aS aI im (nI a) (nI p0) (nI E) 0 5 aB aT se dn aG aO aN aD bv aY rn kd nu tv), (zaI aS cS 901 fS)] := hD
    refine lv_aload_n hx hb dX12_factor_52 rfl (lv_at hl 1 rfl) ?_
    refine lv_dup hx hb dX12_factor_53 rfl ?_
    refine va_get (D := (dC, dI)) (ci := 14) (v := .int (nI p0)) (C := RX12) (T := TX12) (N := 23) hx hb hts kc_factor4_0 hown hK hP 0 rfl rfl 5 (by decide) (hts (.fieldLink RX12 59 "MistHeapsModel" "spot" "I") kc_factor4_3) (fun _ h9 => h9) rfl dX12_factor_54 ?_
    refine lv_aload_n hx hb dX12_factor_57 rfl (lv_at hl 1 rfl) ?_
    refine va_get (D := (dC, dI)) (ci := 14) (v := .int 0) (C := RX12) (T := TX12) (N := 23) hx hb hts kc_factor4_0 hown hK hP 0 rfl rfl 7 (by decide) (hts (.fieldLink RX12 65 "MistHeapsModel" "isWrong" "Z") kc_factor4_1) (fun _ h9 => h9) rfl dX12_factor_58 ?_
    refine lv_if_eq (tgt := 68) hx hb dX12_factor_61 (by decide) (fun _ => ?_) (fun c_6 => absurd c_6 (by decide))
    refine lv_iconst (v := 1) hx hb dX12_factor_68 (by decide) ?_
    refine lv_iadd hx hb dX12_factor_69 ?_
    refine qi_as (y := nI (p0 + 1)) (nI_add p0 1) ?_
    refine va_put (D := (dC, dI)) (ci := 14) (v := .int (nI (p0 + 1))) (ty := .int) (C := RX12) (T := TX12) (N := 23) hx hb hts kc_factor4_0 tyX12 tyX12_ok nmX12 hown hK hP hD hS 0 rfl rfl 5 (by decide) (hts (.fieldLink RX12 59 "MistHeapsModel" "spot" "I") kc_factor4_3) (fun _ h9 => h9) rfl (by decide +kernel) rfl rfl (Nat.le_of_ble_eq_true rfl) dX12_factor_70 (fun H locs hP hD hS => ?_)
    have hP : va_P (dC, dI) vwCl [(zo14irriiiiiirriirrrrlriiii m0 th aS aI im (nI a) (nI (p0 + 1)) (nI E) 0 5 aB aT se dn aG aO aN aD bv aY rn kd nu tv), (zaI aS cS 901 fS)] H := hP
    have hD : va_D A [(zo14irriiiiiirriirrrrlriiii m0 th aS aI im (nI a) (nI (p0 + 1)) (nI E) 0 5 aB aT se dn aG aO aN aD bv aY rn kd nu tv), (zaI aS cS 901 fS)] := hD
    refine lv_iload_n hx hb dX12_factor_73 rfl (lv_at hl 0 rfl) ?_
    refine lv_bipush (v := 33) hx hb dX12_factor_74 (by decide) ?_
    refine lv_icmp_ne (tgt := 91) hx hb dX12_factor_76 (by decide) (fun c_7 => absurd c_7 (by decide)) (fun _ => ?_)
    refine lv_aload_n hx hb dX12_factor_79 rfl (lv_at hl 1 rfl) ?_
    have hPc := hP.sub (ws' := [(zo14irriiiiiirriirrrrlriiii m0 th aS aI im (nI a) (nI (p0 + 1)) (nI E) 0 5 aB aT se dn aG aO aN aD bv aY rn kd nu tv), (zaI aS cS 901 fS)]) [0, 1] rfl
    have hDc := hD.sub (ws' := [(zo14irriiiiiirriirrrrlriiii m0 th aS aI im (nI a) (nI (p0 + 1)) (nI E) 0 5 aB aT se dn aG aO aN aD bv aY rn kd nu tv), (zaI aS cS 901 fS)]) [0, 1] (by decide) rfl
    have hKc := hK.sub (tys' := [(cS, .int)]) [0] rfl
    have hFc := va_free (wc := [(zo14irriiiiiirriirrrrlriiii m0 th aS aI im (nI a) (nI (p0 + 1)) (nI E) 0 5 aB aT se dn aG aO aN aD bv aY rn kd nu tv), (zaI aS cS 901 fS)]) hD hS hA [0, 1] rfl
    refine va_callv (va_runV (As := []) (rest := []) ⟨hx, hb, hml, hown, hts⟩ (c_factor5 l dC dI sK sV m0 aS aI aB aT aG aO aN aD aY th im (nI a) (nI (p0 + 1)) (nI E) 0 5 se dn rn kd nu tv bv cS fS a (p0 + 1) E k d H.size ((gI).mono (by omega) (by omega))) (cwV 0 hts gX12_factor_X12_factor rfl rfl rfl hd_yX12_factor ⟨Nat.le_of_ble_eq_true rfl, Nat.le_of_ble_eq_true rfl⟩) ⟨fun a U g mk q => by obtain ⟨q0, q1, qP, qK, qD, qhE⟩ := q; exact ⟨q0, q1, qP, va_K.moved (u := U) (U := U.calling g mk a) (Vm.Alike.refl U.vm) qK, qD, qhE.same rfl rfl⟩, va_recv hK hP (ci := 14) (q := (RX12, TX12, 23)) (q0 := 0) rfl rfl, fun U hU hW => ⟨rfl, by rw [hU], by rw [hU]; exact hPc, va_K.moved hW.alike hKc, hDc.weaken (fun _ _ _ _ => trivial), hE.call hS hU hW (fun q h => hFc q h)⟩⟩ rfl rfl hl.1 rfl (lv_room (Nat.le_of_ble_eq_true rfl)) dX12_factor_80 ⟨Nat.le_of_ble_eq_true rfl, Nat.le_of_ble_eq_true rfl⟩) hS (fun q _ h => hFc q h) hFc (fun u tC H1 locs htC hvm hw_9 hB hz1 hk1 hS => ?_)
    obtain ⟨fS9_10, sp9_11, wg9_12⟩ := u
    try dsimp only at hw_9 hB
    obtain ⟨hP1, hK1, hD1⟩ := hB
    rw [htC] at hP1
    have hK1 := va_K.moved hvm.symm hK1
    obtain ⟨hP, hD⟩ := va_join (wr := []) (w1 := [(zo14irriiiiiirriirrrrlriiii m0 th aS aI im (nI a) sp9_11 (nI E) wg9_12 5 aB aT se dn aG aO aN aD bv aY rn kd nu tv), (zaI aS cS 901 fS9_10)]) hP hD [0, 1] [] rfl rfl (by decide) (by decide) hk1 hFc hP1 hD1
    have hK := (hK.sub (tys' := []) [] rfl).app hK1
    generalize H1 = H at hP hS ⊢
    have hP : va_P (dC, dI) vwCl [(zo14irriiiiiirriirrrrlriiii m0 th aS aI im (nI a) sp9_11 (nI E) wg9_12 5 aB aT se dn aG aO aN aD bv aY rn kd nu tv), (zaI aS cS 901 fS9_10)] H := hP
    have hD : va_D A [(zo14irriiiiiirriirrrrlriiii m0 th aS aI im (nI a) sp9_11 (nI E) wg9_12 5 aB aT se dn aG aO aN aD bv aY rn kd nu tv), (zaI aS cS 901 fS9_10)] := hD
    have hK : va_K (dC, dI) vwCl [(cS, .int)] s := hK
    obtain ⟨p_13, k_14, rfl, h_16, h_17, hF_18, q9⟩ := hw_9
    rcases q9 with rfl | ⟨rfl, h_19, hI_20, h_21⟩
    · skip
      refine lv_aload_n hx hb dX12_factor_83 rfl (lv_at hl 1 rfl) ?_
      refine lv_iconst (v := (-1)) hx hb dX12_factor_84 (by decide) ?_
      have hPc := hP.sub (ws' := [(zo14irriiiiiirriirrrrlriiii m0 th aS aI im (nI a) (nI p_13) (nI E) 1 5 aB aT se dn aG aO aN aD bv aY rn kd nu tv)]) [0] rfl
      have hKc := hK.sub (tys' := []) [] rfl
      refine va_csv (va_runV (As := [.int (-1)]) (rest := []) ⟨hx, hb, hml, hown, hts⟩ (c_emitsW l dC dI m0 aS aI aB aT aG aO aN aD aY th im (nI a) (nI p_13) (nI E) 1 5 se dn rn kd nu tv bv (-1)) (cwV 1 hts gX12_factor_X12_emits rfl rfl rfl hd_yX12_emits ⟨Nat.le_of_ble_eq_true rfl, Nat.le_of_ble_eq_true rfl⟩) ⟨fun a U g mk q => by obtain ⟨q0, qP, qK⟩ := q; exact ⟨q0, qP, va_K.moved (u := U) (U := U.calling g mk a) (Vm.Alike.refl U.vm) qK⟩, va_recv hK hP (ci := 14) (q := (RX12, TX12, 23)) (q0 := 0) rfl rfl, fun U hU hW => ⟨rfl, by rw [hU]; exact hPc, va_K.moved hW.alike hKc⟩⟩ rfl rfl hl.1 rfl (lv_room (Nat.le_of_ble_eq_true rfl)) dX12_factor_85 ⟨Nat.le_of_ble_eq_true rfl, Nat.le_of_ble_eq_true rfl⟩).run (fun hw_23 => ?_)
      refine lv_goto (tgt := 101) hx hb dX12_factor_88 (by decide) ?_
      refine lv_aload_n hx hb dX12_factor_101 rfl (lv_at hl 1 rfl) ?_
      refine lv_dup hx hb dX12_factor_102 rfl ?_
      refine va_get (D := (dC, dI)) (ci := 14) (v := .int 5) (C := RX12) (T := TX12) (N := 23) hx hb hts kc_factor4_0 hown hK hP 0 rfl rfl 8 (by decide) (hts (.fieldLink RX12 89 "MistHeapsModel" "open" "I") kc_factor4_2) (fun _ h9 => h9) rfl dX12_factor_103 ?_
      refine lv_iconst (v := 1) hx hb dX12_factor_106 (by decide) ?_
      refine lv_isub hx hb dX12_factor_107 ?_
      refine qi_as (y := 4) (by decide) ?_
      refine va_put (D := (dC, dI)) (ci := 14) (v := .int 4) (ty := .int) (C := RX12) (T := TX12) (N := 23) hx hb hts kc_factor4_0 tyX12 tyX12_ok nmX12 hown hK hP hD hS 0 rfl rfl 8 (by decide) (hts (.fieldLink RX12 89 "MistHeapsModel" "open" "I") kc_factor4_2) (fun _ h9 => h9) rfl (by decide +kernel) rfl rfl (Nat.le_of_ble_eq_true rfl) dX12_factor_108 (fun H locs hP hD hS => ?_)
      have hP : va_P (dC, dI) vwCl [(zo14irriiiiiirriirrrrlriiii m0 th aS aI im (nI a) (nI p_13) (nI E) 1 4 aB aT se dn aG aO aN aD bv aY rn kd nu tv), (zaI aS cS 901 fS9_10)] H := hP
      have hD : va_D A [(zo14irriiiiiirriirrrrlriiii m0 th aS aI im (nI a) (nI p_13) (nI E) 1 4 aB aT se dn aG aO aN aD bv aY rn kd nu tv), (zaI aS cS 901 fS9_10)] := hD
      rw [hQ]
      have hP9 := hP.sub (ws' := [(zo14irriiiiiirriirrrrlriiii m0 th aS aI im (nI a) (nI p_13) (nI E) 1 4 aB aT se dn aG aO aN aD bv aY rn kd nu tv), (zaI aS cS 901 fS9_10)]) [0, 1] rfl
      have hD9 := hD.sub (ws' := [(zo14irriiiiiirriirrrrlriiii m0 th aS aI im (nI a) (nI p_13) (nI E) 1 4 aB aT se dn aG aO aN aD bv aY rn kd nu tv), (zaI aS cS 901 fS9_10)]) [0, 1] (by decide) rfl
      have hK9 := hK.sub (tys' := [(cS, .int)]) [0] rfl
      exact W.vret hx hb hr (fun tQ htQ hWQ => ⟨⟨(fS9_10, (nI p_13), 1), rfl, ⟨p_13, k, rfl, by omega, by omega, (PF.rf).tr hF_18, Or.inl rfl⟩, by rw [htQ]; exact hP9, va_K.moved hWQ.alike hK9, hD9⟩, hS.F htQ⟩) hS.2.2 dX12_factor_111
    · skip
      have k5 := hI_20.2.2.2.2.1
      refine lv_aload_n hx hb dX12_factor_83 rfl (lv_at hl 1 rfl) ?_
      refine lv_iconst (v := (-1)) hx hb dX12_factor_84 (by decide) ?_
      have hPc := hP.sub (ws' := [(zo14irriiiiiirriirrrrlriiii m0 th aS aI im (nI a) (nI p_13) (nI E) 0 5 aB aT se dn aG aO aN aD bv aY rn kd nu tv), (zaI aS cS 901 fS9_10)]) [0, 1] rfl
      have hDc := hD.sub (ws' := [(zo14irriiiiiirriirrrrlriiii m0 th aS aI im (nI a) (nI p_13) (nI E) 0 5 aB aT se dn aG aO aN aD bv aY rn kd nu tv), (zaI aS cS 901 fS9_10)]) [0, 1] (by decide) rfl
      have hKc := hK.sub (tys' := [(cS, .int)]) [0] rfl
      have hFc := va_free (wc := [(zo14irriiiiiirriirrrrlriiii m0 th aS aI im (nI a) (nI p_13) (nI E) 0 5 aB aT se dn aG aO aN aD bv aY rn kd nu tv), (zaI aS cS 901 fS9_10)]) hD hS hA [0, 1] rfl
      refine va_callv (va_runV (As := [.int (-1)]) (rest := []) ⟨hx, hb, hml, hown, hts⟩ (c_emits l dC dI m0 aS aI aB aT aG aO aN aD aY th im (nI a) (nI p_13) (nI E) 0 5 se dn rn kd nu tv bv cS fS9_10 a k_14 (-1) H.size (ga) ((hI_20).2.2.2.1) (by have := (hI_20).2.2.2.2.1; omega)) (cwV 1 hts gX12_factor_X12_emits rfl rfl rfl hd_yX12_emits ⟨Nat.le_of_ble_eq_true rfl, Nat.le_of_ble_eq_true rfl⟩) ⟨fun a U g mk q => by obtain ⟨q0, q1, qP, qK, qD⟩ := q; exact ⟨q0, q1, qP, va_K.moved (u := U) (U := U.calling g mk a) (Vm.Alike.refl U.vm) qK, qD⟩, va_recv hK hP (ci := 14) (q := (RX12, TX12, 23)) (q0 := 0) rfl rfl, fun U hU hW => ⟨rfl, by rw [hU], by rw [hU]; exact hPc, va_K.moved hW.alike hKc, hDc.weaken (fun _ _ _ _ => trivial)⟩⟩ rfl rfl hl.1 rfl (lv_room (Nat.le_of_ble_eq_true rfl)) dX12_factor_85 ⟨Nat.le_of_ble_eq_true rfl, Nat.le_of_ble_eq_true rfl⟩) hS (fun q _ h => hFc q h) hFc (fun u tC H1 locs htC hvm hw_25 hB hz1 hk1 hS => ?_)
      obtain ⟨fS9_26, rfl⟩ : ∃ z, z = u := ⟨_, rfl⟩
      try dsimp only at hw_25 hB
      obtain ⟨hP1, hK1, hD1⟩ := hB
      rw [htC] at hP1
      have hK1 := va_K.moved hvm.symm hK1
      obtain ⟨hP, hD⟩ := va_join (wr := []) (w1 := [(zo14irriiiiiirriirrrrlriiii m0 th aS aI im (nI a) (nI p_13) (nI E) 0 5 aB aT se dn aG aO aN aD bv aY rn kd nu tv), (zaI aS cS 901 fS9_26)]) hP hD [0, 1] [] rfl rfl (by decide) (by decide) hk1 hFc hP1 hD1
      have hK := (hK.sub (tys' := []) [] rfl).app hK1
      generalize H1 = H at hP hS ⊢
      have hP : va_P (dC, dI) vwCl [(zo14irriiiiiirriirrrrlriiii m0 th aS aI im (nI a) (nI p_13) (nI E) 0 5 aB aT se dn aG aO aN aD bv aY rn kd nu tv), (zaI aS cS 901 fS9_26)] H := hP
      have hD : va_D A [(zo14irriiiiiirriirrrrlriiii m0 th aS aI im (nI a) (nI p_13) (nI E) 0 5 aB aT se dn aG aO aN aD bv aY rn kd nu tv), (zaI aS cS 901 fS9_26)] := hD
      have hK : va_K (dC, dI) vwCl [(cS, .int)] s := hK
      obtain rfl : fS9_26 = emt fS9_10 a k_14 (-1) := by rcases hw_25 with ⟨q, _⟩ | ⟨_, q⟩; exact absurd rfl q; exact q
      have hI_28 : PI (emt fS9_10 a k_14 (-1)) a (k_14 + 1) (d + 1) p_13 E := ((hI_20).mono (by omega) (by omega)).em (by omega) (by omega) (stepd_not (by omega))
      have hF_29 : PF a fS (emt fS9_10 a k_14 (-1)) := ((PF.rf).tr hF_18).tr (PF_emt (k := k_14) (x := (-1)) ga (by have := (hI_20).2.2.2.2.1; omega))
      refine lv_goto (tgt := 101) hx hb dX12_factor_88 (by decide) ?_
      refine lv_aload_n hx hb dX12_factor_101 rfl (lv_at hl 1 rfl) ?_
      refine lv_dup hx hb dX12_factor_102 rfl ?_
      refine va_get (D := (dC, dI)) (ci := 14) (v := .int 5) (C := RX12) (T := TX12) (N := 23) hx hb hts kc_factor4_0 hown hK hP 0 rfl rfl 8 (by decide) (hts (.fieldLink RX12 89 "MistHeapsModel" "open" "I") kc_factor4_2) (fun _ h9 => h9) rfl dX12_factor_103 ?_
      refine lv_iconst (v := 1) hx hb dX12_factor_106 (by decide) ?_
      refine lv_isub hx hb dX12_factor_107 ?_
      refine qi_as (y := 4) (by decide) ?_
      refine va_put (D := (dC, dI)) (ci := 14) (v := .int 4) (ty := .int) (C := RX12) (T := TX12) (N := 23) hx hb hts kc_factor4_0 tyX12 tyX12_ok nmX12 hown hK hP hD hS 0 rfl rfl 8 (by decide) (hts (.fieldLink RX12 89 "MistHeapsModel" "open" "I") kc_factor4_2) (fun _ h9 => h9) rfl (by decide +kernel) rfl rfl (Nat.le_of_ble_eq_true rfl) dX12_factor_108 (fun H locs hP hD hS => ?_)
      have hP : va_P (dC, dI) vwCl [(zo14irriiiiiirriirrrrlriiii m0 th aS aI im (nI a) (nI p_13) (nI E) 0 4 aB aT se dn aG aO aN aD bv aY rn kd nu tv), (zaI aS cS 901 (emt fS9_10 a k_14 (-1)))] H := hP
      have hD : va_D A [(zo14irriiiiiirriirrrrlriiii m0 th aS aI im (nI a) (nI p_13) (nI E) 0 4 aB aT se dn aG aO aN aD bv aY rn kd nu tv), (zaI aS cS 901 (emt fS9_10 a k_14 (-1)))] := hD
      rw [hQ]
      have hP9 := hP.sub (ws' := [(zo14irriiiiiirriirrrrlriiii m0 th aS aI im (nI a) (nI p_13) (nI E) 0 4 aB aT se dn aG aO aN aD bv aY rn kd nu tv), (zaI aS cS 901 (emt fS9_10 a k_14 (-1)))]) [0, 1] rfl
      have hD9 := hD.sub (ws' := [(zo14irriiiiiirriirrrrlriiii m0 th aS aI im (nI a) (nI p_13) (nI E) 0 4 aB aT se dn aG aO aN aD bv aY rn kd nu tv), (zaI aS cS 901 (emt fS9_10 a k_14 (-1)))]) [0, 1] (by decide) rfl
      have hK9 := hK.sub (tys' := [(cS, .int)]) [0] rfl
      exact W.vret hx hb hr (fun tQ htQ hWQ => ⟨⟨((emt fS9_10 a k_14 (-1)), (nI p_13), 0), rfl, ⟨p_13, (k_14 + 1), rfl, by omega, by omega, hF_29, Or.inr ⟨rfl, by omega, (hI_28).mono (by omega) (by omega), by omega⟩⟩, by rw [htQ]; exact hP9, va_K.moved hWQ.alike hK9, hD9⟩, hS.F htQ⟩) hS.2.2 dX12_factor_111
  · skip
    refine lv_iload_n hx hb dX12_factor_19 rfl (lv_at hl 0 rfl) ?_
    refine lv_bipush (v := 40) hx hb dX12_factor_20 (by decide) ?_
    refine lv_icmp_ne (tgt := 112) hx hb dX12_factor_22 (by decide) (fun c_30 => ?_) (fun c_30 => ?_)
    · skip
      refine lv_aload_n hx hb dX12_factor_112 rfl (lv_at hl 1 rfl) ?_
      refine va_ldcS hx hb hown (show vk_R RX12 101 "hkrcms" (sK 6) s from hE.1 6 (by decide)) dX12_factor_113 ?_
      have hPc := hP.sub (ws' := [(zo14irriiiiiirriirrrrlriiii m0 th aS aI im (nI a) (nI p0) (nI E) 0 4 aB aT se dn aG aO aN aD bv aY rn kd nu tv), (zaI aS cS 901 fS)]) [0, 1] rfl
      have hDc := hD.sub (ws' := [(zo14irriiiiiirriirrrrlriiii m0 th aS aI im (nI a) (nI p0) (nI E) 0 4 aB aT se dn aG aO aN aD bv aY rn kd nu tv), (zaI aS cS 901 fS)]) [0, 1] (by decide) rfl
      have hKc := hK.sub (tys' := [(cS, .int)]) [0] rfl
      have hFc := va_free (wc := [(zo14irriiiiiirriirrrrlriiii m0 th aS aI im (nI a) (nI p0) (nI E) 0 4 aB aT se dn aG aO aN aD bv aY rn kd nu tv), (zaI aS cS 901 fS)]) hD hS hA [0, 1] rfl
      refine va_calli (va_runV (As := [.ref (sK 6)]) (rest := []) ⟨hx, hb, hml, hown, hts⟩ (c_among l dC dI sK sV m0 aS aI aB aT aG aO aN aD aY th im (nI a) (nI p0) (nI E) 0 4 se dn rn kd nu tv bv cS fS a p0 E 6 H.size (by omega) (by omega) (by omega) (by decide)) (cwV 1 hts gX12_factor_X12_among rfl rfl rfl hd_yX12_among ⟨Nat.le_of_ble_eq_true rfl, Nat.le_of_ble_eq_true rfl⟩) ⟨fun a U g mk q => by obtain ⟨q0, q1, qP, qK, qD, qhE⟩ := q; exact ⟨q0, q1, qP, va_K.moved (u := U) (U := U.calling g mk a) (Vm.Alike.refl U.vm) qK, qD, qhE.same rfl rfl⟩, va_recv hK hP (ci := 14) (q := (RX12, TX12, 23)) (q0 := 0) rfl rfl, fun U hU hW => ⟨rfl, by rw [hU], by rw [hU]; exact hPc, va_K.moved hW.alike hKc, hDc.weaken (fun _ _ _ _ => trivial), hE.call hS hU hW (fun q h => hFc q h)⟩⟩ rfl rfl hl.1 rfl (lv_room (Nat.le_of_ble_eq_true rfl)) dX12_factor_115 ⟨Nat.le_of_ble_eq_true rfl, Nat.le_of_ble_eq_true rfl⟩) hS (fun q _ h => hFc q h) hFc (fun r_31 u tC H1 locs htC hvm hw_32 hB hz1 hk1 hS => ?_)
      obtain ⟨sp9_33, rfl⟩ : ∃ z, z = u := ⟨_, rfl⟩
      try dsimp only at hw_32 hB
      obtain ⟨hP1, hK1, hD1⟩ := hB
      rw [htC] at hP1
      have hK1 := va_K.moved hvm.symm hK1
      obtain ⟨hP, hD⟩ := va_join (wr := []) (w1 := [(zo14irriiiiiirriirrrrlriiii m0 th aS aI im (nI a) sp9_33 (nI E) 0 4 aB aT se dn aG aO aN aD bv aY rn kd nu tv), (zaI aS cS 901 fS)]) hP hD [0, 1] [] rfl rfl (by decide) (by decide) hk1 hFc hP1 hD1
      have hK := (hK.sub (tys' := []) [] rfl).app hK1
      generalize H1 = H at hP hS ⊢
      have hP : va_P (dC, dI) vwCl [(zo14irriiiiiirriirrrrlriiii m0 th aS aI im (nI a) sp9_33 (nI E) 0 4 aB aT se dn aG aO aN aD bv aY rn kd nu tv), (zaI aS cS 901 fS)] H := hP
      have hD : va_D A [(zo14irriiiiiirriirrrrlriiii m0 th aS aI im (nI a) sp9_33 (nI E) 0 4 aB aT se dn aG aO aN aD bv aY rn kd nu tv), (zaI aS cS 901 fS)] := hD
      have hK : va_K (dC, dI) vwCl [(cS, .int)] s := hK
      rcases hw_32 with ⟨rfl, rfl⟩ | ⟨j_34, hj_35, rfl, h_36, rfl⟩
      · skip
        refine lv_istore_n (lv' := [(2, .int (-1)), (1, .int r_2), (0, .ref m0)]) hx hb dX12_factor_118 rfl hl (by decide) rfl (fun ls hl => ?_)
        refine lv_aload_n hx hb dX12_factor_119 rfl (lv_at hl 2 rfl) ?_
        refine lv_iload_n hx hb dX12_factor_120 rfl (lv_at hl 0 rfl) ?_
        refine lv_iconst (v := (-1)) hx hb dX12_factor_121 (by decide) ?_
        refine lv_icmp_ne (tgt := 129) hx hb dX12_factor_122 (by decide) (fun c_37 => absurd c_37 (by decide)) (fun _ => ?_)
        refine lv_iconst (v := 1) hx hb dX12_factor_125 (by decide) ?_
        refine lv_goto (tgt := 130) hx hb dX12_factor_126 (by decide) ?_
        refine va_put (D := (dC, dI)) (ci := 14) (v := .int 1) (ty := .boolean) (C := RX12) (T := TX12) (N := 23) hx hb hts kc_factor4_0 tyX12 tyX12_ok nmX12 hown hK hP hD hS 0 rfl rfl 7 (by decide) (hts (.fieldLink RX12 65 "MistHeapsModel" "isWrong" "Z") kc_factor4_1) (fun _ h9 => h9) rfl (by decide +kernel) rfl rfl (Nat.le_of_ble_eq_true rfl) dX12_factor_130 (fun H locs hP hD hS => ?_)
        have hP : va_P (dC, dI) vwCl [(zo14irriiiiiirriirrrrlriiii m0 th aS aI im (nI a) (nI p0) (nI E) 1 4 aB aT se dn aG aO aN aD bv aY rn kd nu tv), (zaI aS cS 901 fS)] H := hP
        have hD : va_D A [(zo14irriiiiiirriirrrrlriiii m0 th aS aI im (nI a) (nI p0) (nI E) 1 4 aB aT se dn aG aO aN aD bv aY rn kd nu tv), (zaI aS cS 901 fS)] := hD
        refine lv_aload_n hx hb dX12_factor_133 rfl (lv_at hl 2 rfl) ?_
        refine va_get (D := (dC, dI)) (ci := 14) (v := .int 1) (C := RX12) (T := TX12) (N := 23) hx hb hts kc_factor4_0 hown hK hP 0 rfl rfl 7 (by decide) (hts (.fieldLink RX12 65 "MistHeapsModel" "isWrong" "Z") kc_factor4_1) (fun _ h9 => h9) rfl dX12_factor_134 ?_
        refine lv_if_eq (tgt := 144) hx hb dX12_factor_137 (by decide) (fun c_38 => absurd c_38 (by decide)) (fun _ => ?_)
        refine lv_iconst (v := 0) hx hb dX12_factor_140 (by decide) ?_
        refine lv_goto (tgt := 150) hx hb dX12_factor_141 (by decide) ?_
        refine lv_istore_n (lv' := [(3, .int 0), (2, .int (-1)), (1, .int r_2), (0, .ref m0)]) hx hb dX12_factor_150 rfl hl (by decide) rfl (fun ls hl => ?_)
        refine lv_aload_n hx hb dX12_factor_151 rfl (lv_at hl 3 rfl) ?_
        refine lv_aload_n hx hb dX12_factor_152 rfl (lv_at hl 3 rfl) ?_
        refine va_get (D := (dC, dI)) (ci := 14) (v := .int 1) (C := RX12) (T := TX12) (N := 23) hx hb hts kc_factor4_0 hown hK hP 0 rfl rfl 7 (by decide) (hts (.fieldLink RX12 65 "MistHeapsModel" "isWrong" "Z") kc_factor4_1) (fun _ h9 => h9) rfl dX12_factor_153 ?_
        refine lv_if_ne (tgt := 164) hx hb dX12_factor_156 (by decide) (fun _ => ?_) (fun c_39 => absurd c_39 (by decide))
        refine lv_iconst (v := 1) hx hb dX12_factor_164 (by decide) ?_
        refine lv_goto (tgt := 169) hx hb dX12_factor_165 (by decide) ?_
        refine va_put (D := (dC, dI)) (ci := 14) (v := .int 1) (ty := .boolean) (C := RX12) (T := TX12) (N := 23) hx hb hts kc_factor4_0 tyX12 tyX12_ok nmX12 hown hK hP hD hS 0 rfl rfl 7 (by decide) (hts (.fieldLink RX12 65 "MistHeapsModel" "isWrong" "Z") kc_factor4_1) (fun _ h9 => h9) rfl (by decide +kernel) rfl rfl (Nat.le_of_ble_eq_true rfl) dX12_factor_169 (fun H locs hP hD hS => ?_)
        have hP : va_P (dC, dI) vwCl [(zo14irriiiiiirriirrrrlriiii m0 th aS aI im (nI a) (nI p0) (nI E) 1 4 aB aT se dn aG aO aN aD bv aY rn kd nu tv), (zaI aS cS 901 fS)] H := hP
        have hD : va_D A [(zo14irriiiiiirriirrrrlriiii m0 th aS aI im (nI a) (nI p0) (nI E) 1 4 aB aT se dn aG aO aN aD bv aY rn kd nu tv), (zaI aS cS 901 fS)] := hD
        refine lv_aload_n hx hb dX12_factor_172 rfl (lv_at hl 3 rfl) ?_
        have hPc := hP.sub (ws' := [(zo14irriiiiiirriirrrrlriiii m0 th aS aI im (nI a) (nI p0) (nI E) 1 4 aB aT se dn aG aO aN aD bv aY rn kd nu tv), (zaI aS cS 901 fS)]) [0, 1] rfl
        have hDc := hD.sub (ws' := [(zo14irriiiiiirriirrrrlriiii m0 th aS aI im (nI a) (nI p0) (nI E) 1 4 aB aT se dn aG aO aN aD bv aY rn kd nu tv), (zaI aS cS 901 fS)]) [0, 1] (by decide) rfl
        have hKc := hK.sub (tys' := [(cS, .int)]) [0] rfl
        have hFc := va_free (wc := [(zo14irriiiiiirriirrrrlriiii m0 th aS aI im (nI a) (nI p0) (nI E) 1 4 aB aT se dn aG aO aN aD bv aY rn kd nu tv), (zaI aS cS 901 fS)]) hD hS hA [0, 1] rfl
        refine va_calli (va_runV (As := []) (rest := []) ⟨hx, hb, hml, hown, hts⟩ (c_figures l dC dI m0 aS aI aB aT aG aO aN aD aY th im (nI a) (nI p0) (nI E) 1 4 se dn rn kd nu tv bv cS fS a p0 E H.size (by omega) (by omega) (by omega) (Or.inr rfl)) (cwV 0 hts gX12_factor_X12_figures rfl rfl rfl hd_yX12_figures ⟨Nat.le_of_ble_eq_true rfl, Nat.le_of_ble_eq_true rfl⟩) ⟨fun a U g mk q => by obtain ⟨q0, q1, qP, qK, qD⟩ := q; exact ⟨q0, q1, qP, va_K.moved (u := U) (U := U.calling g mk a) (Vm.Alike.refl U.vm) qK, qD⟩, va_recv hK hP (ci := 14) (q := (RX12, TX12, 23)) (q0 := 0) rfl rfl, fun U hU hW => ⟨rfl, by rw [hU], by rw [hU]; exact hPc, va_K.moved hW.alike hKc, hDc.weaken (fun _ _ _ _ => trivial)⟩⟩ rfl rfl hl.1 rfl (lv_room (Nat.le_of_ble_eq_true rfl)) dX12_factor_173 ⟨Nat.le_of_ble_eq_true rfl, Nat.le_of_ble_eq_true rfl⟩) hS (fun q _ h => hFc q h) hFc (fun r_40 u tC H1 locs htC hvm hw_41 hB hz1 hk1 hS => ?_)
        obtain ⟨sp9_42, wg9_43⟩ := u
        try dsimp only at hw_41 hB
        obtain ⟨hP1, hK1, hD1⟩ := hB
        rw [htC] at hP1
        have hK1 := va_K.moved hvm.symm hK1
        obtain ⟨hP, hD⟩ := va_join (wr := []) (w1 := [(zo14irriiiiiirriirrrrlriiii m0 th aS aI im (nI a) sp9_42 (nI E) wg9_43 4 aB aT se dn aG aO aN aD bv aY rn kd nu tv), (zaI aS cS 901 fS)]) hP hD [0, 1] [] rfl rfl (by decide) (by decide) hk1 hFc hP1 hD1
        have hK := (hK.sub (tys' := []) [] rfl).app hK1
        generalize H1 = H at hP hS ⊢
        have hP : va_P (dC, dI) vwCl [(zo14irriiiiiirriirrrrlriiii m0 th aS aI im (nI a) sp9_42 (nI E) wg9_43 4 aB aT se dn aG aO aN aD bv aY rn kd nu tv), (zaI aS cS 901 fS)] H := hP
        have hD : va_D A [(zo14irriiiiiirriirrrrlriiii m0 th aS aI im (nI a) sp9_42 (nI E) wg9_43 4 aB aT se dn aG aO aN aD bv aY rn kd nu tv), (zaI aS cS 901 fS)] := hD
        have hK : va_K (dC, dI) vwCl [(cS, .int)] s := hK
        obtain ⟨p_44, v_45, h_46, h_47, rfl, rfl, h_48, h_49, h_50⟩ := hw_41
        rcases h_49 with rfl | rfl
        · skip
          exact absurd (h_50 rfl).1 (by decide)
        · skip
          refine lv_istore (lv' := [(4, .int (nI v_45)), (3, .int 0), (2, .int (-1)), (1, .int r_2), (0, .ref m0)]) hx hb dX12_factor_176 hl (by decide) rfl (fun ls hl => ?_)
          refine lv_aload_n hx hb dX12_factor_178 rfl (lv_at hl 4 rfl) ?_
          refine lv_iload_n hx hb dX12_factor_179 rfl (lv_at hl 2 rfl) ?_
          refine lv_bipush (v := 8) hx hb dX12_factor_180 (by decide) ?_
          refine lv_iload_n hx hb dX12_factor_182 rfl (lv_at hl 1 rfl) ?_
          refine lv_imul hx hb dX12_factor_183 ?_
          refine qi_as (y := 0) (by decide) ?_
          refine lv_iadd hx hb dX12_factor_184 ?_
          refine qi_as (y := (-1)) (by decide) ?_
          refine lv_bipush (v := 32) hx hb dX12_factor_185 (by decide) ?_
          refine lv_iload hx hb dX12_factor_187 (lv_at hl 0 rfl) ?_
          refine lv_imul hx hb dX12_factor_189 ?_
          refine qi_as (y := nI (32 * v_45)) (pk_mul 32 v_45) ?_
          refine lv_iadd hx hb dX12_factor_190 ?_
          have hPc := hP.sub (ws' := [(zo14irriiiiiirriirrrrlriiii m0 th aS aI im (nI a) (nI p_44) (nI E) 1 4 aB aT se dn aG aO aN aD bv aY rn kd nu tv)]) [0] rfl
          have hKc := hK.sub (tys' := []) [] rfl
          refine va_csv (va_runV (As := [.int ((-1) + (nI (32 * v_45)))]) (rest := []) ⟨hx, hb, hml, hown, hts⟩ (c_emitsW l dC dI m0 aS aI aB aT aG aO aN aD aY th im (nI a) (nI p_44) (nI E) 1 4 se dn rn kd nu tv bv ((-1) + (nI (32 * v_45)))) (cwV 1 hts gX12_factor_X12_emits rfl rfl rfl hd_yX12_emits ⟨Nat.le_of_ble_eq_true rfl, Nat.le_of_ble_eq_true rfl⟩) ⟨fun a U g mk q => by obtain ⟨q0, qP, qK⟩ := q; exact ⟨q0, qP, va_K.moved (u := U) (U := U.calling g mk a) (Vm.Alike.refl U.vm) qK⟩, va_recv hK hP (ci := 14) (q := (RX12, TX12, 23)) (q0 := 0) rfl rfl, fun U hU hW => ⟨rfl, by rw [hU]; exact hPc, va_K.moved hW.alike hKc⟩⟩ rfl rfl hl.1 rfl (lv_room (Nat.le_of_ble_eq_true rfl)) dX12_factor_191 ⟨Nat.le_of_ble_eq_true rfl, Nat.le_of_ble_eq_true rfl⟩).run (fun hw_52 => ?_)
          rw [hQ]
          have hP9 := hP.sub (ws' := [(zo14irriiiiiirriirrrrlriiii m0 th aS aI im (nI a) (nI p_44) (nI E) 1 4 aB aT se dn aG aO aN aD bv aY rn kd nu tv), (zaI aS cS 901 fS)]) [0, 1] rfl
          have hD9 := hD.sub (ws' := [(zo14irriiiiiirriirrrrlriiii m0 th aS aI im (nI a) (nI p_44) (nI E) 1 4 aB aT se dn aG aO aN aD bv aY rn kd nu tv), (zaI aS cS 901 fS)]) [0, 1] (by decide) rfl
          have hK9 := hK.sub (tys' := [(cS, .int)]) [0] rfl
          exact W.vret hx hb hr (fun tQ htQ hWQ => ⟨⟨(fS, (nI p_44), 1), rfl, ⟨p_44, k, rfl, by omega, by omega, PF.rf, Or.inl rfl⟩, by rw [htQ]; exact hP9, va_K.moved hWQ.alike hK9, hD9⟩, hS.F htQ⟩) hS.2.2 dX12_factor_194
      · skip
        have hj_35 : j_34 < 6 := hj_35
        refine lv_istore_n (lv' := [(2, .int (nI j_34)), (1, .int r_2), (0, .ref m0)]) hx hb dX12_factor_118 rfl hl (by decide) rfl (fun ls hl => ?_)
        refine lv_aload_n hx hb dX12_factor_119 rfl (lv_at hl 2 rfl) ?_
        refine lv_iload_n hx hb dX12_factor_120 rfl (lv_at hl 0 rfl) ?_
        refine lv_iconst (v := (-1)) hx hb dX12_factor_121 (by decide) ?_
        refine lv_icmp_ne (tgt := 129) hx hb dX12_factor_122 (by decide) (fun c_53 => ?_) (fun c_53 => ?_)
        · skip
          refine lv_iconst (v := 0) hx hb dX12_factor_129 (by decide) ?_
          refine va_put (D := (dC, dI)) (ci := 14) (v := .int 0) (ty := .boolean) (C := RX12) (T := TX12) (N := 23) hx hb hts kc_factor4_0 tyX12 tyX12_ok nmX12 hown hK hP hD hS 0 rfl rfl 7 (by decide) (hts (.fieldLink RX12 65 "MistHeapsModel" "isWrong" "Z") kc_factor4_1) (fun _ h9 => h9) rfl (by decide +kernel) rfl rfl (Nat.le_of_ble_eq_true rfl) dX12_factor_130 (fun H locs hP hD hS => ?_)
          have hP : va_P (dC, dI) vwCl [(zo14irriiiiiirriirrrrlriiii m0 th aS aI im (nI a) (nI (p0 + 1)) (nI E) 0 4 aB aT se dn aG aO aN aD bv aY rn kd nu tv), (zaI aS cS 901 fS)] H := hP
          have hD : va_D A [(zo14irriiiiiirriirrrrlriiii m0 th aS aI im (nI a) (nI (p0 + 1)) (nI E) 0 4 aB aT se dn aG aO aN aD bv aY rn kd nu tv), (zaI aS cS 901 fS)] := hD
          refine lv_aload_n hx hb dX12_factor_133 rfl (lv_at hl 2 rfl) ?_
          refine va_get (D := (dC, dI)) (ci := 14) (v := .int 0) (C := RX12) (T := TX12) (N := 23) hx hb hts kc_factor4_0 hown hK hP 0 rfl rfl 7 (by decide) (hts (.fieldLink RX12 65 "MistHeapsModel" "isWrong" "Z") kc_factor4_1) (fun _ h9 => h9) rfl dX12_factor_134 ?_
          refine lv_if_eq (tgt := 144) hx hb dX12_factor_137 (by decide) (fun _ => ?_) (fun c_54 => absurd c_54 (by decide))
          refine lv_aload_n hx hb dX12_factor_144 rfl (lv_at hl 2 rfl) ?_
          refine va_ldcS hx hb hown (show vk_R RX12 107 "<=>" (sK 7) s from hE.1 7 (by decide)) dX12_factor_145 ?_
          have hPc := hP.sub (ws' := [(zo14irriiiiiirriirrrrlriiii m0 th aS aI im (nI a) (nI (p0 + 1)) (nI E) 0 4 aB aT se dn aG aO aN aD bv aY rn kd nu tv), (zaI aS cS 901 fS)]) [0, 1] rfl
          have hDc := hD.sub (ws' := [(zo14irriiiiiirriirrrrlriiii m0 th aS aI im (nI a) (nI (p0 + 1)) (nI E) 0 4 aB aT se dn aG aO aN aD bv aY rn kd nu tv), (zaI aS cS 901 fS)]) [0, 1] (by decide) rfl
          have hKc := hK.sub (tys' := [(cS, .int)]) [0] rfl
          have hFc := va_free (wc := [(zo14irriiiiiirriirrrrlriiii m0 th aS aI im (nI a) (nI (p0 + 1)) (nI E) 0 4 aB aT se dn aG aO aN aD bv aY rn kd nu tv), (zaI aS cS 901 fS)]) hD hS hA [0, 1] rfl
          refine va_calli (va_runV (As := [.ref (sK 7)]) (rest := []) ⟨hx, hb, hml, hown, hts⟩ (c_among l dC dI sK sV m0 aS aI aB aT aG aO aN aD aY th im (nI a) (nI (p0 + 1)) (nI E) 0 4 se dn rn kd nu tv bv cS fS a (p0 + 1) E 7 H.size (by omega) (by omega) (by omega) (by decide)) (cwV 1 hts gX12_factor_X12_among rfl rfl rfl hd_yX12_among ⟨Nat.le_of_ble_eq_true rfl, Nat.le_of_ble_eq_true rfl⟩) ⟨fun a U g mk q => by obtain ⟨q0, q1, qP, qK, qD, qhE⟩ := q; exact ⟨q0, q1, qP, va_K.moved (u := U) (U := U.calling g mk a) (Vm.Alike.refl U.vm) qK, qD, qhE.same rfl rfl⟩, va_recv hK hP (ci := 14) (q := (RX12, TX12, 23)) (q0 := 0) rfl rfl, fun U hU hW => ⟨rfl, by rw [hU], by rw [hU]; exact hPc, va_K.moved hW.alike hKc, hDc.weaken (fun _ _ _ _ => trivial), hE.call hS hU hW (fun q h => hFc q h)⟩⟩ rfl rfl hl.1 rfl (lv_room (Nat.le_of_ble_eq_true rfl)) dX12_factor_147 ⟨Nat.le_of_ble_eq_true rfl, Nat.le_of_ble_eq_true rfl⟩) hS (fun q _ h => hFc q h) hFc (fun r_55 u tC H1 locs htC hvm hw_56 hB hz1 hk1 hS => ?_)
          obtain ⟨sp9_57, rfl⟩ : ∃ z, z = u := ⟨_, rfl⟩
          try dsimp only at hw_56 hB
          obtain ⟨hP1, hK1, hD1⟩ := hB
          rw [htC] at hP1
          have hK1 := va_K.moved hvm.symm hK1
          obtain ⟨hP, hD⟩ := va_join (wr := []) (w1 := [(zo14irriiiiiirriirrrrlriiii m0 th aS aI im (nI a) sp9_57 (nI E) 0 4 aB aT se dn aG aO aN aD bv aY rn kd nu tv), (zaI aS cS 901 fS)]) hP hD [0, 1] [] rfl rfl (by decide) (by decide) hk1 hFc hP1 hD1
          have hK := (hK.sub (tys' := []) [] rfl).app hK1
          generalize H1 = H at hP hS ⊢
          have hP : va_P (dC, dI) vwCl [(zo14irriiiiiirriirrrrlriiii m0 th aS aI im (nI a) sp9_57 (nI E) 0 4 aB aT se dn aG aO aN aD bv aY rn kd nu tv), (zaI aS cS 901 fS)] H := hP
          have hD : va_D A [(zo14irriiiiiirriirrrrlriiii m0 th aS aI im (nI a) sp9_57 (nI E) 0 4 aB aT se dn aG aO aN aD bv aY rn kd nu tv), (zaI aS cS 901 fS)] := hD
          have hK : va_K (dC, dI) vwCl [(cS, .int)] s := hK
          rcases hw_56 with ⟨rfl, rfl⟩ | ⟨j_58, hj_59, rfl, h_60, rfl⟩
          · skip
            refine lv_istore_n (lv' := [(3, .int (-1)), (2, .int (nI j_34)), (1, .int r_2), (0, .ref m0)]) hx hb dX12_factor_150 rfl hl (by decide) rfl (fun ls hl => ?_)
            refine lv_aload_n hx hb dX12_factor_151 rfl (lv_at hl 3 rfl) ?_
            refine lv_aload_n hx hb dX12_factor_152 rfl (lv_at hl 3 rfl) ?_
            refine va_get (D := (dC, dI)) (ci := 14) (v := .int 0) (C := RX12) (T := TX12) (N := 23) hx hb hts kc_factor4_0 hown hK hP 0 rfl rfl 7 (by decide) (hts (.fieldLink RX12 65 "MistHeapsModel" "isWrong" "Z") kc_factor4_1) (fun _ h9 => h9) rfl dX12_factor_153 ?_
            refine lv_if_ne (tgt := 164) hx hb dX12_factor_156 (by decide) (fun c_61 => absurd c_61 (by decide)) (fun _ => ?_)
            refine lv_iload_n hx hb dX12_factor_159 rfl (lv_at hl 0 rfl) ?_
            refine lv_iconst (v := (-1)) hx hb dX12_factor_160 (by decide) ?_
            refine lv_icmp_ne (tgt := 168) hx hb dX12_factor_161 (by decide) (fun c_62 => absurd c_62 (by decide)) (fun _ => ?_)
            refine lv_iconst (v := 1) hx hb dX12_factor_164 (by decide) ?_
            refine lv_goto (tgt := 169) hx hb dX12_factor_165 (by decide) ?_
            refine va_put (D := (dC, dI)) (ci := 14) (v := .int 1) (ty := .boolean) (C := RX12) (T := TX12) (N := 23) hx hb hts kc_factor4_0 tyX12 tyX12_ok nmX12 hown hK hP hD hS 0 rfl rfl 7 (by decide) (hts (.fieldLink RX12 65 "MistHeapsModel" "isWrong" "Z") kc_factor4_1) (fun _ h9 => h9) rfl (by decide +kernel) rfl rfl (Nat.le_of_ble_eq_true rfl) dX12_factor_169 (fun H locs hP hD hS => ?_)
            have hP : va_P (dC, dI) vwCl [(zo14irriiiiiirriirrrrlriiii m0 th aS aI im (nI a) (nI (p0 + 1)) (nI E) 1 4 aB aT se dn aG aO aN aD bv aY rn kd nu tv), (zaI aS cS 901 fS)] H := hP
            have hD : va_D A [(zo14irriiiiiirriirrrrlriiii m0 th aS aI im (nI a) (nI (p0 + 1)) (nI E) 1 4 aB aT se dn aG aO aN aD bv aY rn kd nu tv), (zaI aS cS 901 fS)] := hD
            refine lv_aload_n hx hb dX12_factor_172 rfl (lv_at hl 3 rfl) ?_
            have hPc := hP.sub (ws' := [(zo14irriiiiiirriirrrrlriiii m0 th aS aI im (nI a) (nI (p0 + 1)) (nI E) 1 4 aB aT se dn aG aO aN aD bv aY rn kd nu tv), (zaI aS cS 901 fS)]) [0, 1] rfl
            have hDc := hD.sub (ws' := [(zo14irriiiiiirriirrrrlriiii m0 th aS aI im (nI a) (nI (p0 + 1)) (nI E) 1 4 aB aT se dn aG aO aN aD bv aY rn kd nu tv), (zaI aS cS 901 fS)]) [0, 1] (by decide) rfl
            have hKc := hK.sub (tys' := [(cS, .int)]) [0] rfl
            have hFc := va_free (wc := [(zo14irriiiiiirriirrrrlriiii m0 th aS aI im (nI a) (nI (p0 + 1)) (nI E) 1 4 aB aT se dn aG aO aN aD bv aY rn kd nu tv), (zaI aS cS 901 fS)]) hD hS hA [0, 1] rfl
            refine va_calli (va_runV (As := []) (rest := []) ⟨hx, hb, hml, hown, hts⟩ (c_figures l dC dI m0 aS aI aB aT aG aO aN aD aY th im (nI a) (nI (p0 + 1)) (nI E) 1 4 se dn rn kd nu tv bv cS fS a (p0 + 1) E H.size (by omega) (by omega) (by omega) (Or.inr rfl)) (cwV 0 hts gX12_factor_X12_figures rfl rfl rfl hd_yX12_figures ⟨Nat.le_of_ble_eq_true rfl, Nat.le_of_ble_eq_true rfl⟩) ⟨fun a U g mk q => by obtain ⟨q0, q1, qP, qK, qD⟩ := q; exact ⟨q0, q1, qP, va_K.moved (u := U) (U := U.calling g mk a) (Vm.Alike.refl U.vm) qK, qD⟩, va_recv hK hP (ci := 14) (q := (RX12, TX12, 23)) (q0 := 0) rfl rfl, fun U hU hW => ⟨rfl, by rw [hU], by rw [hU]; exact hPc, va_K.moved hW.alike hKc, hDc.weaken (fun _ _ _ _ => trivial)⟩⟩ rfl rfl hl.1 rfl (lv_room (Nat.le_of_ble_eq_true rfl)) dX12_factor_173 ⟨Nat.le_of_ble_eq_true rfl, Nat.le_of_ble_eq_true rfl⟩) hS (fun q _ h => hFc q h) hFc (fun r_63 u tC H1 locs htC hvm hw_64 hB hz1 hk1 hS => ?_)
            obtain ⟨sp9_65, wg9_66⟩ := u
            try dsimp only at hw_64 hB
            obtain ⟨hP1, hK1, hD1⟩ := hB
            rw [htC] at hP1
            have hK1 := va_K.moved hvm.symm hK1
            obtain ⟨hP, hD⟩ := va_join (wr := []) (w1 := [(zo14irriiiiiirriirrrrlriiii m0 th aS aI im (nI a) sp9_65 (nI E) wg9_66 4 aB aT se dn aG aO aN aD bv aY rn kd nu tv), (zaI aS cS 901 fS)]) hP hD [0, 1] [] rfl rfl (by decide) (by decide) hk1 hFc hP1 hD1
            have hK := (hK.sub (tys' := []) [] rfl).app hK1
            generalize H1 = H at hP hS ⊢
            have hP : va_P (dC, dI) vwCl [(zo14irriiiiiirriirrrrlriiii m0 th aS aI im (nI a) sp9_65 (nI E) wg9_66 4 aB aT se dn aG aO aN aD bv aY rn kd nu tv), (zaI aS cS 901 fS)] H := hP
            have hD : va_D A [(zo14irriiiiiirriirrrrlriiii m0 th aS aI im (nI a) sp9_65 (nI E) wg9_66 4 aB aT se dn aG aO aN aD bv aY rn kd nu tv), (zaI aS cS 901 fS)] := hD
            have hK : va_K (dC, dI) vwCl [(cS, .int)] s := hK
            obtain ⟨p_67, v_68, h_69, h_70, rfl, rfl, h_71, h_72, h_73⟩ := hw_64
            rcases h_72 with rfl | rfl
            · skip
              exact absurd (h_73 rfl).1 (by decide)
            · skip
              refine lv_istore (lv' := [(4, .int (nI v_68)), (3, .int (-1)), (2, .int (nI j_34)), (1, .int r_2), (0, .ref m0)]) hx hb dX12_factor_176 hl (by decide) rfl (fun ls hl => ?_)
              refine lv_aload_n hx hb dX12_factor_178 rfl (lv_at hl 4 rfl) ?_
              refine lv_iload_n hx hb dX12_factor_179 rfl (lv_at hl 2 rfl) ?_
              refine lv_bipush (v := 8) hx hb dX12_factor_180 (by decide) ?_
              refine lv_iload_n hx hb dX12_factor_182 rfl (lv_at hl 1 rfl) ?_
              refine lv_imul hx hb dX12_factor_183 ?_
              refine qi_as (y := (-8)) (by decide) ?_
              refine lv_iadd hx hb dX12_factor_184 ?_
              refine lv_bipush (v := 32) hx hb dX12_factor_185 (by decide) ?_
              refine lv_iload hx hb dX12_factor_187 (lv_at hl 0 rfl) ?_
              refine lv_imul hx hb dX12_factor_189 ?_
              refine qi_as (y := nI (32 * v_68)) (pk_mul 32 v_68) ?_
              refine lv_iadd hx hb dX12_factor_190 ?_
              have hPc := hP.sub (ws' := [(zo14irriiiiiirriirrrrlriiii m0 th aS aI im (nI a) (nI p_67) (nI E) 1 4 aB aT se dn aG aO aN aD bv aY rn kd nu tv)]) [0] rfl
              have hKc := hK.sub (tys' := []) [] rfl
              refine va_csv (va_runV (As := [.int (((nI j_34) + (-8)) + (nI (32 * v_68)))]) (rest := []) ⟨hx, hb, hml, hown, hts⟩ (c_emitsW l dC dI m0 aS aI aB aT aG aO aN aD aY th im (nI a) (nI p_67) (nI E) 1 4 se dn rn kd nu tv bv (((nI j_34) + (-8)) + (nI (32 * v_68)))) (cwV 1 hts gX12_factor_X12_emits rfl rfl rfl hd_yX12_emits ⟨Nat.le_of_ble_eq_true rfl, Nat.le_of_ble_eq_true rfl⟩) ⟨fun a U g mk q => by obtain ⟨q0, qP, qK⟩ := q; exact ⟨q0, qP, va_K.moved (u := U) (U := U.calling g mk a) (Vm.Alike.refl U.vm) qK⟩, va_recv hK hP (ci := 14) (q := (RX12, TX12, 23)) (q0 := 0) rfl rfl, fun U hU hW => ⟨rfl, by rw [hU]; exact hPc, va_K.moved hW.alike hKc⟩⟩ rfl rfl hl.1 rfl (lv_room (Nat.le_of_ble_eq_true rfl)) dX12_factor_191 ⟨Nat.le_of_ble_eq_true rfl, Nat.le_of_ble_eq_true rfl⟩).run (fun hw_75 => ?_)
              rw [hQ]
              have hP9 := hP.sub (ws' := [(zo14irriiiiiirriirrrrlriiii m0 th aS aI im (nI a) (nI p_67) (nI E) 1 4 aB aT se dn aG aO aN aD bv aY rn kd nu tv), (zaI aS cS 901 fS)]) [0, 1] rfl
              have hD9 := hD.sub (ws' := [(zo14irriiiiiirriirrrrlriiii m0 th aS aI im (nI a) (nI p_67) (nI E) 1 4 aB aT se dn aG aO aN aD bv aY rn kd nu tv), (zaI aS cS 901 fS)]) [0, 1] (by decide) rfl
              have hK9 := hK.sub (tys' := [(cS, .int)]) [0] rfl
              exact W.vret hx hb hr (fun tQ htQ hWQ => ⟨⟨(fS, (nI p_67), 1), rfl, ⟨p_67, k, rfl, by omega, by omega, PF.rf, Or.inl rfl⟩, by rw [htQ]; exact hP9, va_K.moved hWQ.alike hK9, hD9⟩, hS.F htQ⟩) hS.2.2 dX12_factor_194
          · skip
            have hj_59 : j_58 < 3 := hj_59
            refine lv_istore_n (lv' := [(3, .int (nI j_58)), (2, .int (nI j_34)), (1, .int r_2), (0, .ref m0)]) hx hb dX12_factor_150 rfl hl (by decide) rfl (fun ls hl => ?_)
            refine lv_aload_n hx hb dX12_factor_151 rfl (lv_at hl 3 rfl) ?_
            refine lv_aload_n hx hb dX12_factor_152 rfl (lv_at hl 3 rfl) ?_
            refine va_get (D := (dC, dI)) (ci := 14) (v := .int 0) (C := RX12) (T := TX12) (N := 23) hx hb hts kc_factor4_0 hown hK hP 0 rfl rfl 7 (by decide) (hts (.fieldLink RX12 65 "MistHeapsModel" "isWrong" "Z") kc_factor4_1) (fun _ h9 => h9) rfl dX12_factor_153 ?_
            refine lv_if_ne (tgt := 164) hx hb dX12_factor_156 (by decide) (fun c_76 => absurd c_76 (by decide)) (fun _ => ?_)
            refine lv_iload_n hx hb dX12_factor_159 rfl (lv_at hl 0 rfl) ?_
            refine lv_iconst (v := (-1)) hx hb dX12_factor_160 (by decide) ?_
            refine lv_icmp_ne (tgt := 168) hx hb dX12_factor_161 (by decide) (fun c_77 => ?_) (fun c_77 => ?_)
            · skip
              refine lv_iconst (v := 0) hx hb dX12_factor_168 (by decide) ?_
              refine va_put (D := (dC, dI)) (ci := 14) (v := .int 0) (ty := .boolean) (C := RX12) (T := TX12) (N := 23) hx hb hts kc_factor4_0 tyX12 tyX12_ok nmX12 hown hK hP hD hS 0 rfl rfl 7 (by decide) (hts (.fieldLink RX12 65 "MistHeapsModel" "isWrong" "Z") kc_factor4_1) (fun _ h9 => h9) rfl (by decide +kernel) rfl rfl (Nat.le_of_ble_eq_true rfl) dX12_factor_169 (fun H locs hP hD hS => ?_)
              have hP : va_P (dC, dI) vwCl [(zo14irriiiiiirriirrrrlriiii m0 th aS aI im (nI a) (nI ((p0 + 1) + 1)) (nI E) 0 4 aB aT se dn aG aO aN aD bv aY rn kd nu tv), (zaI aS cS 901 fS)] H := hP
              have hD : va_D A [(zo14irriiiiiirriirrrrlriiii m0 th aS aI im (nI a) (nI ((p0 + 1) + 1)) (nI E) 0 4 aB aT se dn aG aO aN aD bv aY rn kd nu tv), (zaI aS cS 901 fS)] := hD
              refine lv_aload_n hx hb dX12_factor_172 rfl (lv_at hl 3 rfl) ?_
              have hPc := hP.sub (ws' := [(zo14irriiiiiirriirrrrlriiii m0 th aS aI im (nI a) (nI ((p0 + 1) + 1)) (nI E) 0 4 aB aT se dn aG aO aN aD bv aY rn kd nu tv), (zaI aS cS 901 fS)]) [0, 1] rfl
              have hDc := hD.sub (ws' := [(zo14irriiiiiirriirrrrlriiii m0 th aS aI im (nI a) (nI ((p0 + 1) + 1)) (nI E) 0 4 aB aT se dn aG aO aN aD bv aY rn kd nu tv), (zaI aS cS 901 fS)]) [0, 1] (by decide) rfl
              have hKc := hK.sub (tys' := [(cS, .int)]) [0] rfl
              have hFc := va_free (wc := [(zo14irriiiiiirriirrrrlriiii m0 th aS aI im (nI a) (nI ((p0 + 1) + 1)) (nI E) 0 4 aB aT se dn aG aO aN aD bv aY rn kd nu tv), (zaI aS cS 901 fS)]) hD hS hA [0, 1] rfl
              refine va_calli (va_runV (As := []) (rest := []) ⟨hx, hb, hml, hown, hts⟩ (c_figures l dC dI m0 aS aI aB aT aG aO aN aD aY th im (nI a) (nI ((p0 + 1) + 1)) (nI E) 0 4 se dn rn kd nu tv bv cS fS a ((p0 + 1) + 1) E H.size (by omega) (by omega) (by omega) (Or.inl rfl)) (cwV 0 hts gX12_factor_X12_figures rfl rfl rfl hd_yX12_figures ⟨Nat.le_of_ble_eq_true rfl, Nat.le_of_ble_eq_true rfl⟩) ⟨fun a U g mk q => by obtain ⟨q0, q1, qP, qK, qD⟩ := q; exact ⟨q0, q1, qP, va_K.moved (u := U) (U := U.calling g mk a) (Vm.Alike.refl U.vm) qK, qD⟩, va_recv hK hP (ci := 14) (q := (RX12, TX12, 23)) (q0 := 0) rfl rfl, fun U hU hW => ⟨rfl, by rw [hU], by rw [hU]; exact hPc, va_K.moved hW.alike hKc, hDc.weaken (fun _ _ _ _ => trivial)⟩⟩ rfl rfl hl.1 rfl (lv_room (Nat.le_of_ble_eq_true rfl)) dX12_factor_173 ⟨Nat.le_of_ble_eq_true rfl, Nat.le_of_ble_eq_true rfl⟩) hS (fun q _ h => hFc q h) hFc (fun r_78 u tC H1 locs htC hvm hw_79 hB hz1 hk1 hS => ?_)
              obtain ⟨sp9_80, wg9_81⟩ := u
              try dsimp only at hw_79 hB
              obtain ⟨hP1, hK1, hD1⟩ := hB
              rw [htC] at hP1
              have hK1 := va_K.moved hvm.symm hK1
              obtain ⟨hP, hD⟩ := va_join (wr := []) (w1 := [(zo14irriiiiiirriirrrrlriiii m0 th aS aI im (nI a) sp9_80 (nI E) wg9_81 4 aB aT se dn aG aO aN aD bv aY rn kd nu tv), (zaI aS cS 901 fS)]) hP hD [0, 1] [] rfl rfl (by decide) (by decide) hk1 hFc hP1 hD1
              have hK := (hK.sub (tys' := []) [] rfl).app hK1
              generalize H1 = H at hP hS ⊢
              have hP : va_P (dC, dI) vwCl [(zo14irriiiiiirriirrrrlriiii m0 th aS aI im (nI a) sp9_80 (nI E) wg9_81 4 aB aT se dn aG aO aN aD bv aY rn kd nu tv), (zaI aS cS 901 fS)] H := hP
              have hD : va_D A [(zo14irriiiiiirriirrrrlriiii m0 th aS aI im (nI a) sp9_80 (nI E) wg9_81 4 aB aT se dn aG aO aN aD bv aY rn kd nu tv), (zaI aS cS 901 fS)] := hD
              have hK : va_K (dC, dI) vwCl [(cS, .int)] s := hK
              obtain ⟨p_82, v_83, h_84, h_85, rfl, rfl, h_86, h_87, h_88⟩ := hw_79
              rcases h_87 with rfl | rfl
              · skip
                obtain ⟨h_88, h_88b⟩ := h_88 rfl
                refine lv_istore (lv' := [(4, .int (nI v_83)), (3, .int (nI j_58)), (2, .int (nI j_34)), (1, .int r_2), (0, .ref m0)]) hx hb dX12_factor_176 hl (by decide) rfl (fun ls hl => ?_)
                refine lv_aload_n hx hb dX12_factor_178 rfl (lv_at hl 4 rfl) ?_
                refine lv_iload_n hx hb dX12_factor_179 rfl (lv_at hl 2 rfl) ?_
                refine lv_bipush (v := 8) hx hb dX12_factor_180 (by decide) ?_
                refine lv_iload_n hx hb dX12_factor_182 rfl (lv_at hl 1 rfl) ?_
                refine lv_imul hx hb dX12_factor_183 ?_
                refine qi_as (y := nI (8 * j_58)) (pk_mul 8 j_58) ?_
                refine lv_iadd hx hb dX12_factor_184 ?_
                refine qi_as (y := nI (j_34 + (8 * j_58))) (nI_add j_34 (8 * j_58)) ?_
                refine lv_bipush (v := 32) hx hb dX12_factor_185 (by decide) ?_
                refine lv_iload hx hb dX12_factor_187 (lv_at hl 0 rfl) ?_
                refine lv_imul hx hb dX12_factor_189 ?_
                refine qi_as (y := nI (32 * v_83)) (pk_mul 32 v_83) ?_
                refine lv_iadd hx hb dX12_factor_190 ?_
                refine qi_as (y := nI ((j_34 + (8 * j_58)) + (32 * v_83))) (nI_add (j_34 + (8 * j_58)) (32 * v_83)) ?_
                have hPc := hP.sub (ws' := [(zo14irriiiiiirriirrrrlriiii m0 th aS aI im (nI a) (nI p_82) (nI E) 0 4 aB aT se dn aG aO aN aD bv aY rn kd nu tv), (zaI aS cS 901 fS)]) [0, 1] rfl
                have hDc := hD.sub (ws' := [(zo14irriiiiiirriirrrrlriiii m0 th aS aI im (nI a) (nI p_82) (nI E) 0 4 aB aT se dn aG aO aN aD bv aY rn kd nu tv), (zaI aS cS 901 fS)]) [0, 1] (by decide) rfl
                have hKc := hK.sub (tys' := [(cS, .int)]) [0] rfl
                have hFc := va_free (wc := [(zo14irriiiiiirriirrrrlriiii m0 th aS aI im (nI a) (nI p_82) (nI E) 0 4 aB aT se dn aG aO aN aD bv aY rn kd nu tv), (zaI aS cS 901 fS)]) hD hS hA [0, 1] rfl
                refine va_callv (va_runV (As := [.int (nI ((j_34 + (8 * j_58)) + (32 * v_83)))]) (rest := []) ⟨hx, hb, hml, hown, hts⟩ (c_emits l dC dI m0 aS aI aB aT aG aO aN aD aY th im (nI a) (nI p_82) (nI E) 0 4 se dn rn kd nu tv bv cS fS a k (nI ((j_34 + (8 * j_58)) + (32 * v_83))) H.size (ga) ((gI).2.2.2.1) (by have := (gI).2.2.2.2.1; omega)) (cwV 1 hts gX12_factor_X12_emits rfl rfl rfl hd_yX12_emits ⟨Nat.le_of_ble_eq_true rfl, Nat.le_of_ble_eq_true rfl⟩) ⟨fun a U g mk q => by obtain ⟨q0, q1, qP, qK, qD⟩ := q; exact ⟨q0, q1, qP, va_K.moved (u := U) (U := U.calling g mk a) (Vm.Alike.refl U.vm) qK, qD⟩, va_recv hK hP (ci := 14) (q := (RX12, TX12, 23)) (q0 := 0) rfl rfl, fun U hU hW => ⟨rfl, by rw [hU], by rw [hU]; exact hPc, va_K.moved hW.alike hKc, hDc.weaken (fun _ _ _ _ => trivial)⟩⟩ rfl rfl hl.1 rfl (lv_room (Nat.le_of_ble_eq_true rfl)) dX12_factor_191 ⟨Nat.le_of_ble_eq_true rfl, Nat.le_of_ble_eq_true rfl⟩) hS (fun q _ h => hFc q h) hFc (fun u tC H1 locs htC hvm hw_90 hB hz1 hk1 hS => ?_)
                obtain ⟨fS9_91, rfl⟩ : ∃ z, z = u := ⟨_, rfl⟩
                try dsimp only at hw_90 hB
                obtain ⟨hP1, hK1, hD1⟩ := hB
                rw [htC] at hP1
                have hK1 := va_K.moved hvm.symm hK1
                obtain ⟨hP, hD⟩ := va_join (wr := []) (w1 := [(zo14irriiiiiirriirrrrlriiii m0 th aS aI im (nI a) (nI p_82) (nI E) 0 4 aB aT se dn aG aO aN aD bv aY rn kd nu tv), (zaI aS cS 901 fS9_91)]) hP hD [0, 1] [] rfl rfl (by decide) (by decide) hk1 hFc hP1 hD1
                have hK := (hK.sub (tys' := []) [] rfl).app hK1
                generalize H1 = H at hP hS ⊢
                have hP : va_P (dC, dI) vwCl [(zo14irriiiiiirriirrrrlriiii m0 th aS aI im (nI a) (nI p_82) (nI E) 0 4 aB aT se dn aG aO aN aD bv aY rn kd nu tv), (zaI aS cS 901 fS9_91)] H := hP
                have hD : va_D A [(zo14irriiiiiirriirrrrlriiii m0 th aS aI im (nI a) (nI p_82) (nI E) 0 4 aB aT se dn aG aO aN aD bv aY rn kd nu tv), (zaI aS cS 901 fS9_91)] := hD
                have hK : va_K (dC, dI) vwCl [(cS, .int)] s := hK
                obtain rfl : fS9_91 = emt fS a k (nI ((j_34 + (8 * j_58)) + (32 * v_83))) := by rcases hw_90 with ⟨q, _⟩ | ⟨_, q⟩; exact absurd rfl q; exact q
                have hI_93 : PI (emt fS a k (nI ((j_34 + (8 * j_58)) + (32 * v_83)))) a (k + 1) (d + 1) p_82 E := ((gI).mono (by omega) (by omega)).em (by omega) (by omega) (stepd_test (by omega) (by omega) (by omega) (by omega))
                have hF_94 : PF a fS (emt fS a k (nI ((j_34 + (8 * j_58)) + (32 * v_83)))) := (PF.rf).tr (PF_emt (k := k) (x := nI ((j_34 + (8 * j_58)) + (32 * v_83))) ga (by have := (gI).2.2.2.2.1; omega))
                rw [hQ]
                have hP9 := hP.sub (ws' := [(zo14irriiiiiirriirrrrlriiii m0 th aS aI im (nI a) (nI p_82) (nI E) 0 4 aB aT se dn aG aO aN aD bv aY rn kd nu tv), (zaI aS cS 901 (emt fS a k (nI ((j_34 + (8 * j_58)) + (32 * v_83)))))]) [0, 1] rfl
                have hD9 := hD.sub (ws' := [(zo14irriiiiiirriirrrrlriiii m0 th aS aI im (nI a) (nI p_82) (nI E) 0 4 aB aT se dn aG aO aN aD bv aY rn kd nu tv), (zaI aS cS 901 (emt fS a k (nI ((j_34 + (8 * j_58)) + (32 * v_83)))))]) [0, 1] (by decide) rfl
                have hK9 := hK.sub (tys' := [(cS, .int)]) [0] rfl
                exact W.vret hx hb hr (fun tQ htQ hWQ => ⟨⟨((emt fS a k (nI ((j_34 + (8 * j_58)) + (32 * v_83)))), (nI p_82), 0), rfl, ⟨p_82, (k + 1), rfl, by omega, by omega, hF_94, Or.inr ⟨rfl, by omega, (hI_93).mono (by omega) (by omega), by omega⟩⟩, by rw [htQ]; exact hP9, va_K.moved hWQ.alike hK9, hD9⟩, hS.F htQ⟩) hS.2.2 dX12_factor_194
              · skip
                refine lv_istore (lv' := [(4, .int (nI v_83)), (3, .int (nI j_58)), (2, .int (nI j_34)), (1, .int r_2), (0, .ref m0)]) hx hb dX12_factor_176 hl (by decide) rfl (fun ls hl => ?_)
                refine lv_aload_n hx hb dX12_factor_178 rfl (lv_at hl 4 rfl) ?_
                refine lv_iload_n hx hb dX12_factor_179 rfl (lv_at hl 2 rfl) ?_
                refine lv_bipush (v := 8) hx hb dX12_factor_180 (by decide) ?_
                refine lv_iload_n hx hb dX12_factor_182 rfl (lv_at hl 1 rfl) ?_
                refine lv_imul hx hb dX12_factor_183 ?_
                refine qi_as (y := nI (8 * j_58)) (pk_mul 8 j_58) ?_
                refine lv_iadd hx hb dX12_factor_184 ?_
                refine qi_as (y := nI (j_34 + (8 * j_58))) (nI_add j_34 (8 * j_58)) ?_
                refine lv_bipush (v := 32) hx hb dX12_factor_185 (by decide) ?_
                refine lv_iload hx hb dX12_factor_187 (lv_at hl 0 rfl) ?_
                refine lv_imul hx hb dX12_factor_189 ?_
                refine qi_as (y := nI (32 * v_83)) (pk_mul 32 v_83) ?_
                refine lv_iadd hx hb dX12_factor_190 ?_
                refine qi_as (y := nI ((j_34 + (8 * j_58)) + (32 * v_83))) (nI_add (j_34 + (8 * j_58)) (32 * v_83)) ?_
                have hPc := hP.sub (ws' := [(zo14irriiiiiirriirrrrlriiii m0 th aS aI im (nI a) (nI p_82) (nI E) 1 4 aB aT se dn aG aO aN aD bv aY rn kd nu tv)]) [0] rfl
                have hKc := hK.sub (tys' := []) [] rfl
                refine va_csv (va_runV (As := [.int (nI ((j_34 + (8 * j_58)) + (32 * v_83)))]) (rest := []) ⟨hx, hb, hml, hown, hts⟩ (c_emitsW l dC dI m0 aS aI aB aT aG aO aN aD aY th im (nI a) (nI p_82) (nI E) 1 4 se dn rn kd nu tv bv (nI ((j_34 + (8 * j_58)) + (32 * v_83)))) (cwV 1 hts gX12_factor_X12_emits rfl rfl rfl hd_yX12_emits ⟨Nat.le_of_ble_eq_true rfl, Nat.le_of_ble_eq_true rfl⟩) ⟨fun a U g mk q => by obtain ⟨q0, qP, qK⟩ := q; exact ⟨q0, qP, va_K.moved (u := U) (U := U.calling g mk a) (Vm.Alike.refl U.vm) qK⟩, va_recv hK hP (ci := 14) (q := (RX12, TX12, 23)) (q0 := 0) rfl rfl, fun U hU hW => ⟨rfl, by rw [hU]; exact hPc, va_K.moved hW.alike hKc⟩⟩ rfl rfl hl.1 rfl (lv_room (Nat.le_of_ble_eq_true rfl)) dX12_factor_191 ⟨Nat.le_of_ble_eq_true rfl, Nat.le_of_ble_eq_true rfl⟩).run (fun hw_96 => ?_)
                rw [hQ]
                have hP9 := hP.sub (ws' := [(zo14irriiiiiirriirrrrlriiii m0 th aS aI im (nI a) (nI p_82) (nI E) 1 4 aB aT se dn aG aO aN aD bv aY rn kd nu tv), (zaI aS cS 901 fS)]) [0, 1] rfl
                have hD9 := hD.sub (ws' := [(zo14irriiiiiirriirrrrlriiii m0 th aS aI im (nI a) (nI p_82) (nI E) 1 4 aB aT se dn aG aO aN aD bv aY rn kd nu tv), (zaI aS cS 901 fS)]) [0, 1] (by decide) rfl
                have hK9 := hK.sub (tys' := [(cS, .int)]) [0] rfl
                exact W.vret hx hb hr (fun tQ htQ hWQ => ⟨⟨(fS, (nI p_82), 1), rfl, ⟨p_82, k, rfl, by omega, by omega, PF.rf, Or.inl rfl⟩, by rw [htQ]; exact hP9, va_K.moved hWQ.alike hK9, hD9⟩, hS.F htQ⟩) hS.2.2 dX12_factor_194
            · skip
              refine lv_iconst (v := 1) hx hb dX12_factor_164 (by decide) ?_
              refine lv_goto (tgt := 169) hx hb dX12_factor_165 (by decide) ?_
              refine va_put (D := (dC, dI)) (ci := 14) (v := .int 1) (ty := .boolean) (C := RX12) (T := TX12) (N := 23) hx hb hts kc_factor4_0 tyX12 tyX12_ok nmX12 hown hK hP hD hS 0 rfl rfl 7 (by decide) (hts (.fieldLink RX12 65 "MistHeapsModel" "isWrong" "Z") kc_factor4_1) (fun _ h9 => h9) rfl (by decide +kernel) rfl rfl (Nat.le_of_ble_eq_true rfl) dX12_factor_169 (fun H locs hP hD hS => ?_)
              have hP : va_P (dC, dI) vwCl [(zo14irriiiiiirriirrrrlriiii m0 th aS aI im (nI a) (nI ((p0 + 1) + 1)) (nI E) 1 4 aB aT se dn aG aO aN aD bv aY rn kd nu tv), (zaI aS cS 901 fS)] H := hP
              have hD : va_D A [(zo14irriiiiiirriirrrrlriiii m0 th aS aI im (nI a) (nI ((p0 + 1) + 1)) (nI E) 1 4 aB aT se dn aG aO aN aD bv aY rn kd nu tv), (zaI aS cS 901 fS)] := hD
              refine lv_aload_n hx hb dX12_factor_172 rfl (lv_at hl 3 rfl) ?_
              have hPc := hP.sub (ws' := [(zo14irriiiiiirriirrrrlriiii m0 th aS aI im (nI a) (nI ((p0 + 1) + 1)) (nI E) 1 4 aB aT se dn aG aO aN aD bv aY rn kd nu tv), (zaI aS cS 901 fS)]) [0, 1] rfl
              have hDc := hD.sub (ws' := [(zo14irriiiiiirriirrrrlriiii m0 th aS aI im (nI a) (nI ((p0 + 1) + 1)) (nI E) 1 4 aB aT se dn aG aO aN aD bv aY rn kd nu tv), (zaI aS cS 901 fS)]) [0, 1] (by decide) rfl
              have hKc := hK.sub (tys' := [(cS, .int)]) [0] rfl
              have hFc := va_free (wc := [(zo14irriiiiiirriirrrrlriiii m0 th aS aI im (nI a) (nI ((p0 + 1) + 1)) (nI E) 1 4 aB aT se dn aG aO aN aD bv aY rn kd nu tv), (zaI aS cS 901 fS)]) hD hS hA [0, 1] rfl
              refine va_calli (va_runV (As := []) (rest := []) ⟨hx, hb, hml, hown, hts⟩ (c_figures l dC dI m0 aS aI aB aT aG aO aN aD aY th im (nI a) (nI ((p0 + 1) + 1)) (nI E) 1 4 se dn rn kd nu tv bv cS fS a ((p0 + 1) + 1) E H.size (by omega) (by omega) (by omega) (Or.inr rfl)) (cwV 0 hts gX12_factor_X12_figures rfl rfl rfl hd_yX12_figures ⟨Nat.le_of_ble_eq_true rfl, Nat.le_of_ble_eq_true rfl⟩) ⟨fun a U g mk q => by obtain ⟨q0, q1, qP, qK, qD⟩ := q; exact ⟨q0, q1, qP, va_K.moved (u := U) (U := U.calling g mk a) (Vm.Alike.refl U.vm) qK, qD⟩, va_recv hK hP (ci := 14) (q := (RX12, TX12, 23)) (q0 := 0) rfl rfl, fun U hU hW => ⟨rfl, by rw [hU], by rw [hU]; exact hPc, va_K.moved hW.alike hKc, hDc.weaken (fun _ _ _ _ => trivial)⟩⟩ rfl rfl hl.1 rfl (lv_room (Nat.le_of_ble_eq_true rfl)) dX12_factor_173 ⟨Nat.le_of_ble_eq_true rfl, Nat.le_of_ble_eq_true rfl⟩) hS (fun q _ h => hFc q h) hFc (fun r_97 u tC H1 locs htC hvm hw_98 hB hz1 hk1 hS => ?_)
              obtain ⟨sp9_99, wg9_100⟩ := u
              try dsimp only at hw_98 hB
              obtain ⟨hP1, hK1, hD1⟩ := hB
              rw [htC] at hP1
              have hK1 := va_K.moved hvm.symm hK1
              obtain ⟨hP, hD⟩ := va_join (wr := []) (w1 := [(zo14irriiiiiirriirrrrlriiii m0 th aS aI im (nI a) sp9_99 (nI E) wg9_100 4 aB aT se dn aG aO aN aD bv aY rn kd nu tv), (zaI aS cS 901 fS)]) hP hD [0, 1] [] rfl rfl (by decide) (by decide) hk1 hFc hP1 hD1
              have hK := (hK.sub (tys' := []) [] rfl).app hK1
              generalize H1 = H at hP hS ⊢
              have hP : va_P (dC, dI) vwCl [(zo14irriiiiiirriirrrrlriiii m0 th aS aI im (nI a) sp9_99 (nI E) wg9_100 4 aB aT se dn aG aO aN aD bv aY rn kd nu tv), (zaI aS cS 901 fS)] H := hP
              have hD : va_D A [(zo14irriiiiiirriirrrrlriiii m0 th aS aI im (nI a) sp9_99 (nI E) wg9_100 4 aB aT se dn aG aO aN aD bv aY rn kd nu tv), (zaI aS cS 901 fS)] := hD
              have hK : va_K (dC, dI) vwCl [(cS, .int)] s := hK
              obtain ⟨p_101, v_102, h_103, h_104, rfl, rfl, h_105, h_106, h_107⟩ := hw_98
              rcases h_106 with rfl | rfl
              · skip
                exact absurd (h_107 rfl).1 (by decide)
              · skip
                refine lv_istore (lv' := [(4, .int (nI v_102)), (3, .int (nI j_58)), (2, .int (nI j_34)), (1, .int r_2), (0, .ref m0)]) hx hb dX12_factor_176 hl (by decide) rfl (fun ls hl => ?_)
                refine lv_aload_n hx hb dX12_factor_178 rfl (lv_at hl 4 rfl) ?_
                refine lv_iload_n hx hb dX12_factor_179 rfl (lv_at hl 2 rfl) ?_
                refine lv_bipush (v := 8) hx hb dX12_factor_180 (by decide) ?_
                refine lv_iload_n hx hb dX12_factor_182 rfl (lv_at hl 1 rfl) ?_
                refine lv_imul hx hb dX12_factor_183 ?_
                refine qi_as (y := nI (8 * j_58)) (pk_mul 8 j_58) ?_
                refine lv_iadd hx hb dX12_factor_184 ?_
                refine qi_as (y := nI (j_34 + (8 * j_58))) (nI_add j_34 (8 * j_58)) ?_
                refine lv_bipush (v := 32) hx hb dX12_factor_185 (by decide) ?_
                refine lv_iload hx hb dX12_factor_187 (lv_at hl 0 rfl) ?_
                refine lv_imul hx hb dX12_factor_189 ?_
                refine qi_as (y := nI (32 * v_102)) (pk_mul 32 v_102) ?_
                refine lv_iadd hx hb dX12_factor_190 ?_
                refine qi_as (y := nI ((j_34 + (8 * j_58)) + (32 * v_102))) (nI_add (j_34 + (8 * j_58)) (32 * v_102)) ?_
                have hPc := hP.sub (ws' := [(zo14irriiiiiirriirrrrlriiii m0 th aS aI im (nI a) (nI p_101) (nI E) 1 4 aB aT se dn aG aO aN aD bv aY rn kd nu tv)]) [0] rfl
                have hKc := hK.sub (tys' := []) [] rfl
                refine va_csv (va_runV (As := [.int (nI ((j_34 + (8 * j_58)) + (32 * v_102)))]) (rest := []) ⟨hx, hb, hml, hown, hts⟩ (c_emitsW l dC dI m0 aS aI aB aT aG aO aN aD aY th im (nI a) (nI p_101) (nI E) 1 4 se dn rn kd nu tv bv (nI ((j_34 + (8 * j_58)) + (32 * v_102)))) (cwV 1 hts gX12_factor_X12_emits rfl rfl rfl hd_yX12_emits ⟨Nat.le_of_ble_eq_true rfl, Nat.le_of_ble_eq_true rfl⟩) ⟨fun a U g mk q => by obtain ⟨q0, qP, qK⟩ := q; exact ⟨q0, qP, va_K.moved (u := U) (U := U.calling g mk a) (Vm.Alike.refl U.vm) qK⟩, va_recv hK hP (ci := 14) (q := (RX12, TX12, 23)) (q0 := 0) rfl rfl, fun U hU hW => ⟨rfl, by rw [hU]; exact hPc, va_K.moved hW.alike hKc⟩⟩ rfl rfl hl.1 rfl (lv_room (Nat.le_of_ble_eq_true rfl)) dX12_factor_191 ⟨Nat.le_of_ble_eq_true rfl, Nat.le_of_ble_eq_true rfl⟩).run (fun hw_109 => ?_)
                rw [hQ]
                have hP9 := hP.sub (ws' := [(zo14irriiiiiirriirrrrlriiii m0 th aS aI im (nI a) (nI p_101) (nI E) 1 4 aB aT se dn aG aO aN aD bv aY rn kd nu tv), (zaI aS cS 901 fS)]) [0, 1] rfl
                have hD9 := hD.sub (ws' := [(zo14irriiiiiirriirrrrlriiii m0 th aS aI im (nI a) (nI p_101) (nI E) 1 4 aB aT se dn aG aO aN aD bv aY rn kd nu tv), (zaI aS cS 901 fS)]) [0, 1] (by decide) rfl
                have hK9 := hK.sub (tys' := [(cS, .int)]) [0] rfl
                exact W.vret hx hb hr (fun tQ htQ hWQ => ⟨⟨(fS, (nI p_101), 1), rfl, ⟨p_101, k, rfl, by omega, by omega, PF.rf, Or.inl rfl⟩, by rw [htQ]; exact hP9, va_K.moved hWQ.alike hK9, hD9⟩, hS.F htQ⟩) hS.2.2 dX12_factor_194
        · skip
          refine lv_iconst (v := 1) hx hb dX12_factor_125 (by decide) ?_
          refine lv_goto (tgt := 130) hx hb dX12_factor_126 (by decide) ?_
          refine va_put (D := (dC, dI)) (ci := 14) (v := .int 1) (ty := .boolean) (C := RX12) (T := TX12) (N := 23) hx hb hts kc_factor4_0 tyX12 tyX12_ok nmX12 hown hK hP hD hS 0 rfl rfl 7 (by decide) (hts (.fieldLink RX12 65 "MistHeapsModel" "isWrong" "Z") kc_factor4_1) (fun _ h9 => h9) rfl (by decide +kernel) rfl rfl (Nat.le_of_ble_eq_true rfl) dX12_factor_130 (fun H locs hP hD hS => ?_)
          have hP : va_P (dC, dI) vwCl [(zo14irriiiiiirriirrrrlriiii m0 th aS aI im (nI a) (nI (p0 + 1)) (nI E) 1 4 aB aT se dn aG aO aN aD bv aY rn kd nu tv), (zaI aS cS 901 fS)] H := hP
          have hD : va_D A [(zo14irriiiiiirriirrrrlriiii m0 th aS aI im (nI a) (nI (p0 + 1)) (nI E) 1 4 aB aT se dn aG aO aN aD bv aY rn kd nu tv), (zaI aS cS 901 fS)] := hD
          refine lv_aload_n hx hb dX12_factor_133 rfl (lv_at hl 2 rfl) ?_
          refine va_get (D := (dC, dI)) (ci := 14) (v := .int 1) (C := RX12) (T := TX12) (N := 23) hx hb hts kc_factor4_0 hown hK hP 0 rfl rfl 7 (by decide) (hts (.fieldLink RX12 65 "MistHeapsModel" "isWrong" "Z") kc_factor4_1) (fun _ h9 => h9) rfl dX12_factor_134 ?_
          refine lv_if_eq (tgt := 144) hx hb dX12_factor_137 (by decide) (fun c_110 => absurd c_110 (by decide)) (fun _ => ?_)
          refine lv_iconst (v := 0) hx hb dX12_factor_140 (by decide) ?_
          refine lv_goto (tgt := 150) hx hb dX12_factor_141 (by decide) ?_
          refine lv_istore_n (lv' := [(3, .int 0), (2, .int (nI j_34)), (1, .int r_2), (0, .ref m0)]) hx hb dX12_factor_150 rfl hl (by decide) rfl (fun ls hl => ?_)
          refine lv_aload_n hx hb dX12_factor_151 rfl (lv_at hl 3 rfl) ?_
          refine lv_aload_n hx hb dX12_factor_152 rfl (lv_at hl 3 rfl) ?_
          refine va_get (D := (dC, dI)) (ci := 14) (v := .int 1) (C := RX12) (T := TX12) (N := 23) hx hb hts kc_factor4_0 hown hK hP 0 rfl rfl 7 (by decide) (hts (.fieldLink RX12 65 "MistHeapsModel" "isWrong" "Z") kc_factor4_1) (fun _ h9 => h9) rfl dX12_factor_153 ?_
          refine lv_if_ne (tgt := 164) hx hb dX12_factor_156 (by decide) (fun _ => ?_) (fun c_111 => absurd c_111 (by decide))
          refine lv_iconst (v := 1) hx hb dX12_factor_164 (by decide) ?_
          refine lv_goto (tgt := 169) hx hb dX12_factor_165 (by decide) ?_
          refine va_put (D := (dC, dI)) (ci := 14) (v := .int 1) (ty := .boolean) (C := RX12) (T := TX12) (N := 23) hx hb hts kc_factor4_0 tyX12 tyX12_ok nmX12 hown hK hP hD hS 0 rfl rfl 7 (by decide) (hts (.fieldLink RX12 65 "MistHeapsModel" "isWrong" "Z") kc_factor4_1) (fun _ h9 => h9) rfl (by decide +kernel) rfl rfl (Nat.le_of_ble_eq_true rfl) dX12_factor_169 (fun H locs hP hD hS => ?_)
          have hP : va_P (dC, dI) vwCl [(zo14irriiiiiirriirrrrlriiii m0 th aS aI im (nI a) (nI (p0 + 1)) (nI E) 1 4 aB aT se dn aG aO aN aD bv aY rn kd nu tv), (zaI aS cS 901 fS)] H := hP
          have hD : va_D A [(zo14irriiiiiirriirrrrlriiii m0 th aS aI im (nI a) (nI (p0 + 1)) (nI E) 1 4 aB aT se dn aG aO aN aD bv aY rn kd nu tv), (zaI aS cS 901 fS)] := hD
          refine lv_aload_n hx hb dX12_factor_172 rfl (lv_at hl 3 rfl) ?_
          have hPc := hP.sub (ws' := [(zo14irriiiiiirriirrrrlriiii m0 th aS aI im (nI a) (nI (p0 + 1)) (nI E) 1 4 aB aT se dn aG aO aN aD bv aY rn kd nu tv), (zaI aS cS 901 fS)]) [0, 1] rfl
          have hDc := hD.sub (ws' := [(zo14irriiiiiirriirrrrlriiii m0 th aS aI im (nI a) (nI (p0 + 1)) (nI E) 1 4 aB aT se dn aG aO aN aD bv aY rn kd nu tv), (zaI aS cS 901 fS)]) [0, 1] (by decide) rfl
          have hKc := hK.sub (tys' := [(cS, .int)]) [0] rfl
          have hFc := va_free (wc := [(zo14irriiiiiirriirrrrlriiii m0 th aS aI im (nI a) (nI (p0 + 1)) (nI E) 1 4 aB aT se dn aG aO aN aD bv aY rn kd nu tv), (zaI aS cS 901 fS)]) hD hS hA [0, 1] rfl
          refine va_calli (va_runV (As := []) (rest := []) ⟨hx, hb, hml, hown, hts⟩ (c_figures l dC dI m0 aS aI aB aT aG aO aN aD aY th im (nI a) (nI (p0 + 1)) (nI E) 1 4 se dn rn kd nu tv bv cS fS a (p0 + 1) E H.size (by omega) (by omega) (by omega) (Or.inr rfl)) (cwV 0 hts gX12_factor_X12_figures rfl rfl rfl hd_yX12_figures ⟨Nat.le_of_ble_eq_true rfl, Nat.le_of_ble_eq_true rfl⟩) ⟨fun a U g mk q => by obtain ⟨q0, q1, qP, qK, qD⟩ := q; exact ⟨q0, q1, qP, va_K.moved (u := U) (U := U.calling g mk a) (Vm.Alike.refl U.vm) qK, qD⟩, va_recv hK hP (ci := 14) (q := (RX12, TX12, 23)) (q0 := 0) rfl rfl, fun U hU hW => ⟨rfl, by rw [hU], by rw [hU]; exact hPc, va_K.moved hW.alike hKc, hDc.weaken (fun _ _ _ _ => trivial)⟩⟩ rfl rfl hl.1 rfl (lv_room (Nat.le_of_ble_eq_true rfl)) dX12_factor_173 ⟨Nat.le_of_ble_eq_true rfl, Nat.le_of_ble_eq_true rfl⟩) hS (fun q _ h => hFc q h) hFc (fun r_112 u tC H1 locs htC hvm hw_113 hB hz1 hk1 hS => ?_)
          obtain ⟨sp9_114, wg9_115⟩ := u
          try dsimp only at hw_113 hB
          obtain ⟨hP1, hK1, hD1⟩ := hB
          rw [htC] at hP1
          have hK1 := va_K.moved hvm.symm hK1
          obtain ⟨hP, hD⟩ := va_join (wr := []) (w1 := [(zo14irriiiiiirriirrrrlriiii m0 th aS aI im (nI a) sp9_114 (nI E) wg9_115 4 aB aT se dn aG aO aN aD bv aY rn kd nu tv), (zaI aS cS 901 fS)]) hP hD [0, 1] [] rfl rfl (by decide) (by decide) hk1 hFc hP1 hD1
          have hK := (hK.sub (tys' := []) [] rfl).app hK1
          generalize H1 = H at hP hS ⊢
          have hP : va_P (dC, dI) vwCl [(zo14irriiiiiirriirrrrlriiii m0 th aS aI im (nI a) sp9_114 (nI E) wg9_115 4 aB aT se dn aG aO aN aD bv aY rn kd nu tv), (zaI aS cS 901 fS)] H := hP
          have hD : va_D A [(zo14irriiiiiirriirrrrlriiii m0 th aS aI im (nI a) sp9_114 (nI E) wg9_115 4 aB aT se dn aG aO aN aD bv aY rn kd nu tv), (zaI aS cS 901 fS)] := hD
          have hK : va_K (dC, dI) vwCl [(cS, .int)] s := hK
          obtain ⟨p_116, v_117, h_118, h_119, rfl, rfl, h_120, h_121, h_122⟩ := hw_113
          rcases h_121 with rfl | rfl
          · skip
            exact absurd (h_122 rfl).1 (by decide)
          · skip
            refine lv_istore (lv' := [(4, .int (nI v_117)), (3, .int 0), (2, .int (nI j_34)), (1, .int r_2), (0, .ref m0)]) hx hb dX12_factor_176 hl (by decide) rfl (fun ls hl => ?_)
            refine lv_aload_n hx hb dX12_factor_178 rfl (lv_at hl 4 rfl) ?_
            refine lv_iload_n hx hb dX12_factor_179 rfl (lv_at hl 2 rfl) ?_
            refine lv_bipush (v := 8) hx hb dX12_factor_180 (by decide) ?_
            refine lv_iload_n hx hb dX12_factor_182 rfl (lv_at hl 1 rfl) ?_
            refine lv_imul hx hb dX12_factor_183 ?_
            refine qi_as (y := 0) (by decide) ?_
            refine lv_iadd hx hb dX12_factor_184 ?_
            refine qi_as (y := nI (j_34 + 0)) (nI_add j_34 0) ?_
            refine lv_bipush (v := 32) hx hb dX12_factor_185 (by decide) ?_
            refine lv_iload hx hb dX12_factor_187 (lv_at hl 0 rfl) ?_
            refine lv_imul hx hb dX12_factor_189 ?_
            refine qi_as (y := nI (32 * v_117)) (pk_mul 32 v_117) ?_
            refine lv_iadd hx hb dX12_factor_190 ?_
            refine qi_as (y := nI ((j_34 + 0) + (32 * v_117))) (nI_add (j_34 + 0) (32 * v_117)) ?_
            have hPc := hP.sub (ws' := [(zo14irriiiiiirriirrrrlriiii m0 th aS aI im (nI a) (nI p_116) (nI E) 1 4 aB aT se dn aG aO aN aD bv aY rn kd nu tv)]) [0] rfl
            have hKc := hK.sub (tys' := []) [] rfl
            refine va_csv (va_runV (As := [.int (nI ((j_34 + 0) + (32 * v_117)))]) (rest := []) ⟨hx, hb, hml, hown, hts⟩ (c_emitsW l dC dI m0 aS aI aB aT aG aO aN aD aY th im (nI a) (nI p_116) (nI E) 1 4 se dn rn kd nu tv bv (nI ((j_34 + 0) + (32 * v_117)))) (cwV 1 hts gX12_factor_X12_emits rfl rfl rfl hd_yX12_emits ⟨Nat.le_of_ble_eq_true rfl, Nat.le_of_ble_eq_true rfl⟩) ⟨fun a U g mk q => by obtain ⟨q0, qP, qK⟩ := q; exact ⟨q0, qP, va_K.moved (u := U) (U := U.calling g mk a) (Vm.Alike.refl U.vm) qK⟩, va_recv hK hP (ci := 14) (q := (RX12, TX12, 23)) (q0 := 0) rfl rfl, fun U hU hW => ⟨rfl, by rw [hU]; exact hPc, va_K.moved hW.alike hKc⟩⟩ rfl rfl hl.1 rfl (lv_room (Nat.le_of_ble_eq_true rfl)) dX12_factor_191 ⟨Nat.le_of_ble_eq_true rfl, Nat.le_of_ble_eq_true rfl⟩).run (fun hw_124 => ?_)
            rw [hQ]
            have hP9 := hP.sub (ws' := [(zo14irriiiiiirriirrrrlriiii m0 th aS aI im (nI a) (nI p_116) (nI E) 1 4 aB aT se dn aG aO aN aD bv aY rn kd nu tv), (zaI aS cS 901 fS)]) [0, 1] rfl
            have hD9 := hD.sub (ws' := [(zo14irriiiiiirriirrrrlriiii m0 th aS aI im (nI a) (nI p_116) (nI E) 1 4 aB aT se dn aG aO aN aD bv aY rn kd nu tv), (zaI aS cS 901 fS)]) [0, 1] (by decide) rfl
            have hK9 := hK.sub (tys' := [(cS, .int)]) [0] rfl
            exact W.vret hx hb hr (fun tQ htQ hWQ => ⟨⟨(fS, (nI p_116), 1), rfl, ⟨p_116, k, rfl, by omega, by omega, PF.rf, Or.inl rfl⟩, by rw [htQ]; exact hP9, va_K.moved hWQ.alike hK9, hD9⟩, hS.F htQ⟩) hS.2.2 dX12_factor_194
    · skip
      subst c_30
      have hlt : p0 < E := hv_lt (f := fS) (by rw [← hw_3]; decide)
      refine lv_aload_n hx hb dX12_factor_25 rfl (lv_at hl 1 rfl) ?_
      refine lv_aload_n hx hb dX12_factor_26 rfl (lv_at hl 1 rfl) ?_
      refine va_get (D := (dC, dI)) (ci := 14) (v := .int 4) (C := RX12) (T := TX12) (N := 23) hx hb hts kc_factor4_0 hown hK hP 0 rfl rfl 8 (by decide) (hts (.fieldLink RX12 89 "MistHeapsModel" "open" "I") kc_factor4_2) (fun _ h9 => h9) rfl dX12_factor_27 ?_
      refine lv_iconst (v := 5) hx hb dX12_factor_30 (by decide) ?_
      refine lv_icmp_ne (tgt := 38) hx hb dX12_factor_31 (by decide) (fun _ => ?_) (fun c_125 => absurd c_125 (by decide))
      refine lv_iconst (v := 0) hx hb dX12_factor_38 (by decide) ?_
      refine va_put (D := (dC, dI)) (ci := 14) (v := .int 0) (ty := .boolean) (C := RX12) (T := TX12) (N := 23) hx hb hts kc_factor4_0 tyX12 tyX12_ok nmX12 hown hK hP hD hS 0 rfl rfl 7 (by decide) (hts (.fieldLink RX12 65 "MistHeapsModel" "isWrong" "Z") kc_factor4_1) (fun _ h9 => h9) rfl (by decide +kernel) rfl rfl (Nat.le_of_ble_eq_true rfl) dX12_factor_39 (fun H locs hP hD hS => ?_)
      have hP : va_P (dC, dI) vwCl [(zo14irriiiiiirriirrrrlriiii m0 th aS aI im (nI a) (nI p0) (nI E) 0 4 aB aT se dn aG aO aN aD bv aY rn kd nu tv), (zaI aS cS 901 fS)] H := hP
      have hD : va_D A [(zo14irriiiiiirriirrrrlriiii m0 th aS aI im (nI a) (nI p0) (nI E) 0 4 aB aT se dn aG aO aN aD bv aY rn kd nu tv), (zaI aS cS 901 fS)] := hD
      refine lv_aload_n hx hb dX12_factor_42 rfl (lv_at hl 1 rfl) ?_
      refine lv_dup hx hb dX12_factor_43 rfl ?_
      refine va_get (D := (dC, dI)) (ci := 14) (v := .int 4) (C := RX12) (T := TX12) (N := 23) hx hb hts kc_factor4_0 hown hK hP 0 rfl rfl 8 (by decide) (hts (.fieldLink RX12 89 "MistHeapsModel" "open" "I") kc_factor4_2) (fun _ h9 => h9) rfl dX12_factor_44 ?_
      refine lv_iconst (v := 1) hx hb dX12_factor_47 (by decide) ?_
      refine lv_iadd hx hb dX12_factor_48 ?_
      refine qi_as (y := 5) (by decide) ?_
      refine va_put (D := (dC, dI)) (ci := 14) (v := .int 5) (ty := .int) (C := RX12) (T := TX12) (N := 23) hx hb hts kc_factor4_0 tyX12 tyX12_ok nmX12 hown hK hP hD hS 0 rfl rfl 8 (by decide) (hts (.fieldLink RX12 89 "MistHeapsModel" "open" "I") kc_factor4_2) (fun _ h9 => h9) rfl (by decide +kernel) rfl rfl (Nat.le_of_ble_eq_true rfl) dX12_factor_49 (fun H locs hP hD hS => ?_)
      have hP : va_P (dC, dI) vwCl [(zo14irriiiiiirriirrrrlriiii m0 th aS aI im (nI a) (nI p0) (nI E) 0 5 aB aT se dn aG aO aN aD bv aY rn kd nu tv), (zaI aS cS 901 fS)] H := hP
      have hD : va_D A [(zo14irriiiiiirriirrrrlriiii m0 th aS aI im (nI a) (nI p0) (nI E) 0 5 aB aT se dn aG aO aN aD bv aY rn kd nu tv), (zaI aS cS 901 fS)] := hD
      refine lv_aload_n hx hb dX12_factor_52 rfl (lv_at hl 1 rfl) ?_
      refine lv_dup hx hb dX12_factor_53 rfl ?_
      refine va_get (D := (dC, dI)) (ci := 14) (v := .int (nI p0)) (C := RX12) (T := TX12) (N := 23) hx hb hts kc_factor4_0 hown hK hP 0 rfl rfl 5 (by decide) (hts (.fieldLink RX12 59 "MistHeapsModel" "spot" "I") kc_factor4_3) (fun _ h9 => h9) rfl dX12_factor_54 ?_
      refine lv_aload_n hx hb dX12_factor_57 rfl (lv_at hl 1 rfl) ?_
      refine va_get (D := (dC, dI)) (ci := 14) (v := .int 0) (C := RX12) (T := TX12) (N := 23) hx hb hts kc_factor4_0 hown hK hP 0 rfl rfl 7 (by decide) (hts (.fieldLink RX12 65 "MistHeapsModel" "isWrong" "Z") kc_factor4_1) (fun _ h9 => h9) rfl dX12_factor_58 ?_
      refine lv_if_eq (tgt := 68) hx hb dX12_factor_61 (by decide) (fun _ => ?_) (fun c_126 => absurd c_126 (by decide))
      refine lv_iconst (v := 1) hx hb dX12_factor_68 (by decide) ?_
      refine lv_iadd hx hb dX12_factor_69 ?_
      refine qi_as (y := nI (p0 + 1)) (nI_add p0 1) ?_
      refine va_put (D := (dC, dI)) (ci := 14) (v := .int (nI (p0 + 1))) (ty := .int) (C := RX12) (T := TX12) (N := 23) hx hb hts kc_factor4_0 tyX12 tyX12_ok nmX12 hown hK hP hD hS 0 rfl rfl 5 (by decide) (hts (.fieldLink RX12 59 "MistHeapsModel" "spot" "I") kc_factor4_3) (fun _ h9 => h9) rfl (by decide +kernel) rfl rfl (Nat.le_of_ble_eq_true rfl) dX12_factor_70 (fun H locs hP hD hS => ?_)
      have hP : va_P (dC, dI) vwCl [(zo14irriiiiiirriirrrrlriiii m0 th aS aI im (nI a) (nI (p0 + 1)) (nI E) 0 5 aB aT se dn aG aO aN aD bv aY rn kd nu tv), (zaI aS cS 901 fS)] H := hP
      have hD : va_D A [(zo14irriiiiiirriirrrrlriiii m0 th aS aI im (nI a) (nI (p0 + 1)) (nI E) 0 5 aB aT se dn aG aO aN aD bv aY rn kd nu tv), (zaI aS cS 901 fS)] := hD
      refine lv_iload_n hx hb dX12_factor_73 rfl (lv_at hl 0 rfl) ?_
      refine lv_bipush (v := 33) hx hb dX12_factor_74 (by decide) ?_
      refine lv_icmp_ne (tgt := 91) hx hb dX12_factor_76 (by decide) (fun _ => ?_) (fun c_127 => absurd c_127 (by decide))
      refine lv_aload_n hx hb dX12_factor_91 rfl (lv_at hl 1 rfl) ?_
      have hPc := hP.sub (ws' := [(zo14irriiiiiirriirrrrlriiii m0 th aS aI im (nI a) (nI (p0 + 1)) (nI E) 0 5 aB aT se dn aG aO aN aD bv aY rn kd nu tv), (zaI aS cS 901 fS)]) [0, 1] rfl
      have hDc := hD.sub (ws' := [(zo14irriiiiiirriirrrrlriiii m0 th aS aI im (nI a) (nI (p0 + 1)) (nI E) 0 5 aB aT se dn aG aO aN aD bv aY rn kd nu tv), (zaI aS cS 901 fS)]) [0, 1] (by decide) rfl
      have hKc := hK.sub (tys' := [(cS, .int)]) [0] rfl
      have hFc := va_free (wc := [(zo14irriiiiiirriirrrrlriiii m0 th aS aI im (nI a) (nI (p0 + 1)) (nI E) 0 5 aB aT se dn aG aO aN aD bv aY rn kd nu tv), (zaI aS cS 901 fS)]) hD hS hA [0, 1] rfl
      refine va_callv (va_runV (As := []) (rest := []) ⟨hx, hb, hml, hown, hts⟩ (c_some5 l dC dI sK sV m0 aS aI aB aT aG aO aN aD aY th im (nI a) (nI (p0 + 1)) (nI E) 0 5 se dn rn kd nu tv bv cS fS a (p0 + 1) E k d H.size ((gI).mono (by omega) (by omega))) (cwV 0 hts gX12_factor_X12_some rfl rfl rfl hd_yX12_some ⟨Nat.le_of_ble_eq_true rfl, Nat.le_of_ble_eq_true rfl⟩) ⟨fun a U g mk q => by obtain ⟨q0, q1, qP, qK, qD, qhE⟩ := q; exact ⟨q0, q1, qP, va_K.moved (u := U) (U := U.calling g mk a) (Vm.Alike.refl U.vm) qK, qD, qhE.same rfl rfl⟩, va_recv hK hP (ci := 14) (q := (RX12, TX12, 23)) (q0 := 0) rfl rfl, fun U hU hW => ⟨rfl, by rw [hU], by rw [hU]; exact hPc, va_K.moved hW.alike hKc, hDc.weaken (fun _ _ _ _ => trivial), hE.call hS hU hW (fun q h => hFc q h)⟩⟩ rfl rfl hl.1 rfl (lv_room (Nat.le_of_ble_eq_true rfl)) dX12_factor_92 ⟨Nat.le_of_ble_eq_true rfl, Nat.le_of_ble_eq_true rfl⟩) hS (fun q _ h => hFc q h) hFc (fun u tC H1 locs htC hvm hw_129 hB hz1 hk1 hS => ?_)
      obtain ⟨fS9_130, sp9_131, wg9_132⟩ := u
      try dsimp only at hw_129 hB
      obtain ⟨hP1, hK1, hD1⟩ := hB
      rw [htC] at hP1
      have hK1 := va_K.moved hvm.symm hK1
      obtain ⟨hP, hD⟩ := va_join (wr := []) (w1 := [(zo14irriiiiiirriirrrrlriiii m0 th aS aI im (nI a) sp9_131 (nI E) wg9_132 5 aB aT se dn aG aO aN aD bv aY rn kd nu tv), (zaI aS cS 901 fS9_130)]) hP hD [0, 1] [] rfl rfl (by decide) (by decide) hk1 hFc hP1 hD1
      have hK := (hK.sub (tys' := []) [] rfl).app hK1
      generalize H1 = H at hP hS ⊢
      have hP : va_P (dC, dI) vwCl [(zo14irriiiiiirriirrrrlriiii m0 th aS aI im (nI a) sp9_131 (nI E) wg9_132 5 aB aT se dn aG aO aN aD bv aY rn kd nu tv), (zaI aS cS 901 fS9_130)] H := hP
      have hD : va_D A [(zo14irriiiiiirriirrrrlriiii m0 th aS aI im (nI a) sp9_131 (nI E) wg9_132 5 aB aT se dn aG aO aN aD bv aY rn kd nu tv), (zaI aS cS 901 fS9_130)] := hD
      have hK : va_K (dC, dI) vwCl [(cS, .int)] s := hK
      obtain ⟨p_133, k_134, rfl, h_136, h_137, hF_138, q9⟩ := hw_129
      rcases q9 with rfl | ⟨rfl, h_139, hI_140, h_141⟩
      · skip
        refine lv_aload_n hx hb dX12_factor_95 rfl (lv_at hl 1 rfl) ?_
        refine lv_bipush (v := 41) hx hb dX12_factor_96 (by decide) ?_
        have hPc := hP.sub (ws' := [(zo14irriiiiiirriirrrrlriiii m0 th aS aI im (nI a) (nI p_133) (nI E) 1 5 aB aT se dn aG aO aN aD bv aY rn kd nu tv), (zaI aS cS 901 fS9_130)]) [0, 1] rfl
        have hDc := hD.sub (ws' := [(zo14irriiiiiirriirrrrlriiii m0 th aS aI im (nI a) (nI p_133) (nI E) 1 5 aB aT se dn aG aO aN aD bv aY rn kd nu tv), (zaI aS cS 901 fS9_130)]) [0, 1] (by decide) rfl
        have hKc := hK.sub (tys' := [(cS, .int)]) [0] rfl
        have hFc := va_free (wc := [(zo14irriiiiiirriirrrrlriiii m0 th aS aI im (nI a) (nI p_133) (nI E) 1 5 aB aT se dn aG aO aN aD bv aY rn kd nu tv), (zaI aS cS 901 fS9_130)]) hD hS hA [0, 1] rfl
        refine va_callv (va_runV (As := [.int 41]) (rest := []) ⟨hx, hb, hml, hown, hts⟩ (c_must l dC dI m0 aS aI aB aT aG aO aN aD aY th im (nI a) (nI p_133) (nI E) 1 5 se dn rn kd nu tv bv cS fS9_130 a p_133 E 41 H.size (by omega) (by omega) (by omega) (Or.inr rfl) (by decide)) (cwV 1 hts gX12_factor_X12_must rfl rfl rfl hd_yX12_must ⟨Nat.le_of_ble_eq_true rfl, Nat.le_of_ble_eq_true rfl⟩) ⟨fun a U g mk q => by obtain ⟨q0, q1, qP, qK, qD⟩ := q; exact ⟨q0, q1, qP, va_K.moved (u := U) (U := U.calling g mk a) (Vm.Alike.refl U.vm) qK, qD⟩, va_recv hK hP (ci := 14) (q := (RX12, TX12, 23)) (q0 := 0) rfl rfl, fun U hU hW => ⟨rfl, by rw [hU], by rw [hU]; exact hPc, va_K.moved hW.alike hKc, hDc.weaken (fun _ _ _ _ => trivial)⟩⟩ rfl rfl hl.1 rfl (lv_room (Nat.le_of_ble_eq_true rfl)) dX12_factor_98 ⟨Nat.le_of_ble_eq_true rfl, Nat.le_of_ble_eq_true rfl⟩) hS (fun q _ h => hFc q h) hFc (fun u tC H1 locs htC hvm hw_143 hB hz1 hk1 hS => ?_)
        obtain ⟨sp9_144, wg9_145⟩ := u
        try dsimp only at hw_143 hB
        obtain ⟨hP1, hK1, hD1⟩ := hB
        rw [htC] at hP1
        have hK1 := va_K.moved hvm.symm hK1
        obtain ⟨hP, hD⟩ := va_join (wr := []) (w1 := [(zo14irriiiiiirriirrrrlriiii m0 th aS aI im (nI a) sp9_144 (nI E) wg9_145 5 aB aT se dn aG aO aN aD bv aY rn kd nu tv), (zaI aS cS 901 fS9_130)]) hP hD [0, 1] [] rfl rfl (by decide) (by decide) hk1 hFc hP1 hD1
        have hK := (hK.sub (tys' := []) [] rfl).app hK1
        generalize H1 = H at hP hS ⊢
        have hP : va_P (dC, dI) vwCl [(zo14irriiiiiirriirrrrlriiii m0 th aS aI im (nI a) sp9_144 (nI E) wg9_145 5 aB aT se dn aG aO aN aD bv aY rn kd nu tv), (zaI aS cS 901 fS9_130)] H := hP
        have hD : va_D A [(zo14irriiiiiirriirrrrlriiii m0 th aS aI im (nI a) sp9_144 (nI E) wg9_145 5 aB aT se dn aG aO aN aD bv aY rn kd nu tv), (zaI aS cS 901 fS9_130)] := hD
        have hK : va_K (dC, dI) vwCl [(cS, .int)] s := hK
        obtain ⟨rfl, rfl⟩ : _ ∧ _ := by rcases hw_143 with q | ⟨_, q, _⟩; exact q; exact absurd q (by decide)
        refine lv_aload_n hx hb dX12_factor_101 rfl (lv_at hl 1 rfl) ?_
        refine lv_dup hx hb dX12_factor_102 rfl ?_
        refine va_get (D := (dC, dI)) (ci := 14) (v := .int 5) (C := RX12) (T := TX12) (N := 23) hx hb hts kc_factor4_0 hown hK hP 0 rfl rfl 8 (by decide) (hts (.fieldLink RX12 89 "MistHeapsModel" "open" "I") kc_factor4_2) (fun _ h9 => h9) rfl dX12_factor_103 ?_
        refine lv_iconst (v := 1) hx hb dX12_factor_106 (by decide) ?_
        refine lv_isub hx hb dX12_factor_107 ?_
        refine qi_as (y := 4) (by decide) ?_
        refine va_put (D := (dC, dI)) (ci := 14) (v := .int 4) (ty := .int) (C := RX12) (T := TX12) (N := 23) hx hb hts kc_factor4_0 tyX12 tyX12_ok nmX12 hown hK hP hD hS 0 rfl rfl 8 (by decide) (hts (.fieldLink RX12 89 "MistHeapsModel" "open" "I") kc_factor4_2) (fun _ h9 => h9) rfl (by decide +kernel) rfl rfl (Nat.le_of_ble_eq_true rfl) dX12_factor_108 (fun H locs hP hD hS => ?_)
        have hP : va_P (dC, dI) vwCl [(zo14irriiiiiirriirrrrlriiii m0 th aS aI im (nI a) (nI p_133) (nI E) 1 4 aB aT se dn aG aO aN aD bv aY rn kd nu tv), (zaI aS cS 901 fS9_130)] H := hP
        have hD : va_D A [(zo14irriiiiiirriirrrrlriiii m0 th aS aI im (nI a) (nI p_133) (nI E) 1 4 aB aT se dn aG aO aN aD bv aY rn kd nu tv), (zaI aS cS 901 fS9_130)] := hD
        rw [hQ]
        have hP9 := hP.sub (ws' := [(zo14irriiiiiirriirrrrlriiii m0 th aS aI im (nI a) (nI p_133) (nI E) 1 4 aB aT se dn aG aO aN aD bv aY rn kd nu tv), (zaI aS cS 901 fS9_130)]) [0, 1] rfl
        have hD9 := hD.sub (ws' := [(zo14irriiiiiirriirrrrlriiii m0 th aS aI im (nI a) (nI p_133) (nI E) 1 4 aB aT se dn aG aO aN aD bv aY rn kd nu tv), (zaI aS cS 901 fS9_130)]) [0, 1] (by decide) rfl
        have hK9 := hK.sub (tys' := [(cS, .int)]) [0] rfl
        exact W.vret hx hb hr (fun tQ htQ hWQ => ⟨⟨(fS9_130, (nI p_133), 1), rfl, ⟨p_133, k, rfl, by omega, by omega, (PF.rf).tr hF_138, Or.inl rfl⟩, by rw [htQ]; exact hP9, va_K.moved hWQ.alike hK9, hD9⟩, hS.F htQ⟩) hS.2.2 dX12_factor_111
      · skip
        have k5 := hI_140.2.2.2.2.1
        refine lv_aload_n hx hb dX12_factor_95 rfl (lv_at hl 1 rfl) ?_
        refine lv_bipush (v := 41) hx hb dX12_factor_96 (by decide) ?_
        have hPc := hP.sub (ws' := [(zo14irriiiiiirriirrrrlriiii m0 th aS aI im (nI a) (nI p_133) (nI E) 0 5 aB aT se dn aG aO aN aD bv aY rn kd nu tv), (zaI aS cS 901 fS9_130)]) [0, 1] rfl
        have hDc := hD.sub (ws' := [(zo14irriiiiiirriirrrrlriiii m0 th aS aI im (nI a) (nI p_133) (nI E) 0 5 aB aT se dn aG aO aN aD bv aY rn kd nu tv), (zaI aS cS 901 fS9_130)]) [0, 1] (by decide) rfl
        have hKc := hK.sub (tys' := [(cS, .int)]) [0] rfl
        have hFc := va_free (wc := [(zo14irriiiiiirriirrrrlriiii m0 th aS aI im (nI a) (nI p_133) (nI E) 0 5 aB aT se dn aG aO aN aD bv aY rn kd nu tv), (zaI aS cS 901 fS9_130)]) hD hS hA [0, 1] rfl
        refine va_callv (va_runV (As := [.int 41]) (rest := []) ⟨hx, hb, hml, hown, hts⟩ (c_must l dC dI m0 aS aI aB aT aG aO aN aD aY th im (nI a) (nI p_133) (nI E) 0 5 se dn rn kd nu tv bv cS fS9_130 a p_133 E 41 H.size (by omega) (by omega) (by omega) (Or.inl rfl) (by decide)) (cwV 1 hts gX12_factor_X12_must rfl rfl rfl hd_yX12_must ⟨Nat.le_of_ble_eq_true rfl, Nat.le_of_ble_eq_true rfl⟩) ⟨fun a U g mk q => by obtain ⟨q0, q1, qP, qK, qD⟩ := q; exact ⟨q0, q1, qP, va_K.moved (u := U) (U := U.calling g mk a) (Vm.Alike.refl U.vm) qK, qD⟩, va_recv hK hP (ci := 14) (q := (RX12, TX12, 23)) (q0 := 0) rfl rfl, fun U hU hW => ⟨rfl, by rw [hU], by rw [hU]; exact hPc, va_K.moved hW.alike hKc, hDc.weaken (fun _ _ _ _ => trivial)⟩⟩ rfl rfl hl.1 rfl (lv_room (Nat.le_of_ble_eq_true rfl)) dX12_factor_98 ⟨Nat.le_of_ble_eq_true rfl, Nat.le_of_ble_eq_true rfl⟩) hS (fun q _ h => hFc q h) hFc (fun u tC H1 locs htC hvm hw_147 hB hz1 hk1 hS => ?_)
        obtain ⟨sp9_148, wg9_149⟩ := u
        try dsimp only at hw_147 hB
        obtain ⟨hP1, hK1, hD1⟩ := hB
        rw [htC] at hP1
        have hK1 := va_K.moved hvm.symm hK1
        obtain ⟨hP, hD⟩ := va_join (wr := []) (w1 := [(zo14irriiiiiirriirrrrlriiii m0 th aS aI im (nI a) sp9_148 (nI E) wg9_149 5 aB aT se dn aG aO aN aD bv aY rn kd nu tv), (zaI aS cS 901 fS9_130)]) hP hD [0, 1] [] rfl rfl (by decide) (by decide) hk1 hFc hP1 hD1
        have hK := (hK.sub (tys' := []) [] rfl).app hK1
        generalize H1 = H at hP hS ⊢
        have hP : va_P (dC, dI) vwCl [(zo14irriiiiiirriirrrrlriiii m0 th aS aI im (nI a) sp9_148 (nI E) wg9_149 5 aB aT se dn aG aO aN aD bv aY rn kd nu tv), (zaI aS cS 901 fS9_130)] H := hP
        have hD : va_D A [(zo14irriiiiiirriirrrrlriiii m0 th aS aI im (nI a) sp9_148 (nI E) wg9_149 5 aB aT se dn aG aO aN aD bv aY rn kd nu tv), (zaI aS cS 901 fS9_130)] := hD
        have hK : va_K (dC, dI) vwCl [(cS, .int)] s := hK
        rcases hw_147 with ⟨rfl, rfl⟩ | ⟨rfl, h_151, h_152, rfl⟩
        · skip
          refine lv_aload_n hx hb dX12_factor_101 rfl (lv_at hl 1 rfl) ?_
          refine lv_dup hx hb dX12_factor_102 rfl ?_
          refine va_get (D := (dC, dI)) (ci := 14) (v := .int 5) (C := RX12) (T := TX12) (N := 23) hx hb hts kc_factor4_0 hown hK hP 0 rfl rfl 8 (by decide) (hts (.fieldLink RX12 89 "MistHeapsModel" "open" "I") kc_factor4_2) (fun _ h9 => h9) rfl dX12_factor_103 ?_
          refine lv_iconst (v := 1) hx hb dX12_factor_106 (by decide) ?_
          refine lv_isub hx hb dX12_factor_107 ?_
          refine qi_as (y := 4) (by decide) ?_
          refine va_put (D := (dC, dI)) (ci := 14) (v := .int 4) (ty := .int) (C := RX12) (T := TX12) (N := 23) hx hb hts kc_factor4_0 tyX12 tyX12_ok nmX12 hown hK hP hD hS 0 rfl rfl 8 (by decide) (hts (.fieldLink RX12 89 "MistHeapsModel" "open" "I") kc_factor4_2) (fun _ h9 => h9) rfl (by decide +kernel) rfl rfl (Nat.le_of_ble_eq_true rfl) dX12_factor_108 (fun H locs hP hD hS => ?_)
          have hP : va_P (dC, dI) vwCl [(zo14irriiiiiirriirrrrlriiii m0 th aS aI im (nI a) (nI p_133) (nI E) 1 4 aB aT se dn aG aO aN aD bv aY rn kd nu tv), (zaI aS cS 901 fS9_130)] H := hP
          have hD : va_D A [(zo14irriiiiiirriirrrrlriiii m0 th aS aI im (nI a) (nI p_133) (nI E) 1 4 aB aT se dn aG aO aN aD bv aY rn kd nu tv), (zaI aS cS 901 fS9_130)] := hD
          rw [hQ]
          have hP9 := hP.sub (ws' := [(zo14irriiiiiirriirrrrlriiii m0 th aS aI im (nI a) (nI p_133) (nI E) 1 4 aB aT se dn aG aO aN aD bv aY rn kd nu tv), (zaI aS cS 901 fS9_130)]) [0, 1] rfl
          have hD9 := hD.sub (ws' := [(zo14irriiiiiirriirrrrlriiii m0 th aS aI im (nI a) (nI p_133) (nI E) 1 4 aB aT se dn aG aO aN aD bv aY rn kd nu tv), (zaI aS cS 901 fS9_130)]) [0, 1] (by decide) rfl
          have hK9 := hK.sub (tys' := [(cS, .int)]) [0] rfl
          exact W.vret hx hb hr (fun tQ htQ hWQ => ⟨⟨(fS9_130, (nI p_133), 1), rfl, ⟨p_133, k, rfl, by omega, by omega, (PF.rf).tr hF_138, Or.inl rfl⟩, by rw [htQ]; exact hP9, va_K.moved hWQ.alike hK9, hD9⟩, hS.F htQ⟩) hS.2.2 dX12_factor_111
        · skip
          refine lv_aload_n hx hb dX12_factor_101 rfl (lv_at hl 1 rfl) ?_
          refine lv_dup hx hb dX12_factor_102 rfl ?_
          refine va_get (D := (dC, dI)) (ci := 14) (v := .int 5) (C := RX12) (T := TX12) (N := 23) hx hb hts kc_factor4_0 hown hK hP 0 rfl rfl 8 (by decide) (hts (.fieldLink RX12 89 "MistHeapsModel" "open" "I") kc_factor4_2) (fun _ h9 => h9) rfl dX12_factor_103 ?_
          refine lv_iconst (v := 1) hx hb dX12_factor_106 (by decide) ?_
          refine lv_isub hx hb dX12_factor_107 ?_
          refine qi_as (y := 4) (by decide) ?_
          refine va_put (D := (dC, dI)) (ci := 14) (v := .int 4) (ty := .int) (C := RX12) (T := TX12) (N := 23) hx hb hts kc_factor4_0 tyX12 tyX12_ok nmX12 hown hK hP hD hS 0 rfl rfl 8 (by decide) (hts (.fieldLink RX12 89 "MistHeapsModel" "open" "I") kc_factor4_2) (fun _ h9 => h9) rfl (by decide +kernel) rfl rfl (Nat.le_of_ble_eq_true rfl) dX12_factor_108 (fun H locs hP hD hS => ?_)
          have hP : va_P (dC, dI) vwCl [(zo14irriiiiiirriirrrrlriiii m0 th aS aI im (nI a) (nI (p_133 + 1)) (nI E) 0 4 aB aT se dn aG aO aN aD bv aY rn kd nu tv), (zaI aS cS 901 fS9_130)] H := hP
          have hD : va_D A [(zo14irriiiiiirriirrrrlriiii m0 th aS aI im (nI a) (nI (p_133 + 1)) (nI E) 0 4 aB aT se dn aG aO aN aD bv aY rn kd nu tv), (zaI aS cS 901 fS9_130)] := hD
          rw [hQ]
          have hP9 := hP.sub (ws' := [(zo14irriiiiiirriirrrrlriiii m0 th aS aI im (nI a) (nI (p_133 + 1)) (nI E) 0 4 aB aT se dn aG aO aN aD bv aY rn kd nu tv), (zaI aS cS 901 fS9_130)]) [0, 1] rfl
          have hD9 := hD.sub (ws' := [(zo14irriiiiiirriirrrrlriiii m0 th aS aI im (nI a) (nI (p_133 + 1)) (nI E) 0 4 aB aT se dn aG aO aN aD bv aY rn kd nu tv), (zaI aS cS 901 fS9_130)]) [0, 1] (by decide) rfl
          have hK9 := hK.sub (tys' := [(cS, .int)]) [0] rfl
          exact W.vret hx hb hr (fun tQ htQ hWQ => ⟨⟨(fS9_130, (nI (p_133 + 1)), 0), rfl, ⟨p_133 + 1, k_134, rfl, by omega, by omega, (PF.rf).tr hF_138, Or.inr ⟨rfl, by omega, (hI_140).mono (by omega) (by omega), by omega⟩⟩, by rw [htQ]; exact hP9, va_K.moved hWQ.alike hK9, hD9⟩, hS.F htQ⟩) hS.2.2 dX12_factor_111

theorem kc_every4_0 : ∀ w ∈ wsX120, w ∈ wsX12_every := fun w h => List.mem_cons_of_mem _ (gin_wsX120 w h)
theorem kc_every4_1 : (.fieldLink RX12 65 "MistHeapsModel" "isWrong" "Z" : Cond) ∈ wsX12_every := kc_of 1147 rfl rfl rfl
theorem kc_every4_2 : (.fieldLink RX12 59 "MistHeapsModel" "spot" "I" : Cond) ∈ wsX12_every := kc_of 1145 rfl rfl rfl
set_option maxHeartbeats 4000000 in
set_option maxRecDepth 100000 in
theorem c_every4 (l : Launch) (dC : Nat → ClassId) (dI : Nat → Nat → Nat) (sK sV : Nat → Nat) (m0 aS aI aB aT aG aO aN aD aY : Nat) (th im ac sp en wg op se dn rn kd nu tv : Int32) (bv : Int64) (cS : ClassId) (fS : Nat → Int32) (a p0 E k d : Nat) (sz : Nat) (gI : PI fS a k d p0 E) : Met l yX12_every wsX12_every ({ frames := 9, cells := 0, slots := 0, locals := 195 } : Room) (va_Pc [.ref m0] (fun U => U.heap.size = sz ∧ va_P (dC, dI) vwCl [(zo14irriiiiiirriirrrrlriiii m0 th aS aI im (nI a) (nI p0) (nI E) 0 4 aB aT se dn aG aO aN aD bv aY rn kd nu tv), (zaI aS cS 901 fS)] U.heap ∧ va_K (dC, dI) vwCl [(cS, .int)] U ∧ va_D (fun _ => True) [(zo14irriiiiiirriirrrrlriiii m0 th aS aI im (nI a) (nI p0) (nI E) 0 4 aB aT se dn aG aO aN aD bv aY rn kd nu tv), (zaI aS cS 901 fS)] ∧ Gs sK sV (va_A [(zo14irriiiiiirriirrrrlriiii m0 th aS aI im (nI a) (nI p0) (nI E) 0 4 aB aT se dn aG aO aN aD bv aY rn kd nu tv), (zaI aS cS 901 fS)] sz) U)) (va_Qv (fun (u : (Nat → Int32) × (Int32) × (Int32)) => match u with | (fS9, sp9, wg9) => ∃ p9 k9 : Nat, sp9 = nI p9 ∧ p0 ≤ p9 ∧ p9 ≤ E ∧ PF a fS fS9 ∧ (wg9 = 1 ∨ (wg9 = 0 ∧ p0 + 3 ≤ p9 ∧ PI fS9 a k9 (d + 1) p9 E ∧ k9 + p0 ≤ k + p9))) (fun (u : (Nat → Int32) × (Int32) × (Int32)) (t : State) => match u with | (fS9, sp9, wg9) => va_P (dC, dI) vwCl [(zo14irriiiiiirriirrrrlriiii m0 th aS aI im (nI a) sp9 (nI E) wg9 4 aB aT se dn aG aO aN aD bv aY rn kd nu tv), (zaI aS cS 901 fS9)] t.heap ∧ va_K (dC, dI) vwCl [(cS, .int)] t ∧ va_D (va_A [(zo14irriiiiiirriirrrrlriiii m0 th aS aI im (nI a) (nI p0) (nI E) 0 4 aB aT se dn aG aO aN aD bv aY rn kd nu tv), (zaI aS cS 901 fS)] sz) [(zo14irriiiiiirriirrrrlriiii m0 th aS aI im (nI a) sp9 (nI E) wg9 4 aB aT se dn aG aO aN aD bv aY rn kd nu tv), (zaI aS cS 901 fS9)]) (va_A [(zo14irriiiiiirriirrrrlriiii m0 th aS aI im (nI a) (nI p0) (nI E) 0 4 aB aT se dn aG aO aN aD bv aY rn kd nu tv), (zaI aS cS 901 fS)] sz)) 0 0 (va_A [(zo14irriiiiiirriirrrrlriiii m0 th aS aI im (nI a) (nI p0) (nI E) 0 4 aB aT se dn aG aO aN aD bv aY rn kd nu tv), (zaI aS cS 901 fS)] sz) := by
  refine met_ofQ (cc := cX12_every) (maxL := 1) (ret := none) (by decide) rfl ?_
  intro p e s m args below meth c s₁ Q B hml hv hQ
  obtain ⟨rfl, hsz, hP, hK, hD0, hE⟩ := hv
  have hx := B.exec
  have hb := B.bytes
  have hr := B.returns
  have hts := atoms_spec (ws := wsX12_every) B.pre
  have hown : s.vm.findClass RX12 = some m.cls := findClass_of_methodNamed B.named
  have hlocks := B.notSynchronized
  subst hsz
  have hD := hD0.self (sz := s.heap.size)
  generalize hAe : va_A [(zo14irriiiiiirriirrrrlriiii m0 th aS aI im (nI a) (nI p0) (nI E) 0 4 aB aT se dn aG aO aN aD bv aY rn kd nu tv), (zaI aS cS 901 fS)] s.heap.size = A at hD hQ hE ⊢
  have hA : ∀ q : Nat, s.heap.size ≤ q → A q := fun q h => by rw [← hAe]; exact Or.inr h
  have hS : va_S A s.heap s.heap [] := va_S.rf
  have hl := lv_entry [.ref m0] (n := 1) (Nat.le_of_ble_eq_true rfl)
  rw [lg_entry_eq]
  generalize (lg_sl [.ref m0] ++ List.replicate (1 - (lg_sl [.ref m0]).length) Slot.unset).toArray = ls at hl ⊢
  generalize hag : ([.ref m0] : List Value).toArray = args at hts hQ ⊢
  have hl : lv_has ls 1 [(0, .ref m0)] := hl
  obtain ⟨H, hH⟩ : ∃ H : Heap, H = s.heap := ⟨_, rfl⟩
  rw [← hH] at hP
  rw [← hH]
  have hS : va_S A s.heap H [] := by rw [hH]; exact hS
  obtain ⟨locs, hlo⟩ : ∃ L : List Loc, L = [] := ⟨_, rfl⟩
  rw [← hlo] at hS
  rw [← hlo]
  clear hH hlo
  obtain ⟨ga, gp, gE, zk, gkp, gd, gs⟩ := id gI
  refine lv_aload_n hx hb dX12_every_0 rfl (lv_at hl 0 rfl) ?_
  have hPc := hP.sub (ws' := [(zo14irriiiiiirriirrrrlriiii m0 th aS aI im (nI a) (nI p0) (nI E) 0 4 aB aT se dn aG aO aN aD bv aY rn kd nu tv), (zaI aS cS 901 fS)]) [0, 1] rfl
  have hDc := hD.sub (ws' := [(zo14irriiiiiirriirrrrlriiii m0 th aS aI im (nI a) (nI p0) (nI E) 0 4 aB aT se dn aG aO aN aD bv aY rn kd nu tv), (zaI aS cS 901 fS)]) [0, 1] (by decide) rfl
  have hKc := hK.sub (tys' := [(cS, .int)]) [0] rfl
  have hFc := va_free (wc := [(zo14irriiiiiirriirrrrlriiii m0 th aS aI im (nI a) (nI p0) (nI E) 0 4 aB aT se dn aG aO aN aD bv aY rn kd nu tv), (zaI aS cS 901 fS)]) hD hS hA [0, 1] rfl
  refine va_callv (va_runV (As := []) (rest := []) ⟨hx, hb, hml, hown, hts⟩ (c_factor4 l dC dI sK sV m0 aS aI aB aT aG aO aN aD aY th im (nI a) (nI p0) (nI E) 0 4 se dn rn kd nu tv bv cS fS a p0 E k d H.size ((gI).mono (by omega) (by omega))) (cwV 0 hts gX12_every_X12_factor rfl rfl rfl hd_yX12_factor ⟨Nat.le_of_ble_eq_true rfl, Nat.le_of_ble_eq_true rfl⟩) ⟨fun a U g mk q => by obtain ⟨q0, q1, qP, qK, qD, qhE⟩ := q; exact ⟨q0, q1, qP, va_K.moved (u := U) (U := U.calling g mk a) (Vm.Alike.refl U.vm) qK, qD, qhE.same rfl rfl⟩, va_recv hK hP (ci := 14) (q := (RX12, TX12, 23)) (q0 := 0) rfl rfl, fun U hU hW => ⟨rfl, by rw [hU], by rw [hU]; exact hPc, va_K.moved hW.alike hKc, hDc.weaken (fun _ _ _ _ => trivial), hE.call hS hU hW (fun q h => hFc q h)⟩⟩ rfl rfl hl.1 rfl (lv_room (Nat.le_of_ble_eq_true rfl)) dX12_every_1 ⟨Nat.le_of_ble_eq_true rfl, Nat.le_of_ble_eq_true rfl⟩) hS (fun q _ h => hFc q h) hFc (fun u tC H1 locs htC hvm hw_2 hB hz1 hk1 hS => ?_)
  obtain ⟨fS9_3, sp9_4, wg9_5⟩ := u
  try dsimp only at hw_2 hB
  obtain ⟨hP1, hK1, hD1⟩ := hB
  rw [htC] at hP1
  have hK1 := va_K.moved hvm.symm hK1
  obtain ⟨hP, hD⟩ := va_join (wr := []) (w1 := [(zo14irriiiiiirriirrrrlriiii m0 th aS aI im (nI a) sp9_4 (nI E) wg9_5 4 aB aT se dn aG aO aN aD bv aY rn kd nu tv), (zaI aS cS 901 fS9_3)]) hP hD [0, 1] [] rfl rfl (by decide) (by decide) hk1 hFc hP1 hD1
  have hK := (hK.sub (tys' := []) [] rfl).app hK1
  generalize H1 = H at hP hS ⊢
  have hP : va_P (dC, dI) vwCl [(zo14irriiiiiirriirrrrlriiii m0 th aS aI im (nI a) sp9_4 (nI E) wg9_5 4 aB aT se dn aG aO aN aD bv aY rn kd nu tv), (zaI aS cS 901 fS9_3)] H := hP
  have hD : va_D A [(zo14irriiiiiirriirrrrlriiii m0 th aS aI im (nI a) sp9_4 (nI E) wg9_5 4 aB aT se dn aG aO aN aD bv aY rn kd nu tv), (zaI aS cS 901 fS9_3)] := hD
  have hK : va_K (dC, dI) vwCl [(cS, .int)] s := hK
  obtain ⟨p_6, k_7, rfl, h_9, h_10, hF_11, q9⟩ := hw_2
  rcases q9 with rfl | ⟨rfl, h_12, hI_13, h_14⟩
  · skip
    have L4 : ∀ (nF : Nat) (p1 : Nat) (k1 : Nat) (w1 : Int32) (f1 : Nat → Int32), E - p1 < nF → (p0 ≤ p1 ∧ p1 ≤ E) → (PF a fS f1) → (w1 = 1 ∨ (w1 = 0 ∧ p0 + 3 ≤ p1 ∧ PI f1 a k1 (d + 1) p1 E ∧ k1 + p0 ≤ k + p1)) → ∀ (H : Heap) (locs : List Loc), va_K (dC, dI) vwCl [(cS, .int)] s → va_P (dC, dI) vwCl [(zo14irriiiiiirriirrrrlriiii m0 th aS aI im (nI a) (nI p1) (nI E) w1 4 aB aT se dn aG aO aN aD bv aY rn kd nu tv), (zaI aS cS 901 f1)] H → va_D A [(zo14irriiiiiirriirrrrlriiii m0 th aS aI im (nI a) (nI p1) (nI E) w1 4 aB aT se dn aG aO aN aD bv aY rn kd nu tv), (zaI aS cS 901 f1)] → va_S A s.heap H locs → ∀ (ls : Array Slot), lv_has ls 1 [(0, .ref m0)] → W p l e ({ frames := 9, cells := 0, slots := 0, locals := 195 } : Room) s m args below meth c H locs 0 0 Q (F0 m 4 ls []) := by
      intro nF
      induction nF with
      | zero => intro p1 k1 w1 f1 hm; exact absurd hm (Nat.not_lt_zero _)
      | succ nF ih4 =>
        intro p1 k1 w1 f1 hm h1 hF hw1 H locs hK hP hD hS ls hl
        obtain ⟨h1a, h1b⟩ := h1
        rcases hw1 with rfl | ⟨rfl, h3, hI, h4⟩
        · skip
          refine lv_aload_n hx hb dX12_every_4 rfl (lv_at hl 0 rfl) ?_
          refine va_get (D := (dC, dI)) (ci := 14) (v := .int 1) (C := RX12) (T := TX12) (N := 23) hx hb hts kc_every4_0 hown hK hP 0 rfl rfl 7 (by decide) (hts (.fieldLink RX12 65 "MistHeapsModel" "isWrong" "Z") kc_every4_1) (fun _ h9 => h9) rfl dX12_every_5 ?_
          refine lv_if_ne (tgt := 43) hx hb dX12_every_8 (by decide) (fun _ => ?_) (fun c_15 => absurd c_15 (by decide))
          rw [hQ]
          have hP9 := hP.sub (ws' := [(zo14irriiiiiirriirrrrlriiii m0 th aS aI im (nI a) (nI p1) (nI E) 1 4 aB aT se dn aG aO aN aD bv aY rn kd nu tv), (zaI aS cS 901 f1)]) [0, 1] rfl
          have hD9 := hD.sub (ws' := [(zo14irriiiiiirriirrrrlriiii m0 th aS aI im (nI a) (nI p1) (nI E) 1 4 aB aT se dn aG aO aN aD bv aY rn kd nu tv), (zaI aS cS 901 f1)]) [0, 1] (by decide) rfl
          have hK9 := hK.sub (tys' := [(cS, .int)]) [0] rfl
          exact W.vret hx hb hr (fun tQ htQ hWQ => ⟨⟨(f1, (nI p1), 1), rfl, ⟨p1, k, rfl, by omega, by omega, hF, Or.inl rfl⟩, by rw [htQ]; exact hP9, va_K.moved hWQ.alike hK9, hD9⟩, hS.F htQ⟩) hS.2.2 dX12_every_43
        · skip
          have k5 := hI.2.2.2.2.1
          refine lv_aload_n hx hb dX12_every_4 rfl (lv_at hl 0 rfl) ?_
          refine va_get (D := (dC, dI)) (ci := 14) (v := .int 0) (C := RX12) (T := TX12) (N := 23) hx hb hts kc_every4_0 hown hK hP 0 rfl rfl 7 (by decide) (hts (.fieldLink RX12 65 "MistHeapsModel" "isWrong" "Z") kc_every4_1) (fun _ h9 => h9) rfl dX12_every_5 ?_
          refine lv_if_ne (tgt := 43) hx hb dX12_every_8 (by decide) (fun c_16 => absurd c_16 (by decide)) (fun _ => ?_)
          refine lv_aload_n hx hb dX12_every_11 rfl (lv_at hl 0 rfl) ?_
          have hPc := hP.sub (ws' := [(zo14irriiiiiirriirrrrlriiii m0 th aS aI im (nI a) (nI p1) (nI E) 0 4 aB aT se dn aG aO aN aD bv aY rn kd nu tv), (zaI aS cS 901 f1)]) [0, 1] rfl
          have hKc := hK.sub (tys' := [(cS, .int)]) [0] rfl
          refine vp_callSi (va_runV (As := []) (rest := []) ⟨hx, hb, hml, hown, hts⟩ (c_here l dC dI m0 aS aI aB aT aG aO aN aD aY th im (nI a) (nI p1) (nI E) 0 4 se dn rn kd nu tv bv cS f1 a p1 E (by omega) (by omega) (by omega)) (cwV 0 hts gX12_every_X12_here rfl rfl rfl hd_yX12_here ⟨Nat.le_of_ble_eq_true rfl, Nat.le_of_ble_eq_true rfl⟩) ⟨fun a U g mk q => by obtain ⟨q0, qP, qK⟩ := q; exact ⟨q0, qP, va_K.moved (u := U) (U := U.calling g mk a) (Vm.Alike.refl U.vm) qK⟩, va_recv hK hP (ci := 14) (q := (RX12, TX12, 23)) (q0 := 0) rfl rfl, fun U hU hW => ⟨rfl, by rw [hU]; exact hPc, va_K.moved hW.alike hKc⟩⟩ rfl rfl hl.1 rfl (lv_room (Nat.le_of_ble_eq_true rfl)) dX12_every_12 ⟨Nat.le_of_ble_eq_true rfl, Nat.le_of_ble_eq_true rfl⟩).run (fun r_17 hw_18 => ?_)
          refine lv_bipush (v := 38) hx hb dX12_every_15 (by decide) ?_
          refine lv_icmp_ne (tgt := 43) hx hb dX12_every_17 (by decide) (fun c_19 => ?_) (fun c_19 => ?_)
          · skip
            rw [hQ]
            have hP9 := hP.sub (ws' := [(zo14irriiiiiirriirrrrlriiii m0 th aS aI im (nI a) (nI p1) (nI E) 0 4 aB aT se dn aG aO aN aD bv aY rn kd nu tv), (zaI aS cS 901 f1)]) [0, 1] rfl
            have hD9 := hD.sub (ws' := [(zo14irriiiiiirriirrrrlriiii m0 th aS aI im (nI a) (nI p1) (nI E) 0 4 aB aT se dn aG aO aN aD bv aY rn kd nu tv), (zaI aS cS 901 f1)]) [0, 1] (by decide) rfl
            have hK9 := hK.sub (tys' := [(cS, .int)]) [0] rfl
            exact W.vret hx hb hr (fun tQ htQ hWQ => ⟨⟨(f1, (nI p1), 0), rfl, ⟨p1, k1, rfl, by omega, by omega, hF, Or.inr ⟨rfl, by omega, hI, by omega⟩⟩, by rw [htQ]; exact hP9, va_K.moved hWQ.alike hK9, hD9⟩, hS.F htQ⟩) hS.2.2 dX12_every_43
          · skip
            have hlt : p1 < E := hv_lt (f := f1) (by rw [← hw_18, c_19]; decide)
            refine lv_aload_n hx hb dX12_every_20 rfl (lv_at hl 0 rfl) ?_
            refine lv_dup hx hb dX12_every_21 rfl ?_
            refine va_get (D := (dC, dI)) (ci := 14) (v := .int (nI p1)) (C := RX12) (T := TX12) (N := 23) hx hb hts kc_every4_0 hown hK hP 0 rfl rfl 5 (by decide) (hts (.fieldLink RX12 59 "MistHeapsModel" "spot" "I") kc_every4_2) (fun _ h9 => h9) rfl dX12_every_22 ?_
            refine lv_iconst (v := 1) hx hb dX12_every_25 (by decide) ?_
            refine lv_iadd hx hb dX12_every_26 ?_
            refine qi_as (y := nI (p1 + 1)) (nI_add p1 1) ?_
            refine va_put (D := (dC, dI)) (ci := 14) (v := .int (nI (p1 + 1))) (ty := .int) (C := RX12) (T := TX12) (N := 23) hx hb hts kc_every4_0 tyX12 tyX12_ok nmX12 hown hK hP hD hS 0 rfl rfl 5 (by decide) (hts (.fieldLink RX12 59 "MistHeapsModel" "spot" "I") kc_every4_2) (fun _ h9 => h9) rfl (by decide +kernel) rfl rfl (Nat.le_of_ble_eq_true rfl) dX12_every_27 (fun H locs hP hD hS => ?_)
            have hP : va_P (dC, dI) vwCl [(zo14irriiiiiirriirrrrlriiii m0 th aS aI im (nI a) (nI (p1 + 1)) (nI E) 0 4 aB aT se dn aG aO aN aD bv aY rn kd nu tv), (zaI aS cS 901 f1)] H := hP
            have hD : va_D A [(zo14irriiiiiirriirrrrlriiii m0 th aS aI im (nI a) (nI (p1 + 1)) (nI E) 0 4 aB aT se dn aG aO aN aD bv aY rn kd nu tv), (zaI aS cS 901 f1)] := hD
            refine lv_aload_n hx hb dX12_every_30 rfl (lv_at hl 0 rfl) ?_
            have hPc := hP.sub (ws' := [(zo14irriiiiiirriirrrrlriiii m0 th aS aI im (nI a) (nI (p1 + 1)) (nI E) 0 4 aB aT se dn aG aO aN aD bv aY rn kd nu tv), (zaI aS cS 901 f1)]) [0, 1] rfl
            have hDc := hD.sub (ws' := [(zo14irriiiiiirriirrrrlriiii m0 th aS aI im (nI a) (nI (p1 + 1)) (nI E) 0 4 aB aT se dn aG aO aN aD bv aY rn kd nu tv), (zaI aS cS 901 f1)]) [0, 1] (by decide) rfl
            have hKc := hK.sub (tys' := [(cS, .int)]) [0] rfl
            have hFc := va_free (wc := [(zo14irriiiiiirriirrrrlriiii m0 th aS aI im (nI a) (nI (p1 + 1)) (nI E) 0 4 aB aT se dn aG aO aN aD bv aY rn kd nu tv), (zaI aS cS 901 f1)]) hD hS hA [0, 1] rfl
            refine va_callv (va_runV (As := []) (rest := []) ⟨hx, hb, hml, hown, hts⟩ (c_factor4 l dC dI sK sV m0 aS aI aB aT aG aO aN aD aY th im (nI a) (nI (p1 + 1)) (nI E) 0 4 se dn rn kd nu tv bv cS f1 a (p1 + 1) E k1 (d + 1) H.size ((hI).mono (by omega) (by omega))) (cwV 0 hts gX12_every_X12_factor rfl rfl rfl hd_yX12_factor ⟨Nat.le_of_ble_eq_true rfl, Nat.le_of_ble_eq_true rfl⟩) ⟨fun a U g mk q => by obtain ⟨q0, q1, qP, qK, qD, qhE⟩ := q; exact ⟨q0, q1, qP, va_K.moved (u := U) (U := U.calling g mk a) (Vm.Alike.refl U.vm) qK, qD, qhE.same rfl rfl⟩, va_recv hK hP (ci := 14) (q := (RX12, TX12, 23)) (q0 := 0) rfl rfl, fun U hU hW => ⟨rfl, by rw [hU], by rw [hU]; exact hPc, va_K.moved hW.alike hKc, hDc.weaken (fun _ _ _ _ => trivial), hE.call hS hU hW (fun q h => hFc q h)⟩⟩ rfl rfl hl.1 rfl (lv_room (Nat.le_of_ble_eq_true rfl)) dX12_every_31 ⟨Nat.le_of_ble_eq_true rfl, Nat.le_of_ble_eq_true rfl⟩) hS (fun q _ h => hFc q h) hFc (fun u tC H1 locs htC hvm hw_21 hB hz1 hk1 hS => ?_)
            obtain ⟨fS9_22, sp9_23, wg9_24⟩ := u
            try dsimp only at hw_21 hB
            obtain ⟨hP1, hK1, hD1⟩ := hB
            rw [htC] at hP1
            have hK1 := va_K.moved hvm.symm hK1
            obtain ⟨hP, hD⟩ := va_join (wr := []) (w1 := [(zo14irriiiiiirriirrrrlriiii m0 th aS aI im (nI a) sp9_23 (nI E) wg9_24 4 aB aT se dn aG aO aN aD bv aY rn kd nu tv), (zaI aS cS 901 fS9_22)]) hP hD [0, 1] [] rfl rfl (by decide) (by decide) hk1 hFc hP1 hD1
            have hK := (hK.sub (tys' := []) [] rfl).app hK1
            generalize H1 = H at hP hS ⊢
            have hP : va_P (dC, dI) vwCl [(zo14irriiiiiirriirrrrlriiii m0 th aS aI im (nI a) sp9_23 (nI E) wg9_24 4 aB aT se dn aG aO aN aD bv aY rn kd nu tv), (zaI aS cS 901 fS9_22)] H := hP
            have hD : va_D A [(zo14irriiiiiirriirrrrlriiii m0 th aS aI im (nI a) sp9_23 (nI E) wg9_24 4 aB aT se dn aG aO aN aD bv aY rn kd nu tv), (zaI aS cS 901 fS9_22)] := hD
            have hK : va_K (dC, dI) vwCl [(cS, .int)] s := hK
            obtain ⟨p_25, k_26, rfl, h_28, h_29, hF_30, q9⟩ := hw_21
            rcases q9 with rfl | ⟨rfl, h_31, hI_32, h_33⟩
            · skip
              refine lv_aload_n hx hb dX12_every_34 rfl (lv_at hl 0 rfl) ?_
              refine lv_bipush (v := (-2)) hx hb dX12_every_35 (by decide) ?_
              have hPc := hP.sub (ws' := [(zo14irriiiiiirriirrrrlriiii m0 th aS aI im (nI a) (nI p_25) (nI E) 1 4 aB aT se dn aG aO aN aD bv aY rn kd nu tv)]) [0] rfl
              have hKc := hK.sub (tys' := []) [] rfl
              refine va_csv (va_runV (As := [.int (-2)]) (rest := []) ⟨hx, hb, hml, hown, hts⟩ (c_emitsW l dC dI m0 aS aI aB aT aG aO aN aD aY th im (nI a) (nI p_25) (nI E) 1 4 se dn rn kd nu tv bv (-2)) (cwV 1 hts gX12_every_X12_emits rfl rfl rfl hd_yX12_emits ⟨Nat.le_of_ble_eq_true rfl, Nat.le_of_ble_eq_true rfl⟩) ⟨fun a U g mk q => by obtain ⟨q0, qP, qK⟩ := q; exact ⟨q0, qP, va_K.moved (u := U) (U := U.calling g mk a) (Vm.Alike.refl U.vm) qK⟩, va_recv hK hP (ci := 14) (q := (RX12, TX12, 23)) (q0 := 0) rfl rfl, fun U hU hW => ⟨rfl, by rw [hU]; exact hPc, va_K.moved hW.alike hKc⟩⟩ rfl rfl hl.1 rfl (lv_room (Nat.le_of_ble_eq_true rfl)) dX12_every_37 ⟨Nat.le_of_ble_eq_true rfl, Nat.le_of_ble_eq_true rfl⟩).run (fun hw_35 => ?_)
              refine lv_goto (tgt := 4) hx hb dX12_every_40 (by decide) ?_
              exact ih4 (p_25) (k) (1) (fS9_22) (by omega) (by omega) ((hF).tr hF_30) (Or.inl rfl) _ _ (hK.sub [0] rfl) (hP.sub [0, 1] rfl) (hD.sub [0, 1] (by decide) rfl) hS ls (lv_sub hl [0] rfl)
            · skip
              have k5 := hI_32.2.2.2.2.1
              refine lv_aload_n hx hb dX12_every_34 rfl (lv_at hl 0 rfl) ?_
              refine lv_bipush (v := (-2)) hx hb dX12_every_35 (by decide) ?_
              have hPc := hP.sub (ws' := [(zo14irriiiiiirriirrrrlriiii m0 th aS aI im (nI a) (nI p_25) (nI E) 0 4 aB aT se dn aG aO aN aD bv aY rn kd nu tv), (zaI aS cS 901 fS9_22)]) [0, 1] rfl
              have hDc := hD.sub (ws' := [(zo14irriiiiiirriirrrrlriiii m0 th aS aI im (nI a) (nI p_25) (nI E) 0 4 aB aT se dn aG aO aN aD bv aY rn kd nu tv), (zaI aS cS 901 fS9_22)]) [0, 1] (by decide) rfl
              have hKc := hK.sub (tys' := [(cS, .int)]) [0] rfl
              have hFc := va_free (wc := [(zo14irriiiiiirriirrrrlriiii m0 th aS aI im (nI a) (nI p_25) (nI E) 0 4 aB aT se dn aG aO aN aD bv aY rn kd nu tv), (zaI aS cS 901 fS9_22)]) hD hS hA [0, 1] rfl
              refine va_callv (va_runV (As := [.int (-2)]) (rest := []) ⟨hx, hb, hml, hown, hts⟩ (c_emits l dC dI m0 aS aI aB aT aG aO aN aD aY th im (nI a) (nI p_25) (nI E) 0 4 se dn rn kd nu tv bv cS fS9_22 a k_26 (-2) H.size (ga) ((hI_32).2.2.2.1) (by have := (hI_32).2.2.2.2.1; omega)) (cwV 1 hts gX12_every_X12_emits rfl rfl rfl hd_yX12_emits ⟨Nat.le_of_ble_eq_true rfl, Nat.le_of_ble_eq_true rfl⟩) ⟨fun a U g mk q => by obtain ⟨q0, q1, qP, qK, qD⟩ := q; exact ⟨q0, q1, qP, va_K.moved (u := U) (U := U.calling g mk a) (Vm.Alike.refl U.vm) qK, qD⟩, va_recv hK hP (ci := 14) (q := (RX12, TX12, 23)) (q0 := 0) rfl rfl, fun U hU hW => ⟨rfl, by rw [hU], by rw [hU]; exact hPc, va_K.moved hW.alike hKc, hDc.weaken (fun _ _ _ _ => trivial)⟩⟩ rfl rfl hl.1 rfl (lv_room (Nat.le_of_ble_eq_true rfl)) dX12_every_37 ⟨Nat.le_of_ble_eq_true rfl, Nat.le_of_ble_eq_true rfl⟩) hS (fun q _ h => hFc q h) hFc (fun u tC H1 locs htC hvm hw_37 hB hz1 hk1 hS => ?_)
              obtain ⟨fS9_38, rfl⟩ : ∃ z, z = u := ⟨_, rfl⟩
              try dsimp only at hw_37 hB
              obtain ⟨hP1, hK1, hD1⟩ := hB
              rw [htC] at hP1
              have hK1 := va_K.moved hvm.symm hK1
              obtain ⟨hP, hD⟩ := va_join (wr := []) (w1 := [(zo14irriiiiiirriirrrrlriiii m0 th aS aI im (nI a) (nI p_25) (nI E) 0 4 aB aT se dn aG aO aN aD bv aY rn kd nu tv), (zaI aS cS 901 fS9_38)]) hP hD [0, 1] [] rfl rfl (by decide) (by decide) hk1 hFc hP1 hD1
              have hK := (hK.sub (tys' := []) [] rfl).app hK1
              generalize H1 = H at hP hS ⊢
              have hP : va_P (dC, dI) vwCl [(zo14irriiiiiirriirrrrlriiii m0 th aS aI im (nI a) (nI p_25) (nI E) 0 4 aB aT se dn aG aO aN aD bv aY rn kd nu tv), (zaI aS cS 901 fS9_38)] H := hP
              have hD : va_D A [(zo14irriiiiiirriirrrrlriiii m0 th aS aI im (nI a) (nI p_25) (nI E) 0 4 aB aT se dn aG aO aN aD bv aY rn kd nu tv), (zaI aS cS 901 fS9_38)] := hD
              have hK : va_K (dC, dI) vwCl [(cS, .int)] s := hK
              obtain rfl : fS9_38 = emt fS9_22 a k_26 (-2) := by rcases hw_37 with ⟨q, _⟩ | ⟨_, q⟩; exact absurd rfl q; exact q
              have hI_40 : PI (emt fS9_22 a k_26 (-2)) a (k_26 + 1) (((d + 1) + 1) - 1) p_25 E := ((hI_32).mono (by omega) (by omega)).em (by omega) (by omega) (stepd_both (by omega))
              have hF_41 : PF a fS (emt fS9_22 a k_26 (-2)) := ((hF).tr hF_30).tr (PF_emt (k := k_26) (x := (-2)) ga (by have := (hI_32).2.2.2.2.1; omega))
              refine lv_goto (tgt := 4) hx hb dX12_every_40 (by decide) ?_
              exact ih4 (p_25) ((k_26 + 1)) (0) (emt fS9_22 a k_26 (-2)) (by omega) (by omega) (hF_41) (Or.inr ⟨rfl, by omega, hI_40, by omega⟩) _ _ (hK.sub [0] rfl) (hP.sub [0, 1] rfl) (hD.sub [0, 1] (by decide) rfl) hS ls (lv_sub hl [0] rfl)
    exact L4 _ (p_6) (k) (1) (fS9_3) (Nat.lt_succ_self _) (by omega) ((PF.rf).tr hF_11) (Or.inl rfl) _ _ (hK.sub [0] rfl) (hP.sub [0, 1] rfl) (hD.sub [0, 1] (by decide) rfl) hS ls (lv_sub hl [0] rfl)
  · skip
    have k5 := hI_13.2.2.2.2.1
    have L4 : ∀ (nF : Nat) (p1 : Nat) (k1 : Nat) (w1 : Int32) (f1 : Nat → Int32), E - p1 < nF → (p0 ≤ p1 ∧ p1 ≤ E) → (PF a fS f1) → (w1 = 1 ∨ (w1 = 0 ∧ p0 + 3 ≤ p1 ∧ PI f1 a k1 (d + 1) p1 E ∧ k1 + p0 ≤ k + p1)) → ∀ (H : Heap) (locs : List Loc), va_K (dC, dI) vwCl [(cS, .int)] s → va_P (dC, dI) vwCl [(zo14irriiiiiirriirrrrlriiii m0 th aS aI im (nI a) (nI p1) (nI E) w1 4 aB aT se dn aG aO aN aD bv aY rn kd nu tv), (zaI aS cS 901 f1)] H → va_D A [(zo14irriiiiiirriirrrrlriiii m0 th aS aI im (nI a) (nI p1) (nI E) w1 4 aB aT se dn aG aO aN aD bv aY rn kd nu tv), (zaI aS cS 901 f1)] → va_S A s.heap H locs → ∀ (ls : Array Slot), lv_has ls 1 [(0, .ref m0)] → W p l e ({ frames := 9, cells := 0, slots := 0, locals := 195 } : Room) s m args below meth c H locs 0 0 Q (F0 m 4 ls []) := by
      intro nF
      induction nF with
      | zero => intro p1 k1 w1 f1 hm; exact absurd hm (Nat.not_lt_zero _)
      | succ nF ih4 =>
        intro p1 k1 w1 f1 hm h1 hF hw1 H locs hK hP hD hS ls hl
        obtain ⟨h1a, h1b⟩ := h1
        rcases hw1 with rfl | ⟨rfl, h3, hI, h4⟩
        · skip
          refine lv_aload_n hx hb dX12_every_4 rfl (lv_at hl 0 rfl) ?_
          refine va_get (D := (dC, dI)) (ci := 14) (v := .int 1) (C := RX12) (T := TX12) (N := 23) hx hb hts kc_every4_0 hown hK hP 0 rfl rfl 7 (by decide) (hts (.fieldLink RX12 65 "MistHeapsModel" "isWrong" "Z") kc_every4_1) (fun _ h9 => h9) rfl dX12_every_5 ?_
          refine lv_if_ne (tgt := 43) hx hb dX12_every_8 (by decide) (fun _ => ?_) (fun c_42 => absurd c_42 (by decide))
          rw [hQ]
          have hP9 := hP.sub (ws' := [(zo14irriiiiiirriirrrrlriiii m0 th aS aI im (nI a) (nI p1) (nI E) 1 4 aB aT se dn aG aO aN aD bv aY rn kd nu tv), (zaI aS cS 901 f1)]) [0, 1] rfl
          have hD9 := hD.sub (ws' := [(zo14irriiiiiirriirrrrlriiii m0 th aS aI im (nI a) (nI p1) (nI E) 1 4 aB aT se dn aG aO aN aD bv aY rn kd nu tv), (zaI aS cS 901 f1)]) [0, 1] (by decide) rfl
          have hK9 := hK.sub (tys' := [(cS, .int)]) [0] rfl
          exact W.vret hx hb hr (fun tQ htQ hWQ => ⟨⟨(f1, (nI p1), 1), rfl, ⟨p1, k, rfl, by omega, by omega, hF, Or.inl rfl⟩, by rw [htQ]; exact hP9, va_K.moved hWQ.alike hK9, hD9⟩, hS.F htQ⟩) hS.2.2 dX12_every_43
        · skip
          have k5 := hI.2.2.2.2.1
          refine lv_aload_n hx hb dX12_every_4 rfl (lv_at hl 0 rfl) ?_
          refine va_get (D := (dC, dI)) (ci := 14) (v := .int 0) (C := RX12) (T := TX12) (N := 23) hx hb hts kc_every4_0 hown hK hP 0 rfl rfl 7 (by decide) (hts (.fieldLink RX12 65 "MistHeapsModel" "isWrong" "Z") kc_every4_1) (fun _ h9 => h9) rfl dX12_every_5 ?_
          refine lv_if_ne (tgt := 43) hx hb dX12_every_8 (by decide) (fun c_43 => absurd c_43 (by decide)) (fun _ => ?_)
          refine lv_aload_n hx hb dX12_every_11 rfl (lv_at hl 0 rfl) ?_
          have hPc := hP.sub (ws' := [(zo14irriiiiiirriirrrrlriiii m0 th aS aI im (nI a) (nI p1) (nI E) 0 4 aB aT se dn aG aO aN aD bv aY rn kd nu tv), (zaI aS cS 901 f1)]) [0, 1] rfl
          have hKc := hK.sub (tys' := [(cS, .int)]) [0] rfl
          refine vp_callSi (va_runV (As := []) (rest := []) ⟨hx, hb, hml, hown, hts⟩ (c_here l dC dI m0 aS aI aB aT aG aO aN aD aY th im (nI a) (nI p1) (nI E) 0 4 se dn rn kd nu tv bv cS f1 a p1 E (by omega) (by omega) (by omega)) (cwV 0 hts gX12_every_X12_here rfl rfl rfl hd_yX12_here ⟨Nat.le_of_ble_eq_true rfl, Nat.le_of_ble_eq_true rfl⟩) ⟨fun a U g mk q => by obtain ⟨q0, qP, qK⟩ := q; exact ⟨q0, qP, va_K.moved (u := U) (U := U.calling g mk a) (Vm.Alike.refl U.vm) qK⟩, va_recv hK hP (ci := 14) (q := (RX12, TX12, 23)) (q0 := 0) rfl rfl, fun U hU hW => ⟨rfl, by rw [hU]; exact hPc, va_K.moved hW.alike hKc⟩⟩ rfl rfl hl.1 rfl (lv_room (Nat.le_of_ble_eq_true rfl)) dX12_every_12 ⟨Nat.le_of_ble_eq_true rfl, Nat.le_of_ble_eq_true rfl⟩).run (fun r_44 hw_45 => ?_)
          refine lv_bipush (v := 38) hx hb dX12_every_15 (by decide) ?_
          refine lv_icmp_ne (tgt := 43) hx hb dX12_every_17 (by decide) (fun c_46 => ?_) (fun c_46 => ?_)
          · skip
            rw [hQ]
            have hP9 := hP.sub (ws' := [(zo14irriiiiiirriirrrrlriiii m0 th aS aI im (nI a) (nI p1) (nI E) 0 4 aB aT se dn aG aO aN aD bv aY rn kd nu tv), (zaI aS cS 901 f1)]) [0, 1] rfl
            have hD9 := hD.sub (ws' := [(zo14irriiiiiirriirrrrlriiii m0 th aS aI im (nI a) (nI p1) (nI E) 0 4 aB aT se dn aG aO aN aD bv aY rn kd nu tv), (zaI aS cS 901 f1)]) [0, 1] (by decide) rfl
            have hK9 := hK.sub (tys' := [(cS, .int)]) [0] rfl
            exact W.vret hx hb hr (fun tQ htQ hWQ => ⟨⟨(f1, (nI p1), 0), rfl, ⟨p1, k1, rfl, by omega, by omega, hF, Or.inr ⟨rfl, by omega, hI, by omega⟩⟩, by rw [htQ]; exact hP9, va_K.moved hWQ.alike hK9, hD9⟩, hS.F htQ⟩) hS.2.2 dX12_every_43
          · skip
            have hlt : p1 < E := hv_lt (f := f1) (by rw [← hw_45, c_46]; decide)
            refine lv_aload_n hx hb dX12_every_20 rfl (lv_at hl 0 rfl) ?_
            refine lv_dup hx hb dX12_every_21 rfl ?_
            refine va_get (D := (dC, dI)) (ci := 14) (v := .int (nI p1)) (C := RX12) (T := TX12) (N := 23) hx hb hts kc_every4_0 hown hK hP 0 rfl rfl 5 (by decide) (hts (.fieldLink RX12 59 "MistHeapsModel" "spot" "I") kc_every4_2) (fun _ h9 => h9) rfl dX12_every_22 ?_
            refine lv_iconst (v := 1) hx hb dX12_every_25 (by decide) ?_
            refine lv_iadd hx hb dX12_every_26 ?_
            refine qi_as (y := nI (p1 + 1)) (nI_add p1 1) ?_
            refine va_put (D := (dC, dI)) (ci := 14) (v := .int (nI (p1 + 1))) (ty := .int) (C := RX12) (T := TX12) (N := 23) hx hb hts kc_every4_0 tyX12 tyX12_ok nmX12 hown hK hP hD hS 0 rfl rfl 5 (by decide) (hts (.fieldLink RX12 59 "MistHeapsModel" "spot" "I") kc_every4_2) (fun _ h9 => h9) rfl (by decide +kernel) rfl rfl (Nat.le_of_ble_eq_true rfl) dX12_every_27 (fun H locs hP hD hS => ?_)
            have hP : va_P (dC, dI) vwCl [(zo14irriiiiiirriirrrrlriiii m0 th aS aI im (nI a) (nI (p1 + 1)) (nI E) 0 4 aB aT se dn aG aO aN aD bv aY rn kd nu tv), (zaI aS cS 901 f1)] H := hP
            have hD : va_D A [(zo14irriiiiiirriirrrrlriiii m0 th aS aI im (nI a) (nI (p1 + 1)) (nI E) 0 4 aB aT se dn aG aO aN aD bv aY rn kd nu tv), (zaI aS cS 901 f1)] := hD
            refine lv_aload_n hx hb dX12_every_30 rfl (lv_at hl 0 rfl) ?_
            have hPc := hP.sub (ws' := [(zo14irriiiiiirriirrrrlriiii m0 th aS aI im (nI a) (nI (p1 + 1)) (nI E) 0 4 aB aT se dn aG aO aN aD bv aY rn kd nu tv), (zaI aS cS 901 f1)]) [0, 1] rfl
            have hDc := hD.sub (ws' := [(zo14irriiiiiirriirrrrlriiii m0 th aS aI im (nI a) (nI (p1 + 1)) (nI E) 0 4 aB aT se dn aG aO aN aD bv aY rn kd nu tv), (zaI aS cS 901 f1)]) [0, 1] (by decide) rfl
            have hKc := hK.sub (tys' := [(cS, .int)]) [0] rfl
            have hFc := va_free (wc := [(zo14irriiiiiirriirrrrlriiii m0 th aS aI im (nI a) (nI (p1 + 1)) (nI E) 0 4 aB aT se dn aG aO aN aD bv aY rn kd nu tv), (zaI aS cS 901 f1)]) hD hS hA [0, 1] rfl
            refine va_callv (va_runV (As := []) (rest := []) ⟨hx, hb, hml, hown, hts⟩ (c_factor4 l dC dI sK sV m0 aS aI aB aT aG aO aN aD aY th im (nI a) (nI (p1 + 1)) (nI E) 0 4 se dn rn kd nu tv bv cS f1 a (p1 + 1) E k1 (d + 1) H.size ((hI).mono (by omega) (by omega))) (cwV 0 hts gX12_every_X12_factor rfl rfl rfl hd_yX12_factor ⟨Nat.le_of_ble_eq_true rfl, Nat.le_of_ble_eq_true rfl⟩) ⟨fun a U g mk q => by obtain ⟨q0, q1, qP, qK, qD, qhE⟩ := q; exact ⟨q0, q1, qP, va_K.moved (u := U) (U := U.calling g mk a) (Vm.Alike.refl U.vm) qK, qD, qhE.same rfl rfl⟩, va_recv hK hP (ci := 14) (q := (RX12, TX12, 23)) (q0 := 0) rfl rfl, fun U hU hW => ⟨rfl, by rw [hU], by rw [hU]; exact hPc, va_K.moved hW.alike hKc, hDc.weaken (fun _ _ _ _ => trivial), hE.call hS hU hW (fun q h => hFc q h)⟩⟩ rfl rfl hl.1 rfl (lv_room (Nat.le_of_ble_eq_true rfl)) dX12_every_31 ⟨Nat.le_of_ble_eq_true rfl, Nat.le_of_ble_eq_true rfl⟩) hS (fun q _ h => hFc q h) hFc (fun u tC H1 locs htC hvm hw_48 hB hz1 hk1 hS => ?_)
            obtain ⟨fS9_49, sp9_50, wg9_51⟩ := u
            try dsimp only at hw_48 hB
            obtain ⟨hP1, hK1, hD1⟩ := hB
            rw [htC] at hP1
            have hK1 := va_K.moved hvm.symm hK1
            obtain ⟨hP, hD⟩ := va_join (wr := []) (w1 := [(zo14irriiiiiirriirrrrlriiii m0 th aS aI im (nI a) sp9_50 (nI E) wg9_51 4 aB aT se dn aG aO aN aD bv aY rn kd nu tv), (zaI aS cS 901 fS9_49)]) hP hD [0, 1] [] rfl rfl (by decide) (by decide) hk1 hFc hP1 hD1
            have hK := (hK.sub (tys' := []) [] rfl).app hK1
            generalize H1 = H at hP hS ⊢
            have hP : va_P (dC, dI) vwCl [(zo14irriiiiiirriirrrrlriiii m0 th aS aI im (nI a) sp9_50 (nI E) wg9_51 4 aB aT se dn aG aO aN aD bv aY rn kd nu tv), (zaI aS cS 901 fS9_49)] H := hP
            have hD : va_D A [(zo14irriiiiiirriirrrrlriiii m0 th aS aI im (nI a) sp9_50 (nI E) wg9_51 4 aB aT se dn aG aO aN aD bv aY rn kd nu tv), (zaI aS cS 901 fS9_49)] := hD
            have hK : va_K (dC, dI) vwCl [(cS, .int)] s := hK
            obtain ⟨p_52, k_53, rfl, h_55, h_56, hF_57, q9⟩ := hw_48
            rcases q9 with rfl | ⟨rfl, h_58, hI_59, h_60⟩
            · skip
              refine lv_aload_n hx hb dX12_every_34 rfl (lv_at hl 0 rfl) ?_
              refine lv_bipush (v := (-2)) hx hb dX12_every_35 (by decide) ?_
              have hPc := hP.sub (ws' := [(zo14irriiiiiirriirrrrlriiii m0 th aS aI im (nI a) (nI p_52) (nI E) 1 4 aB aT se dn aG aO aN aD bv aY rn kd nu tv)]) [0] rfl
              have hKc := hK.sub (tys' := []) [] rfl
              refine va_csv (va_runV (As := [.int (-2)]) (rest := []) ⟨hx, hb, hml, hown, hts⟩ (c_emitsW l dC dI m0 aS aI aB aT aG aO aN aD aY th im (nI a) (nI p_52) (nI E) 1 4 se dn rn kd nu tv bv (-2)) (cwV 1 hts gX12_every_X12_emits rfl rfl rfl hd_yX12_emits ⟨Nat.le_of_ble_eq_true rfl, Nat.le_of_ble_eq_true rfl⟩) ⟨fun a U g mk q => by obtain ⟨q0, qP, qK⟩ := q; exact ⟨q0, qP, va_K.moved (u := U) (U := U.calling g mk a) (Vm.Alike.refl U.vm) qK⟩, va_recv hK hP (ci := 14) (q := (RX12, TX12, 23)) (q0 := 0) rfl rfl, fun U hU hW => ⟨rfl, by rw [hU]; exact hPc, va_K.moved hW.alike hKc⟩⟩ rfl rfl hl.1 rfl (lv_room (Nat.le_of_ble_eq_true rfl)) dX12_every_37 ⟨Nat.le_of_ble_eq_true rfl, Nat.le_of_ble_eq_true rfl⟩).run (fun hw_62 => ?_)
              refine lv_goto (tgt := 4) hx hb dX12_every_40 (by decide) ?_
              exact ih4 (p_52) (k) (1) (fS9_49) (by omega) (by omega) ((hF).tr hF_57) (Or.inl rfl) _ _ (hK.sub [0] rfl) (hP.sub [0, 1] rfl) (hD.sub [0, 1] (by decide) rfl) hS ls (lv_sub hl [0] rfl)
            · skip
              have k5 := hI_59.2.2.2.2.1
              refine lv_aload_n hx hb dX12_every_34 rfl (lv_at hl 0 rfl) ?_
              refine lv_bipush (v := (-2)) hx hb dX12_every_35 (by decide) ?_
              have hPc := hP.sub (ws' := [(zo14irriiiiiirriirrrrlriiii m0 th aS aI im (nI a) (nI p_52) (nI E) 0 4 aB aT se dn aG aO aN aD bv aY rn kd nu tv), (zaI aS cS 901 fS9_49)]) [0, 1] rfl
              have hDc := hD.sub (ws' := [(zo14irriiiiiirriirrrrlriiii m0 th aS aI im (nI a) (nI p_52) (nI E) 0 4 aB aT se dn aG aO aN aD bv aY rn kd nu tv), (zaI aS cS 901 fS9_49)]) [0, 1] (by decide) rfl
              have hKc := hK.sub (tys' := [(cS, .int)]) [0] rfl
              have hFc := va_free (wc := [(zo14irriiiiiirriirrrrlriiii m0 th aS aI im (nI a) (nI p_52) (nI E) 0 4 aB aT se dn aG aO aN aD bv aY rn kd nu tv), (zaI aS cS 901 fS9_49)]) hD hS hA [0, 1] rfl
              refine va_callv (va_runV (As := [.int (-2)]) (rest := []) ⟨hx, hb, hml, hown, hts⟩ (c_emits l dC dI m0 aS aI aB aT aG aO aN aD aY th im (nI a) (nI p_52) (nI E) 0 4 se dn rn kd nu tv bv cS fS9_49 a k_53 (-2) H.size (ga) ((hI_59).2.2.2.1) (by have := (hI_59).2.2.2.2.1; omega)) (cwV 1 hts gX12_every_X12_emits rfl rfl rfl hd_yX12_emits ⟨Nat.le_of_ble_eq_true rfl, Nat.le_of_ble_eq_true rfl⟩) ⟨fun a U g mk q => by obtain ⟨q0, q1, qP, qK, qD⟩ := q; exact ⟨q0, q1, qP, va_K.moved (u := U) (U := U.calling g mk a) (Vm.Alike.refl U.vm) qK, qD⟩, va_recv hK hP (ci := 14) (q := (RX12, TX12, 23)) (q0 := 0) rfl rfl, fun U hU hW => ⟨rfl, by rw [hU], by rw [hU]; exact hPc, va_K.moved hW.alike hKc, hDc.weaken (fun _ _ _ _ => trivial)⟩⟩ rfl rfl hl.1 rfl (lv_room (Nat.le_of_ble_eq_true rfl)) dX12_every_37 ⟨Nat.le_of_ble_eq_true rfl, Nat.le_of_ble_eq_true rfl⟩) hS (fun q _ h => hFc q h) hFc (fun u tC H1 locs htC hvm hw_64 hB hz1 hk1 hS => ?_)
              obtain ⟨fS9_65, rfl⟩ : ∃ z, z = u := ⟨_, rfl⟩
              try dsimp only at hw_64 hB
              obtain ⟨hP1, hK1, hD1⟩ := hB
              rw [htC] at hP1
              have hK1 := va_K.moved hvm.symm hK1
              obtain ⟨hP, hD⟩ := va_join (wr := []) (w1 := [(zo14irriiiiiirriirrrrlriiii m0 th aS aI im (nI a) (nI p_52) (nI E) 0 4 aB aT se dn aG aO aN aD bv aY rn kd nu tv), (zaI aS cS 901 fS9_65)]) hP hD [0, 1] [] rfl rfl (by decide) (by decide) hk1 hFc hP1 hD1
              have hK := (hK.sub (tys' := []) [] rfl).app hK1
              generalize H1 = H at hP hS ⊢
              have hP : va_P (dC, dI) vwCl [(zo14irriiiiiirriirrrrlriiii m0 th aS aI im (nI a) (nI p_52) (nI E) 0 4 aB aT se dn aG aO aN aD bv aY rn kd nu tv), (zaI aS cS 901 fS9_65)] H := hP
              have hD : va_D A [(zo14irriiiiiirriirrrrlriiii m0 th aS aI im (nI a) (nI p_52) (nI E) 0 4 aB aT se dn aG aO aN aD bv aY rn kd nu tv), (zaI aS cS 901 fS9_65)] := hD
              have hK : va_K (dC, dI) vwCl [(cS, .int)] s := hK
              obtain rfl : fS9_65 = emt fS9_49 a k_53 (-2) := by rcases hw_64 with ⟨q, _⟩ | ⟨_, q⟩; exact absurd rfl q; exact q
              have hI_67 : PI (emt fS9_49 a k_53 (-2)) a (k_53 + 1) (((d + 1) + 1) - 1) p_52 E := ((hI_59).mono (by omega) (by omega)).em (by omega) (by omega) (stepd_both (by omega))
              have hF_68 : PF a fS (emt fS9_49 a k_53 (-2)) := ((hF).tr hF_57).tr (PF_emt (k := k_53) (x := (-2)) ga (by have := (hI_59).2.2.2.2.1; omega))
              refine lv_goto (tgt := 4) hx hb dX12_every_40 (by decide) ?_
              exact ih4 (p_52) ((k_53 + 1)) (0) (emt fS9_49 a k_53 (-2)) (by omega) (by omega) (hF_68) (Or.inr ⟨rfl, by omega, hI_67, by omega⟩) _ _ (hK.sub [0] rfl) (hP.sub [0, 1] rfl) (hD.sub [0, 1] (by decide) rfl) hS ls (lv_sub hl [0] rfl)
    exact L4 _ (p_6) (k_7) (0) (fS9_3) (Nat.lt_succ_self _) (by omega) ((PF.rf).tr hF_11) (Or.inr ⟨rfl, by omega, hI_13, by omega⟩) _ _ (hK.sub [0] rfl) (hP.sub [0, 1] rfl) (hD.sub [0, 1] (by decide) rfl) hS ls (lv_sub hl [0] rfl)

theorem kc_some4_0 : ∀ w ∈ wsX120, w ∈ wsX12_some := fun w h => List.mem_cons_of_mem _ (gin_wsX120 w h)
theorem kc_some4_1 : (.fieldLink RX12 65 "MistHeapsModel" "isWrong" "Z" : Cond) ∈ wsX12_some := kc_of 1147 rfl rfl rfl
theorem kc_some4_2 : (.fieldLink RX12 59 "MistHeapsModel" "spot" "I" : Cond) ∈ wsX12_some := kc_of 1145 rfl rfl rfl
set_option maxHeartbeats 4000000 in
set_option maxRecDepth 100000 in
theorem c_some4 (l : Launch) (dC : Nat → ClassId) (dI : Nat → Nat → Nat) (sK sV : Nat → Nat) (m0 aS aI aB aT aG aO aN aD aY : Nat) (th im ac sp en wg op se dn rn kd nu tv : Int32) (bv : Int64) (cS : ClassId) (fS : Nat → Int32) (a p0 E k d : Nat) (sz : Nat) (gI : PI fS a k d p0 E) : Met l yX12_some wsX12_some ({ frames := 10, cells := 0, slots := 0, locals := 215 } : Room) (va_Pc [.ref m0] (fun U => U.heap.size = sz ∧ va_P (dC, dI) vwCl [(zo14irriiiiiirriirrrrlriiii m0 th aS aI im (nI a) (nI p0) (nI E) 0 4 aB aT se dn aG aO aN aD bv aY rn kd nu tv), (zaI aS cS 901 fS)] U.heap ∧ va_K (dC, dI) vwCl [(cS, .int)] U ∧ va_D (fun _ => True) [(zo14irriiiiiirriirrrrlriiii m0 th aS aI im (nI a) (nI p0) (nI E) 0 4 aB aT se dn aG aO aN aD bv aY rn kd nu tv), (zaI aS cS 901 fS)] ∧ Gs sK sV (va_A [(zo14irriiiiiirriirrrrlriiii m0 th aS aI im (nI a) (nI p0) (nI E) 0 4 aB aT se dn aG aO aN aD bv aY rn kd nu tv), (zaI aS cS 901 fS)] sz) U)) (va_Qv (fun (u : (Nat → Int32) × (Int32) × (Int32)) => match u with | (fS9, sp9, wg9) => ∃ p9 k9 : Nat, sp9 = nI p9 ∧ p0 ≤ p9 ∧ p9 ≤ E ∧ PF a fS fS9 ∧ (wg9 = 1 ∨ (wg9 = 0 ∧ p0 + 3 ≤ p9 ∧ PI fS9 a k9 (d + 1) p9 E ∧ k9 + p0 ≤ k + p9))) (fun (u : (Nat → Int32) × (Int32) × (Int32)) (t : State) => match u with | (fS9, sp9, wg9) => va_P (dC, dI) vwCl [(zo14irriiiiiirriirrrrlriiii m0 th aS aI im (nI a) sp9 (nI E) wg9 4 aB aT se dn aG aO aN aD bv aY rn kd nu tv), (zaI aS cS 901 fS9)] t.heap ∧ va_K (dC, dI) vwCl [(cS, .int)] t ∧ va_D (va_A [(zo14irriiiiiirriirrrrlriiii m0 th aS aI im (nI a) (nI p0) (nI E) 0 4 aB aT se dn aG aO aN aD bv aY rn kd nu tv), (zaI aS cS 901 fS)] sz) [(zo14irriiiiiirriirrrrlriiii m0 th aS aI im (nI a) sp9 (nI E) wg9 4 aB aT se dn aG aO aN aD bv aY rn kd nu tv), (zaI aS cS 901 fS9)]) (va_A [(zo14irriiiiiirriirrrrlriiii m0 th aS aI im (nI a) (nI p0) (nI E) 0 4 aB aT se dn aG aO aN aD bv aY rn kd nu tv), (zaI aS cS 901 fS)] sz)) 0 0 (va_A [(zo14irriiiiiirriirrrrlriiii m0 th aS aI im (nI a) (nI p0) (nI E) 0 4 aB aT se dn aG aO aN aD bv aY rn kd nu tv), (zaI aS cS 901 fS)] sz) := by
  refine met_ofQ (cc := cX12_some) (maxL := 1) (ret := none) (by decide) rfl ?_
  intro p e s m args below meth c s₁ Q B hml hv hQ
  obtain ⟨rfl, hsz, hP, hK, hD0, hE⟩ := hv
  have hx := B.exec
  have hb := B.bytes
  have hr := B.returns
  have hts := atoms_spec (ws := wsX12_some) B.pre
  have hown : s.vm.findClass RX12 = some m.cls := findClass_of_methodNamed B.named
  have hlocks := B.notSynchronized
  subst hsz
  have hD := hD0.self (sz := s.heap.size)
  generalize hAe : va_A [(zo14irriiiiiirriirrrrlriiii m0 th aS aI im (nI a) (nI p0) (nI E) 0 4 aB aT se dn aG aO aN aD bv aY rn kd nu tv), (zaI aS cS 901 fS)] s.heap.size = A at hD hQ hE ⊢
  have hA : ∀ q : Nat, s.heap.size ≤ q → A q := fun q h => by rw [← hAe]; exact Or.inr h
  have hS : va_S A s.heap s.heap [] := va_S.rf
  have hl := lv_entry [.ref m0] (n := 1) (Nat.le_of_ble_eq_true rfl)
  rw [lg_entry_eq]
  generalize (lg_sl [.ref m0] ++ List.replicate (1 - (lg_sl [.ref m0]).length) Slot.unset).toArray = ls at hl ⊢
  generalize hag : ([.ref m0] : List Value).toArray = args at hts hQ ⊢
  have hl : lv_has ls 1 [(0, .ref m0)] := hl
  obtain ⟨H, hH⟩ : ∃ H : Heap, H = s.heap := ⟨_, rfl⟩
  rw [← hH] at hP
  rw [← hH]
  have hS : va_S A s.heap H [] := by rw [hH]; exact hS
  obtain ⟨locs, hlo⟩ : ∃ L : List Loc, L = [] := ⟨_, rfl⟩
  rw [← hlo] at hS
  rw [← hlo]
  clear hH hlo
  obtain ⟨ga, gp, gE, zk, gkp, gd, gs⟩ := id gI
  refine lv_aload_n hx hb dX12_some_0 rfl (lv_at hl 0 rfl) ?_
  have hPc := hP.sub (ws' := [(zo14irriiiiiirriirrrrlriiii m0 th aS aI im (nI a) (nI p0) (nI E) 0 4 aB aT se dn aG aO aN aD bv aY rn kd nu tv), (zaI aS cS 901 fS)]) [0, 1] rfl
  have hDc := hD.sub (ws' := [(zo14irriiiiiirriirrrrlriiii m0 th aS aI im (nI a) (nI p0) (nI E) 0 4 aB aT se dn aG aO aN aD bv aY rn kd nu tv), (zaI aS cS 901 fS)]) [0, 1] (by decide) rfl
  have hKc := hK.sub (tys' := [(cS, .int)]) [0] rfl
  have hFc := va_free (wc := [(zo14irriiiiiirriirrrrlriiii m0 th aS aI im (nI a) (nI p0) (nI E) 0 4 aB aT se dn aG aO aN aD bv aY rn kd nu tv), (zaI aS cS 901 fS)]) hD hS hA [0, 1] rfl
  refine va_callv (va_runV (As := []) (rest := []) ⟨hx, hb, hml, hown, hts⟩ (c_every4 l dC dI sK sV m0 aS aI aB aT aG aO aN aD aY th im (nI a) (nI p0) (nI E) 0 4 se dn rn kd nu tv bv cS fS a p0 E k d H.size ((gI).mono (by omega) (by omega))) (cwV 0 hts gX12_some_X12_every rfl rfl rfl hd_yX12_every ⟨Nat.le_of_ble_eq_true rfl, Nat.le_of_ble_eq_true rfl⟩) ⟨fun a U g mk q => by obtain ⟨q0, q1, qP, qK, qD, qhE⟩ := q; exact ⟨q0, q1, qP, va_K.moved (u := U) (U := U.calling g mk a) (Vm.Alike.refl U.vm) qK, qD, qhE.same rfl rfl⟩, va_recv hK hP (ci := 14) (q := (RX12, TX12, 23)) (q0 := 0) rfl rfl, fun U hU hW => ⟨rfl, by rw [hU], by rw [hU]; exact hPc, va_K.moved hW.alike hKc, hDc.weaken (fun _ _ _ _ => trivial), hE.call hS hU hW (fun q h => hFc q h)⟩⟩ rfl rfl hl.1 rfl (lv_room (Nat.le_of_ble_eq_true rfl)) dX12_some_1 ⟨Nat.le_of_ble_eq_true rfl, Nat.le_of_ble_eq_true rfl⟩) hS (fun q _ h => hFc q h) hFc (fun u tC H1 locs htC hvm hw_2 hB hz1 hk1 hS => ?_)
  obtain ⟨fS9_3, sp9_4, wg9_5⟩ := u
  try dsimp only at hw_2 hB
  obtain ⟨hP1, hK1, hD1⟩ := hB
  rw [htC] at hP1
  have hK1 := va_K.moved hvm.symm hK1
  obtain ⟨hP, hD⟩ := va_join (wr := []) (w1 := [(zo14irriiiiiirriirrrrlriiii m0 th aS aI im (nI a) sp9_4 (nI E) wg9_5 4 aB aT se dn aG aO aN aD bv aY rn kd nu tv), (zaI aS cS 901 fS9_3)]) hP hD [0, 1] [] rfl rfl (by decide) (by decide) hk1 hFc hP1 hD1
  have hK := (hK.sub (tys' := []) [] rfl).app hK1
  generalize H1 = H at hP hS ⊢
  have hP : va_P (dC, dI) vwCl [(zo14irriiiiiirriirrrrlriiii m0 th aS aI im (nI a) sp9_4 (nI E) wg9_5 4 aB aT se dn aG aO aN aD bv aY rn kd nu tv), (zaI aS cS 901 fS9_3)] H := hP
  have hD : va_D A [(zo14irriiiiiirriirrrrlriiii m0 th aS aI im (nI a) sp9_4 (nI E) wg9_5 4 aB aT se dn aG aO aN aD bv aY rn kd nu tv), (zaI aS cS 901 fS9_3)] := hD
  have hK : va_K (dC, dI) vwCl [(cS, .int)] s := hK
  obtain ⟨p_6, k_7, rfl, h_9, h_10, hF_11, q9⟩ := hw_2
  rcases q9 with rfl | ⟨rfl, h_12, hI_13, h_14⟩
  · skip
    have L4 : ∀ (nF : Nat) (p1 : Nat) (k1 : Nat) (w1 : Int32) (f1 : Nat → Int32), E - p1 < nF → (p0 ≤ p1 ∧ p1 ≤ E) → (PF a fS f1) → (w1 = 1 ∨ (w1 = 0 ∧ p0 + 3 ≤ p1 ∧ PI f1 a k1 (d + 1) p1 E ∧ k1 + p0 ≤ k + p1)) → ∀ (H : Heap) (locs : List Loc), va_K (dC, dI) vwCl [(cS, .int)] s → va_P (dC, dI) vwCl [(zo14irriiiiiirriirrrrlriiii m0 th aS aI im (nI a) (nI p1) (nI E) w1 4 aB aT se dn aG aO aN aD bv aY rn kd nu tv), (zaI aS cS 901 f1)] H → va_D A [(zo14irriiiiiirriirrrrlriiii m0 th aS aI im (nI a) (nI p1) (nI E) w1 4 aB aT se dn aG aO aN aD bv aY rn kd nu tv), (zaI aS cS 901 f1)] → va_S A s.heap H locs → ∀ (ls : Array Slot), lv_has ls 1 [(0, .ref m0)] → W p l e ({ frames := 10, cells := 0, slots := 0, locals := 215 } : Room) s m args below meth c H locs 0 0 Q (F0 m 4 ls []) := by
      intro nF
      induction nF with
      | zero => intro p1 k1 w1 f1 hm; exact absurd hm (Nat.not_lt_zero _)
      | succ nF ih4 =>
        intro p1 k1 w1 f1 hm h1 hF hw1 H locs hK hP hD hS ls hl
        obtain ⟨h1a, h1b⟩ := h1
        rcases hw1 with rfl | ⟨rfl, h3, hI, h4⟩
        · skip
          refine lv_aload_n hx hb dX12_some_4 rfl (lv_at hl 0 rfl) ?_
          refine va_get (D := (dC, dI)) (ci := 14) (v := .int 1) (C := RX12) (T := TX12) (N := 23) hx hb hts kc_some4_0 hown hK hP 0 rfl rfl 7 (by decide) (hts (.fieldLink RX12 65 "MistHeapsModel" "isWrong" "Z") kc_some4_1) (fun _ h9 => h9) rfl dX12_some_5 ?_
          refine lv_if_ne (tgt := 43) hx hb dX12_some_8 (by decide) (fun _ => ?_) (fun c_15 => absurd c_15 (by decide))
          rw [hQ]
          have hP9 := hP.sub (ws' := [(zo14irriiiiiirriirrrrlriiii m0 th aS aI im (nI a) (nI p1) (nI E) 1 4 aB aT se dn aG aO aN aD bv aY rn kd nu tv), (zaI aS cS 901 f1)]) [0, 1] rfl
          have hD9 := hD.sub (ws' := [(zo14irriiiiiirriirrrrlriiii m0 th aS aI im (nI a) (nI p1) (nI E) 1 4 aB aT se dn aG aO aN aD bv aY rn kd nu tv), (zaI aS cS 901 f1)]) [0, 1] (by decide) rfl
          have hK9 := hK.sub (tys' := [(cS, .int)]) [0] rfl
          exact W.vret hx hb hr (fun tQ htQ hWQ => ⟨⟨(f1, (nI p1), 1), rfl, ⟨p1, k, rfl, by omega, by omega, hF, Or.inl rfl⟩, by rw [htQ]; exact hP9, va_K.moved hWQ.alike hK9, hD9⟩, hS.F htQ⟩) hS.2.2 dX12_some_43
        · skip
          have k5 := hI.2.2.2.2.1
          refine lv_aload_n hx hb dX12_some_4 rfl (lv_at hl 0 rfl) ?_
          refine va_get (D := (dC, dI)) (ci := 14) (v := .int 0) (C := RX12) (T := TX12) (N := 23) hx hb hts kc_some4_0 hown hK hP 0 rfl rfl 7 (by decide) (hts (.fieldLink RX12 65 "MistHeapsModel" "isWrong" "Z") kc_some4_1) (fun _ h9 => h9) rfl dX12_some_5 ?_
          refine lv_if_ne (tgt := 43) hx hb dX12_some_8 (by decide) (fun c_16 => absurd c_16 (by decide)) (fun _ => ?_)
          refine lv_aload_n hx hb dX12_some_11 rfl (lv_at hl 0 rfl) ?_
          have hPc := hP.sub (ws' := [(zo14irriiiiiirriirrrrlriiii m0 th aS aI im (nI a) (nI p1) (nI E) 0 4 aB aT se dn aG aO aN aD bv aY rn kd nu tv), (zaI aS cS 901 f1)]) [0, 1] rfl
          have hKc := hK.sub (tys' := [(cS, .int)]) [0] rfl
          refine vp_callSi (va_runV (As := []) (rest := []) ⟨hx, hb, hml, hown, hts⟩ (c_here l dC dI m0 aS aI aB aT aG aO aN aD aY th im (nI a) (nI p1) (nI E) 0 4 se dn rn kd nu tv bv cS f1 a p1 E (by omega) (by omega) (by omega)) (cwV 0 hts gX12_some_X12_here rfl rfl rfl hd_yX12_here ⟨Nat.le_of_ble_eq_true rfl, Nat.le_of_ble_eq_true rfl⟩) ⟨fun a U g mk q => by obtain ⟨q0, qP, qK⟩ := q; exact ⟨q0, qP, va_K.moved (u := U) (U := U.calling g mk a) (Vm.Alike.refl U.vm) qK⟩, va_recv hK hP (ci := 14) (q := (RX12, TX12, 23)) (q0 := 0) rfl rfl, fun U hU hW => ⟨rfl, by rw [hU]; exact hPc, va_K.moved hW.alike hKc⟩⟩ rfl rfl hl.1 rfl (lv_room (Nat.le_of_ble_eq_true rfl)) dX12_some_12 ⟨Nat.le_of_ble_eq_true rfl, Nat.le_of_ble_eq_true rfl⟩).run (fun r_17 hw_18 => ?_)
          refine lv_bipush (v := 124) hx hb dX12_some_15 (by decide) ?_
          refine lv_icmp_ne (tgt := 43) hx hb dX12_some_17 (by decide) (fun c_19 => ?_) (fun c_19 => ?_)
          · skip
            rw [hQ]
            have hP9 := hP.sub (ws' := [(zo14irriiiiiirriirrrrlriiii m0 th aS aI im (nI a) (nI p1) (nI E) 0 4 aB aT se dn aG aO aN aD bv aY rn kd nu tv), (zaI aS cS 901 f1)]) [0, 1] rfl
            have hD9 := hD.sub (ws' := [(zo14irriiiiiirriirrrrlriiii m0 th aS aI im (nI a) (nI p1) (nI E) 0 4 aB aT se dn aG aO aN aD bv aY rn kd nu tv), (zaI aS cS 901 f1)]) [0, 1] (by decide) rfl
            have hK9 := hK.sub (tys' := [(cS, .int)]) [0] rfl
            exact W.vret hx hb hr (fun tQ htQ hWQ => ⟨⟨(f1, (nI p1), 0), rfl, ⟨p1, k1, rfl, by omega, by omega, hF, Or.inr ⟨rfl, by omega, hI, by omega⟩⟩, by rw [htQ]; exact hP9, va_K.moved hWQ.alike hK9, hD9⟩, hS.F htQ⟩) hS.2.2 dX12_some_43
          · skip
            have hlt : p1 < E := hv_lt (f := f1) (by rw [← hw_18, c_19]; decide)
            refine lv_aload_n hx hb dX12_some_20 rfl (lv_at hl 0 rfl) ?_
            refine lv_dup hx hb dX12_some_21 rfl ?_
            refine va_get (D := (dC, dI)) (ci := 14) (v := .int (nI p1)) (C := RX12) (T := TX12) (N := 23) hx hb hts kc_some4_0 hown hK hP 0 rfl rfl 5 (by decide) (hts (.fieldLink RX12 59 "MistHeapsModel" "spot" "I") kc_some4_2) (fun _ h9 => h9) rfl dX12_some_22 ?_
            refine lv_iconst (v := 1) hx hb dX12_some_25 (by decide) ?_
            refine lv_iadd hx hb dX12_some_26 ?_
            refine qi_as (y := nI (p1 + 1)) (nI_add p1 1) ?_
            refine va_put (D := (dC, dI)) (ci := 14) (v := .int (nI (p1 + 1))) (ty := .int) (C := RX12) (T := TX12) (N := 23) hx hb hts kc_some4_0 tyX12 tyX12_ok nmX12 hown hK hP hD hS 0 rfl rfl 5 (by decide) (hts (.fieldLink RX12 59 "MistHeapsModel" "spot" "I") kc_some4_2) (fun _ h9 => h9) rfl (by decide +kernel) rfl rfl (Nat.le_of_ble_eq_true rfl) dX12_some_27 (fun H locs hP hD hS => ?_)
            have hP : va_P (dC, dI) vwCl [(zo14irriiiiiirriirrrrlriiii m0 th aS aI im (nI a) (nI (p1 + 1)) (nI E) 0 4 aB aT se dn aG aO aN aD bv aY rn kd nu tv), (zaI aS cS 901 f1)] H := hP
            have hD : va_D A [(zo14irriiiiiirriirrrrlriiii m0 th aS aI im (nI a) (nI (p1 + 1)) (nI E) 0 4 aB aT se dn aG aO aN aD bv aY rn kd nu tv), (zaI aS cS 901 f1)] := hD
            refine lv_aload_n hx hb dX12_some_30 rfl (lv_at hl 0 rfl) ?_
            have hPc := hP.sub (ws' := [(zo14irriiiiiirriirrrrlriiii m0 th aS aI im (nI a) (nI (p1 + 1)) (nI E) 0 4 aB aT se dn aG aO aN aD bv aY rn kd nu tv), (zaI aS cS 901 f1)]) [0, 1] rfl
            have hDc := hD.sub (ws' := [(zo14irriiiiiirriirrrrlriiii m0 th aS aI im (nI a) (nI (p1 + 1)) (nI E) 0 4 aB aT se dn aG aO aN aD bv aY rn kd nu tv), (zaI aS cS 901 f1)]) [0, 1] (by decide) rfl
            have hKc := hK.sub (tys' := [(cS, .int)]) [0] rfl
            have hFc := va_free (wc := [(zo14irriiiiiirriirrrrlriiii m0 th aS aI im (nI a) (nI (p1 + 1)) (nI E) 0 4 aB aT se dn aG aO aN aD bv aY rn kd nu tv), (zaI aS cS 901 f1)]) hD hS hA [0, 1] rfl
            refine va_callv (va_runV (As := []) (rest := []) ⟨hx, hb, hml, hown, hts⟩ (c_every4 l dC dI sK sV m0 aS aI aB aT aG aO aN aD aY th im (nI a) (nI (p1 + 1)) (nI E) 0 4 se dn rn kd nu tv bv cS f1 a (p1 + 1) E k1 (d + 1) H.size ((hI).mono (by omega) (by omega))) (cwV 0 hts gX12_some_X12_every rfl rfl rfl hd_yX12_every ⟨Nat.le_of_ble_eq_true rfl, Nat.le_of_ble_eq_true rfl⟩) ⟨fun a U g mk q => by obtain ⟨q0, q1, qP, qK, qD, qhE⟩ := q; exact ⟨q0, q1, qP, va_K.moved (u := U) (U := U.calling g mk a) (Vm.Alike.refl U.vm) qK, qD, qhE.same rfl rfl⟩, va_recv hK hP (ci := 14) (q := (RX12, TX12, 23)) (q0 := 0) rfl rfl, fun U hU hW => ⟨rfl, by rw [hU], by rw [hU]; exact hPc, va_K.moved hW.alike hKc, hDc.weaken (fun _ _ _ _ => trivial), hE.call hS hU hW (fun q h => hFc q h)⟩⟩ rfl rfl hl.1 rfl (lv_room (Nat.le_of_ble_eq_true rfl)) dX12_some_31 ⟨Nat.le_of_ble_eq_true rfl, Nat.le_of_ble_eq_true rfl⟩) hS (fun q _ h => hFc q h) hFc (fun u tC H1 locs htC hvm hw_21 hB hz1 hk1 hS => ?_)
            obtain ⟨fS9_22, sp9_23, wg9_24⟩ := u
            try dsimp only at hw_21 hB
            obtain ⟨hP1, hK1, hD1⟩ := hB
            rw [htC] at hP1
            have hK1 := va_K.moved hvm.symm hK1
            obtain ⟨hP, hD⟩ := va_join (wr := []) (w1 := [(zo14irriiiiiirriirrrrlriiii m0 th aS aI im (nI a) sp9_23 (nI E) wg9_24 4 aB aT se dn aG aO aN aD bv aY rn kd nu tv), (zaI aS cS 901 fS9_22)]) hP hD [0, 1] [] rfl rfl (by decide) (by decide) hk1 hFc hP1 hD1
            have hK := (hK.sub (tys' := []) [] rfl).app hK1
            generalize H1 = H at hP hS ⊢
            have hP : va_P (dC, dI) vwCl [(zo14irriiiiiirriirrrrlriiii m0 th aS aI im (nI a) sp9_23 (nI E) wg9_24 4 aB aT se dn aG aO aN aD bv aY rn kd nu tv), (zaI aS cS 901 fS9_22)] H := hP
            have hD : va_D A [(zo14irriiiiiirriirrrrlriiii m0 th aS aI im (nI a) sp9_23 (nI E) wg9_24 4 aB aT se dn aG aO aN aD bv aY rn kd nu tv), (zaI aS cS 901 fS9_22)] := hD
            have hK : va_K (dC, dI) vwCl [(cS, .int)] s := hK
            obtain ⟨p_25, k_26, rfl, h_28, h_29, hF_30, q9⟩ := hw_21
            rcases q9 with rfl | ⟨rfl, h_31, hI_32, h_33⟩
            · skip
              refine lv_aload_n hx hb dX12_some_34 rfl (lv_at hl 0 rfl) ?_
              refine lv_bipush (v := (-3)) hx hb dX12_some_35 (by decide) ?_
              have hPc := hP.sub (ws' := [(zo14irriiiiiirriirrrrlriiii m0 th aS aI im (nI a) (nI p_25) (nI E) 1 4 aB aT se dn aG aO aN aD bv aY rn kd nu tv)]) [0] rfl
              have hKc := hK.sub (tys' := []) [] rfl
              refine va_csv (va_runV (As := [.int (-3)]) (rest := []) ⟨hx, hb, hml, hown, hts⟩ (c_emitsW l dC dI m0 aS aI aB aT aG aO aN aD aY th im (nI a) (nI p_25) (nI E) 1 4 se dn rn kd nu tv bv (-3)) (cwV 1 hts gX12_some_X12_emits rfl rfl rfl hd_yX12_emits ⟨Nat.le_of_ble_eq_true rfl, Nat.le_of_ble_eq_true rfl⟩) ⟨fun a U g mk q => by obtain ⟨q0, qP, qK⟩ := q; exact ⟨q0, qP, va_K.moved (u := U) (U := U.calling g mk a) (Vm.Alike.refl U.vm) qK⟩, va_recv hK hP (ci := 14) (q := (RX12, TX12, 23)) (q0 := 0) rfl rfl, fun U hU hW => ⟨rfl, by rw [hU]; exact hPc, va_K.moved hW.alike hKc⟩⟩ rfl rfl hl.1 rfl (lv_room (Nat.le_of_ble_eq_true rfl)) dX12_some_37 ⟨Nat.le_of_ble_eq_true rfl, Nat.le_of_ble_eq_true rfl⟩).run (fun hw_35 => ?_)
              refine lv_goto (tgt := 4) hx hb dX12_some_40 (by decide) ?_
              exact ih4 (p_25) (k) (1) (fS9_22) (by omega) (by omega) ((hF).tr hF_30) (Or.inl rfl) _ _ (hK.sub [0] rfl) (hP.sub [0, 1] rfl) (hD.sub [0, 1] (by decide) rfl) hS ls (lv_sub hl [0] rfl)
            · skip
              have k5 := hI_32.2.2.2.2.1
              refine lv_aload_n hx hb dX12_some_34 rfl (lv_at hl 0 rfl) ?_
              refine lv_bipush (v := (-3)) hx hb dX12_some_35 (by decide) ?_
              have hPc := hP.sub (ws' := [(zo14irriiiiiirriirrrrlriiii m0 th aS aI im (nI a) (nI p_25) (nI E) 0 4 aB aT se dn aG aO aN aD bv aY rn kd nu tv), (zaI aS cS 901 fS9_22)]) [0, 1] rfl
              have hDc := hD.sub (ws' := [(zo14irriiiiiirriirrrrlriiii m0 th aS aI im (nI a) (nI p_25) (nI E) 0 4 aB aT se dn aG aO aN aD bv aY rn kd nu tv), (zaI aS cS 901 fS9_22)]) [0, 1] (by decide) rfl
              have hKc := hK.sub (tys' := [(cS, .int)]) [0] rfl
              have hFc := va_free (wc := [(zo14irriiiiiirriirrrrlriiii m0 th aS aI im (nI a) (nI p_25) (nI E) 0 4 aB aT se dn aG aO aN aD bv aY rn kd nu tv), (zaI aS cS 901 fS9_22)]) hD hS hA [0, 1] rfl
              refine va_callv (va_runV (As := [.int (-3)]) (rest := []) ⟨hx, hb, hml, hown, hts⟩ (c_emits l dC dI m0 aS aI aB aT aG aO aN aD aY th im (nI a) (nI p_25) (nI E) 0 4 se dn rn kd nu tv bv cS fS9_22 a k_26 (-3) H.size (ga) ((hI_32).2.2.2.1) (by have := (hI_32).2.2.2.2.1; omega)) (cwV 1 hts gX12_some_X12_emits rfl rfl rfl hd_yX12_emits ⟨Nat.le_of_ble_eq_true rfl, Nat.le_of_ble_eq_true rfl⟩) ⟨fun a U g mk q => by obtain ⟨q0, q1, qP, qK, qD⟩ := q; exact ⟨q0, q1, qP, va_K.moved (u := U) (U := U.calling g mk a) (Vm.Alike.refl U.vm) qK, qD⟩, va_recv hK hP (ci := 14) (q := (RX12, TX12, 23)) (q0 := 0) rfl rfl, fun U hU hW => ⟨rfl, by rw [hU], by rw [hU]; exact hPc, va_K.moved hW.alike hKc, hDc.weaken (fun _ _ _ _ => trivial)⟩⟩ rfl rfl hl.1 rfl (lv_room (Nat.le_of_ble_eq_true rfl)) dX12_some_37 ⟨Nat.le_of_ble_eq_true rfl, Nat.le_of_ble_eq_true rfl⟩) hS (fun q _ h => hFc q h) hFc (fun u tC H1 locs htC hvm hw_37 hB hz1 hk1 hS => ?_)
              obtain ⟨fS9_38, rfl⟩ : ∃ z, z = u := ⟨_, rfl⟩
              try dsimp only at hw_37 hB
              obtain ⟨hP1, hK1, hD1⟩ := hB
              rw [htC] at hP1
              have hK1 := va_K.moved hvm.symm hK1
              obtain ⟨hP, hD⟩ := va_join (wr := []) (w1 := [(zo14irriiiiiirriirrrrlriiii m0 th aS aI im (nI a) (nI p_25) (nI E) 0 4 aB aT se dn aG aO aN aD bv aY rn kd nu tv), (zaI aS cS 901 fS9_38)]) hP hD [0, 1] [] rfl rfl (by decide) (by decide) hk1 hFc hP1 hD1
              have hK := (hK.sub (tys' := []) [] rfl).app hK1
              generalize H1 = H at hP hS ⊢
              have hP : va_P (dC, dI) vwCl [(zo14irriiiiiirriirrrrlriiii m0 th aS aI im (nI a) (nI p_25) (nI E) 0 4 aB aT se dn aG aO aN aD bv aY rn kd nu tv), (zaI aS cS 901 fS9_38)] H := hP
              have hD : va_D A [(zo14irriiiiiirriirrrrlriiii m0 th aS aI im (nI a) (nI p_25) (nI E) 0 4 aB aT se dn aG aO aN aD bv aY rn kd nu tv), (zaI aS cS 901 fS9_38)] := hD
              have hK : va_K (dC, dI) vwCl [(cS, .int)] s := hK
              obtain rfl : fS9_38 = emt fS9_22 a k_26 (-3) := by rcases hw_37 with ⟨q, _⟩ | ⟨_, q⟩; exact absurd rfl q; exact q
              have hI_40 : PI (emt fS9_22 a k_26 (-3)) a (k_26 + 1) (((d + 1) + 1) - 1) p_25 E := ((hI_32).mono (by omega) (by omega)).em (by omega) (by omega) (stepd_either (by omega))
              have hF_41 : PF a fS (emt fS9_22 a k_26 (-3)) := ((hF).tr hF_30).tr (PF_emt (k := k_26) (x := (-3)) ga (by have := (hI_32).2.2.2.2.1; omega))
              refine lv_goto (tgt := 4) hx hb dX12_some_40 (by decide) ?_
              exact ih4 (p_25) ((k_26 + 1)) (0) (emt fS9_22 a k_26 (-3)) (by omega) (by omega) (hF_41) (Or.inr ⟨rfl, by omega, hI_40, by omega⟩) _ _ (hK.sub [0] rfl) (hP.sub [0, 1] rfl) (hD.sub [0, 1] (by decide) rfl) hS ls (lv_sub hl [0] rfl)
    exact L4 _ (p_6) (k) (1) (fS9_3) (Nat.lt_succ_self _) (by omega) ((PF.rf).tr hF_11) (Or.inl rfl) _ _ (hK.sub [0] rfl) (hP.sub [0, 1] rfl) (hD.sub [0, 1] (by decide) rfl) hS ls (lv_sub hl [0] rfl)
  · skip
    have k5 := hI_13.2.2.2.2.1
    have L4 : ∀ (nF : Nat) (p1 : Nat) (k1 : Nat) (w1 : Int32) (f1 : Nat → Int32), E - p1 < nF → (p0 ≤ p1 ∧ p1 ≤ E) → (PF a fS f1) → (w1 = 1 ∨ (w1 = 0 ∧ p0 + 3 ≤ p1 ∧ PI f1 a k1 (d + 1) p1 E ∧ k1 + p0 ≤ k + p1)) → ∀ (H : Heap) (locs : List Loc), va_K (dC, dI) vwCl [(cS, .int)] s → va_P (dC, dI) vwCl [(zo14irriiiiiirriirrrrlriiii m0 th aS aI im (nI a) (nI p1) (nI E) w1 4 aB aT se dn aG aO aN aD bv aY rn kd nu tv), (zaI aS cS 901 f1)] H → va_D A [(zo14irriiiiiirriirrrrlriiii m0 th aS aI im (nI a) (nI p1) (nI E) w1 4 aB aT se dn aG aO aN aD bv aY rn kd nu tv), (zaI aS cS 901 f1)] → va_S A s.heap H locs → ∀ (ls : Array Slot), lv_has ls 1 [(0, .ref m0)] → W p l e ({ frames := 10, cells := 0, slots := 0, locals := 215 } : Room) s m args below meth c H locs 0 0 Q (F0 m 4 ls []) := by
      intro nF
      induction nF with
      | zero => intro p1 k1 w1 f1 hm; exact absurd hm (Nat.not_lt_zero _)
      | succ nF ih4 =>
        intro p1 k1 w1 f1 hm h1 hF hw1 H locs hK hP hD hS ls hl
        obtain ⟨h1a, h1b⟩ := h1
        rcases hw1 with rfl | ⟨rfl, h3, hI, h4⟩
        · skip
          refine lv_aload_n hx hb dX12_some_4 rfl (lv_at hl 0 rfl) ?_
          refine va_get (D := (dC, dI)) (ci := 14) (v := .int 1) (C := RX12) (T := TX12) (N := 23) hx hb hts kc_some4_0 hown hK hP 0 rfl rfl 7 (by decide) (hts (.fieldLink RX12 65 "MistHeapsModel" "isWrong" "Z") kc_some4_1) (fun _ h9 => h9) rfl dX12_some_5 ?_
          refine lv_if_ne (tgt := 43) hx hb dX12_some_8 (by decide) (fun _ => ?_) (fun c_42 => absurd c_42 (by decide))
          rw [hQ]
          have hP9 := hP.sub (ws' := [(zo14irriiiiiirriirrrrlriiii m0 th aS aI im (nI a) (nI p1) (nI E) 1 4 aB aT se dn aG aO aN aD bv aY rn kd nu tv), (zaI aS cS 901 f1)]) [0, 1] rfl
          have hD9 := hD.sub (ws' := [(zo14irriiiiiirriirrrrlriiii m0 th aS aI im (nI a) (nI p1) (nI E) 1 4 aB aT se dn aG aO aN aD bv aY rn kd nu tv), (zaI aS cS 901 f1)]) [0, 1] (by decide) rfl
          have hK9 := hK.sub (tys' := [(cS, .int)]) [0] rfl
          exact W.vret hx hb hr (fun tQ htQ hWQ => ⟨⟨(f1, (nI p1), 1), rfl, ⟨p1, k, rfl, by omega, by omega, hF, Or.inl rfl⟩, by rw [htQ]; exact hP9, va_K.moved hWQ.alike hK9, hD9⟩, hS.F htQ⟩) hS.2.2 dX12_some_43
        · skip
          have k5 := hI.2.2.2.2.1
          refine lv_aload_n hx hb dX12_some_4 rfl (lv_at hl 0 rfl) ?_
          refine va_get (D := (dC, dI)) (ci := 14) (v := .int 0) (C := RX12) (T := TX12) (N := 23) hx hb hts kc_some4_0 hown hK hP 0 rfl rfl 7 (by decide) (hts (.fieldLink RX12 65 "MistHeapsModel" "isWrong" "Z") kc_some4_1) (fun _ h9 => h9) rfl dX12_some_5 ?_
          refine lv_if_ne (tgt := 43) hx hb dX12_some_8 (by decide) (fun c_43 => absurd c_43 (by decide)) (fun _ => ?_)
          refine lv_aload_n hx hb dX12_some_11 rfl (lv_at hl 0 rfl) ?_
          have hPc := hP.sub (ws' := [(zo14irriiiiiirriirrrrlriiii m0 th aS aI im (nI a) (nI p1) (nI E) 0 4 aB aT se dn aG aO aN aD bv aY rn kd nu tv), (zaI aS cS 901 f1)]) [0, 1] rfl
          have hKc := hK.sub (tys' := [(cS, .int)]) [0] rfl
          refine vp_callSi (va_runV (As := []) (rest := []) ⟨hx, hb, hml, hown, hts⟩ (c_here l dC dI m0 aS aI aB aT aG aO aN aD aY th im (nI a) (nI p1) (nI E) 0 4 se dn rn kd nu tv bv cS f1 a p1 E (by omega) (by omega) (by omega)) (cwV 0 hts gX12_some_X12_here rfl rfl rfl hd_yX12_here ⟨Nat.le_of_ble_eq_true rfl, Nat.le_of_ble_eq_true rfl⟩) ⟨fun a U g mk q => by obtain ⟨q0, qP, qK⟩ := q; exact ⟨q0, qP, va_K.moved (u := U) (U := U.calling g mk a) (Vm.Alike.refl U.vm) qK⟩, va_recv hK hP (ci := 14) (q := (RX12, TX12, 23)) (q0 := 0) rfl rfl, fun U hU hW => ⟨rfl, by rw [hU]; exact hPc, va_K.moved hW.alike hKc⟩⟩ rfl rfl hl.1 rfl (lv_room (Nat.le_of_ble_eq_true rfl)) dX12_some_12 ⟨Nat.le_of_ble_eq_true rfl, Nat.le_of_ble_eq_true rfl⟩).run (fun r_44 hw_45 => ?_)
          refine lv_bipush (v := 124) hx hb dX12_some_15 (by decide) ?_
          refine lv_icmp_ne (tgt := 43) hx hb dX12_some_17 (by decide) (fun c_46 => ?_) (fun c_46 => ?_)
          · skip
            rw [hQ]
            have hP9 := hP.sub (ws' := [(zo14irriiiiiirriirrrrlriiii m0 th aS aI im (nI a) (nI p1) (nI E) 0 4 aB aT se dn aG aO aN aD bv aY rn kd nu tv), (zaI aS cS 901 f1)]) [0, 1] rfl
            have hD9 := hD.sub (ws' := [(zo14irriiiiiirriirrrrlriiii m0 th aS aI im (nI a) (nI p1) (nI E) 0 4 aB aT se dn aG aO aN aD bv aY rn kd nu tv), (zaI aS cS 901 f1)]) [0, 1] (by decide) rfl
            have hK9 := hK.sub (tys' := [(cS, .int)]) [0] rfl
            exact W.vret hx hb hr (fun tQ htQ hWQ => ⟨⟨(f1, (nI p1), 0), rfl, ⟨p1, k1, rfl, by omega, by omega, hF, Or.inr ⟨rfl, by omega, hI, by omega⟩⟩, by rw [htQ]; exact hP9, va_K.moved hWQ.alike hK9, hD9⟩, hS.F htQ⟩) hS.2.2 dX12_some_43
          · skip
            have hlt : p1 < E := hv_lt (f := f1) (by rw [← hw_45, c_46]; decide)
            refine lv_aload_n hx hb dX12_some_20 rfl (lv_at hl 0 rfl) ?_
            refine lv_dup hx hb dX12_some_21 rfl ?_
            refine va_get (D := (dC, dI)) (ci := 14) (v := .int (nI p1)) (C := RX12) (T := TX12) (N := 23) hx hb hts kc_some4_0 hown hK hP 0 rfl rfl 5 (by decide) (hts (.fieldLink RX12 59 "MistHeapsModel" "spot" "I") kc_some4_2) (fun _ h9 => h9) rfl dX12_some_22 ?_
            refine lv_iconst (v := 1) hx hb dX12_some_25 (by decide) ?_
            refine lv_iadd hx hb dX12_some_26 ?_
            refine qi_as (y := nI (p1 + 1)) (nI_add p1 1) ?_
            refine va_put (D := (dC, dI)) (ci := 14) (v := .int (nI (p1 + 1))) (ty := .int) (C := RX12) (T := TX12) (N := 23) hx hb hts kc_some4_0 tyX12 tyX12_ok nmX12 hown hK hP hD hS 0 rfl rfl 5 (by decide) (hts (.fieldLink RX12 59 "MistHeapsModel" "spot" "I") kc_some4_2) (fun _ h9 => h9) rfl (by decide +kernel) rfl rfl (Nat.le_of_ble_eq_true rfl) dX12_some_27 (fun H locs hP hD hS => ?_)
            have hP : va_P (dC, dI) vwCl [(zo14irriiiiiirriirrrrlriiii m0 th aS aI im (nI a) (nI (p1 + 1)) (nI E) 0 4 aB aT se dn aG aO aN aD bv aY rn kd nu tv), (zaI aS cS 901 f1)] H := hP
            have hD : va_D A [(zo14irriiiiiirriirrrrlriiii m0 th aS aI im (nI a) (nI (p1 + 1)) (nI E) 0 4 aB aT se dn aG aO aN aD bv aY rn kd nu tv), (zaI aS cS 901 f1)] := hD
            refine lv_aload_n hx hb dX12_some_30 rfl (lv_at hl 0 rfl) ?_
            have hPc := hP.sub (ws' := [(zo14irriiiiiirriirrrrlriiii m0 th aS aI im (nI a) (nI (p1 + 1)) (nI E) 0 4 aB aT se dn aG aO aN aD bv aY rn kd nu tv), (zaI aS cS 901 f1)]) [0, 1] rfl
            have hDc := hD.sub (ws' := [(zo14irriiiiiirriirrrrlriiii m0 th aS aI im (nI a) (nI (p1 + 1)) (nI E) 0 4 aB aT se dn aG aO aN aD bv aY rn kd nu tv), (zaI aS cS 901 f1)]) [0, 1] (by decide) rfl
            have hKc := hK.sub (tys' := [(cS, .int)]) [0] rfl
            have hFc := va_free (wc := [(zo14irriiiiiirriirrrrlriiii m0 th aS aI im (nI a) (nI (p1 + 1)) (nI E) 0 4 aB aT se dn aG aO aN aD bv aY rn kd nu tv), (zaI aS cS 901 f1)]) hD hS hA [0, 1] rfl
            refine va_callv (va_runV (As := []) (rest := []) ⟨hx, hb, hml, hown, hts⟩ (c_every4 l dC dI sK sV m0 aS aI aB aT aG aO aN aD aY th im (nI a) (nI (p1 + 1)) (nI E) 0 4 se dn rn kd nu tv bv cS f1 a (p1 + 1) E k1 (d + 1) H.size ((hI).mono (by omega) (by omega))) (cwV 0 hts gX12_some_X12_every rfl rfl rfl hd_yX12_every ⟨Nat.le_of_ble_eq_true rfl, Nat.le_of_ble_eq_true rfl⟩) ⟨fun a U g mk q => by obtain ⟨q0, q1, qP, qK, qD, qhE⟩ := q; exact ⟨q0, q1, qP, va_K.moved (u := U) (U := U.calling g mk a) (Vm.Alike.refl U.vm) qK, qD, qhE.same rfl rfl⟩, va_recv hK hP (ci := 14) (q := (RX12, TX12, 23)) (q0 := 0) rfl rfl, fun U hU hW => ⟨rfl, by rw [hU], by rw [hU]; exact hPc, va_K.moved hW.alike hKc, hDc.weaken (fun _ _ _ _ => trivial), hE.call hS hU hW (fun q h => hFc q h)⟩⟩ rfl rfl hl.1 rfl (lv_room (Nat.le_of_ble_eq_true rfl)) dX12_some_31 ⟨Nat.le_of_ble_eq_true rfl, Nat.le_of_ble_eq_true rfl⟩) hS (fun q _ h => hFc q h) hFc (fun u tC H1 locs htC hvm hw_48 hB hz1 hk1 hS => ?_)
            obtain ⟨fS9_49, sp9_50, wg9_51⟩ := u
            try dsimp only at hw_48 hB
            obtain ⟨hP1, hK1, hD1⟩ := hB
            rw [htC] at hP1
            have hK1 := va_K.moved hvm.symm hK1
            obtain ⟨hP, hD⟩ := va_join (wr := []) (w1 := [(zo14irriiiiiirriirrrrlriiii m0 th aS aI im (nI a) sp9_50 (nI E) wg9_51 4 aB aT se dn aG aO aN aD bv aY rn kd nu tv), (zaI aS cS 901 fS9_49)]) hP hD [0, 1] [] rfl rfl (by decide) (by decide) hk1 hFc hP1 hD1
            have hK := (hK.sub (tys' := []) [] rfl).app hK1
            generalize H1 = H at hP hS ⊢
            have hP : va_P (dC, dI) vwCl [(zo14irriiiiiirriirrrrlriiii m0 th aS aI im (nI a) sp9_50 (nI E) wg9_51 4 aB aT se dn aG aO aN aD bv aY rn kd nu tv), (zaI aS cS 901 fS9_49)] H := hP
            have hD : va_D A [(zo14irriiiiiirriirrrrlriiii m0 th aS aI im (nI a) sp9_50 (nI E) wg9_51 4 aB aT se dn aG aO aN aD bv aY rn kd nu tv), (zaI aS cS 901 fS9_49)] := hD
            have hK : va_K (dC, dI) vwCl [(cS, .int)] s := hK
            obtain ⟨p_52, k_53, rfl, h_55, h_56, hF_57, q9⟩ := hw_48
            rcases q9 with rfl | ⟨rfl, h_58, hI_59, h_60⟩
            · skip
              refine lv_aload_n hx hb dX12_some_34 rfl (lv_at hl 0 rfl) ?_
              refine lv_bipush (v := (-3)) hx hb dX12_some_35 (by decide) ?_
              have hPc := hP.sub (ws' := [(zo14irriiiiiirriirrrrlriiii m0 th aS aI im (nI a) (nI p_52) (nI E) 1 4 aB aT se dn aG aO aN aD bv aY rn kd nu tv)]) [0] rfl
              have hKc := hK.sub (tys' := []) [] rfl
              refine va_csv (va_runV (As := [.int (-3)]) (rest := []) ⟨hx, hb, hml, hown, hts⟩ (c_emitsW l dC dI m0 aS aI aB aT aG aO aN aD aY th im (nI a) (nI p_52) (nI E) 1 4 se dn rn kd nu tv bv (-3)) (cwV 1 hts gX12_some_X12_emits rfl rfl rfl hd_yX12_emits ⟨Nat.le_of_ble_eq_true rfl, Nat.le_of_ble_eq_true rfl⟩) ⟨fun a U g mk q => by obtain ⟨q0, qP, qK⟩ := q; exact ⟨q0, qP, va_K.moved (u := U) (U := U.calling g mk a) (Vm.Alike.refl U.vm) qK⟩, va_recv hK hP (ci := 14) (q := (RX12, TX12, 23)) (q0 := 0) rfl rfl, fun U hU hW => ⟨rfl, by rw [hU]; exact hPc, va_K.moved hW.alike hKc⟩⟩ rfl rfl hl.1 rfl (lv_room (Nat.le_of_ble_eq_true rfl)) dX12_some_37 ⟨Nat.le_of_ble_eq_true rfl, Nat.le_of_ble_eq_true rfl⟩).run (fun hw_62 => ?_)
              refine lv_goto (tgt := 4) hx hb dX12_some_40 (by decide) ?_
              exact ih4 (p_52) (k) (1) (fS9_49) (by omega) (by omega) ((hF).tr hF_57) (Or.inl rfl) _ _ (hK.sub [0] rfl) (hP.sub [0, 1] rfl) (hD.sub [0, 1] (by decide) rfl) hS ls (lv_sub hl [0] rfl)
            · skip
              have k5 := hI_59.2.2.2.2.1
              refine lv_aload_n hx hb dX12_some_34 rfl (lv_at hl 0 rfl) ?_
              refine lv_bipush (v := (-3)) hx hb dX12_some_35 (by decide) ?_
              have hPc := hP.sub (ws' := [(zo14irriiiiiirriirrrrlriiii m0 th aS aI im (nI a) (nI p_52) (nI E) 0 4 aB aT se dn aG aO aN aD bv aY rn kd nu tv), (zaI aS cS 901 fS9_49)]) [0, 1] rfl
              have hDc := hD.sub (ws' := [(zo14irriiiiiirriirrrrlriiii m0 th aS aI im (nI a) (nI p_52) (nI E) 0 4 aB aT se dn aG aO aN aD bv aY rn kd nu tv), (zaI aS cS 901 fS9_49)]) [0, 1] (by decide) rfl
              have hKc := hK.sub (tys' := [(cS, .int)]) [0] rfl
              have hFc := va_free (wc := [(zo14irriiiiiirriirrrrlriiii m0 th aS aI im (nI a) (nI p_52) (nI E) 0 4 aB aT se dn aG aO aN aD bv aY rn kd nu tv), (zaI aS cS 901 fS9_49)]) hD hS hA [0, 1] rfl
              refine va_callv (va_runV (As := [.int (-3)]) (rest := []) ⟨hx, hb, hml, hown, hts⟩ (c_emits l dC dI m0 aS aI aB aT aG aO aN aD aY th im (nI a) (nI p_52) (nI E) 0 4 se dn rn kd nu tv bv cS fS9_49 a k_53 (-3) H.size (ga) ((hI_59).2.2.2.1) (by have := (hI_59).2.2.2.2.1; omega)) (cwV 1 hts gX12_some_X12_emits rfl rfl rfl hd_yX12_emits ⟨Nat.le_of_ble_eq_true rfl, Nat.le_of_ble_eq_true rfl⟩) ⟨fun a U g mk q => by obtain ⟨q0, q1, qP, qK, qD⟩ := q; exact ⟨q0, q1, qP, va_K.moved (u := U) (U := U.calling g mk a) (Vm.Alike.refl U.vm) qK, qD⟩, va_recv hK hP (ci := 14) (q := (RX12, TX12, 23)) (q0 := 0) rfl rfl, fun U hU hW => ⟨rfl, by rw [hU], by rw [hU]; exact hPc, va_K.moved hW.alike hKc, hDc.weaken (fun _ _ _ _ => trivial)⟩⟩ rfl rfl hl.1 rfl (lv_room (Nat.le_of_ble_eq_true rfl)) dX12_some_37 ⟨Nat.le_of_ble_eq_true rfl, Nat.le_of_ble_eq_true rfl⟩) hS (fun q _ h => hFc q h) hFc (fun u tC H1 locs htC hvm hw_64 hB hz1 hk1 hS => ?_)
              obtain ⟨fS9_65, rfl⟩ : ∃ z, z = u := ⟨_, rfl⟩
              try dsimp only at hw_64 hB
              obtain ⟨hP1, hK1, hD1⟩ := hB
              rw [htC] at hP1
              have hK1 := va_K.moved hvm.symm hK1
              obtain ⟨hP, hD⟩ := va_join (wr := []) (w1 := [(zo14irriiiiiirriirrrrlriiii m0 th aS aI im (nI a) (nI p_52) (nI E) 0 4 aB aT se dn aG aO aN aD bv aY rn kd nu tv), (zaI aS cS 901 fS9_65)]) hP hD [0, 1] [] rfl rfl (by decide) (by decide) hk1 hFc hP1 hD1
              have hK := (hK.sub (tys' := []) [] rfl).app hK1
              generalize H1 = H at hP hS ⊢
              have hP : va_P (dC, dI) vwCl [(zo14irriiiiiirriirrrrlriiii m0 th aS aI im (nI a) (nI p_52) (nI E) 0 4 aB aT se dn aG aO aN aD bv aY rn kd nu tv), (zaI aS cS 901 fS9_65)] H := hP
              have hD : va_D A [(zo14irriiiiiirriirrrrlriiii m0 th aS aI im (nI a) (nI p_52) (nI E) 0 4 aB aT se dn aG aO aN aD bv aY rn kd nu tv), (zaI aS cS 901 fS9_65)] := hD
              have hK : va_K (dC, dI) vwCl [(cS, .int)] s := hK
              obtain rfl : fS9_65 = emt fS9_49 a k_53 (-3) := by rcases hw_64 with ⟨q, _⟩ | ⟨_, q⟩; exact absurd rfl q; exact q
              have hI_67 : PI (emt fS9_49 a k_53 (-3)) a (k_53 + 1) (((d + 1) + 1) - 1) p_52 E := ((hI_59).mono (by omega) (by omega)).em (by omega) (by omega) (stepd_either (by omega))
              have hF_68 : PF a fS (emt fS9_49 a k_53 (-3)) := ((hF).tr hF_57).tr (PF_emt (k := k_53) (x := (-3)) ga (by have := (hI_59).2.2.2.2.1; omega))
              refine lv_goto (tgt := 4) hx hb dX12_some_40 (by decide) ?_
              exact ih4 (p_52) ((k_53 + 1)) (0) (emt fS9_49 a k_53 (-3)) (by omega) (by omega) (hF_68) (Or.inr ⟨rfl, by omega, hI_67, by omega⟩) _ _ (hK.sub [0] rfl) (hP.sub [0, 1] rfl) (hD.sub [0, 1] (by decide) rfl) hS ls (lv_sub hl [0] rfl)
    exact L4 _ (p_6) (k_7) (0) (fS9_3) (Nat.lt_succ_self _) (by omega) ((PF.rf).tr hF_11) (Or.inr ⟨rfl, by omega, hI_13, by omega⟩) _ _ (hK.sub [0] rfl) (hP.sub [0, 1] rfl) (hD.sub [0, 1] (by decide) rfl) hS ls (lv_sub hl [0] rfl)
end mg12b
section mg12b

theorem kc_factor3_0 : ∀ w ∈ wsX120, w ∈ wsX12_factor := fun w h => List.mem_cons_of_mem _ (gin_wsX120 w h)
theorem kc_factor3_1 : (.fieldLink RX12 65 "MistHeapsModel" "isWrong" "Z" : Cond) ∈ wsX12_factor := kc_of 1147 rfl rfl rfl
theorem kc_factor3_2 : (.fieldLink RX12 89 "MistHeapsModel" "open" "I" : Cond) ∈ wsX12_factor := kc_of 1148 rfl rfl rfl
theorem kc_factor3_3 : (.fieldLink RX12 59 "MistHeapsModel" "spot" "I" : Cond) ∈ wsX12_factor := kc_of 1145 rfl rfl rfl
set_option maxHeartbeats 4000000 in
set_option maxRecDepth 100000 in
theorem c_factor3 (l : Launch) (dC : Nat → ClassId) (dI : Nat → Nat → Nat) (sK sV : Nat → Nat) (m0 aS aI aB aT aG aO aN aD aY : Nat) (th im ac sp en wg op se dn rn kd nu tv : Int32) (bv : Int64) (cS : ClassId) (fS : Nat → Int32) (a p0 E k d : Nat) (sz : Nat) (gI : PI fS a k d p0 E) : Met l yX12_factor wsX12_factor ({ frames := 11, cells := 0, slots := 0, locals := 235 } : Room) (va_Pc [.ref m0] (fun U => U.heap.size = sz ∧ va_P (dC, dI) vwCl [(zo14irriiiiiirriirrrrlriiii m0 th aS aI im (nI a) (nI p0) (nI E) 0 3 aB aT se dn aG aO aN aD bv aY rn kd nu tv), (zaI aS cS 901 fS)] U.heap ∧ va_K (dC, dI) vwCl [(cS, .int)] U ∧ va_D (fun _ => True) [(zo14irriiiiiirriirrrrlriiii m0 th aS aI im (nI a) (nI p0) (nI E) 0 3 aB aT se dn aG aO aN aD bv aY rn kd nu tv), (zaI aS cS 901 fS)] ∧ Gs sK sV (va_A [(zo14irriiiiiirriirrrrlriiii m0 th aS aI im (nI a) (nI p0) (nI E) 0 3 aB aT se dn aG aO aN aD bv aY rn kd nu tv), (zaI aS cS 901 fS)] sz) U)) (va_Qv (fun (u : (Nat → Int32) × (Int32) × (Int32)) => match u with | (fS9, sp9, wg9) => ∃ p9 k9 : Nat, sp9 = nI p9 ∧ p0 ≤ p9 ∧ p9 ≤ E ∧ PF a fS fS9 ∧ (wg9 = 1 ∨ (wg9 = 0 ∧ p0 + 3 ≤ p9 ∧ PI fS9 a k9 (d + 1) p9 E ∧ k9 + p0 ≤ k + p9))) (fun (u : (Nat → Int32) × (Int32) × (Int32)) (t : State) => match u with | (fS9, sp9, wg9) => va_P (dC, dI) vwCl [(zo14irriiiiiirriirrrrlriiii m0 th aS aI im (nI a) sp9 (nI E) wg9 3 aB aT se dn aG aO aN aD bv aY rn kd nu tv), (zaI aS cS 901 fS9)] t.heap ∧ va_K (dC, dI) vwCl [(cS, .int)] t ∧ va_D (va_A [(zo14irriiiiiirriirrrrlriiii m0 th aS aI im (nI a) (nI p0) (nI E) 0 3 aB aT se dn aG aO aN aD bv aY rn kd nu tv), (zaI aS cS 901 fS)] sz) [(zo14irriiiiiirriirrrrlriiii m0 th aS aI im (nI a) sp9 (nI E) wg9 3 aB aT se dn aG aO aN aD bv aY rn kd nu tv), (zaI aS cS 901 fS9)]) (va_A [(zo14irriiiiiirriirrrrlriiii m0 th aS aI im (nI a) (nI p0) (nI E) 0 3 aB aT se dn aG aO aN aD bv aY rn kd nu tv), (zaI aS cS 901 fS)] sz)) 0 0 (va_A [(zo14irriiiiiirriirrrrlriiii m0 th aS aI im (nI a) (nI p0) (nI E) 0 3 aB aT se dn aG aO aN aD bv aY rn kd nu tv), (zaI aS cS 901 fS)] sz) := by
  refine met_ofQ (cc := cX12_factor) (maxL := 5) (ret := none) (by decide) rfl ?_
  intro p e s m args below meth c s₁ Q B hml hv hQ
  obtain ⟨rfl, hsz, hP, hK, hD0, hE⟩ := hv
  have hx := B.exec
  have hb := B.bytes
  have hr := B.returns
  have hts := atoms_spec (ws := wsX12_factor) B.pre
  have hown : s.vm.findClass RX12 = some m.cls := findClass_of_methodNamed B.named
  have hlocks := B.notSynchronized
  subst hsz
  have hD := hD0.self (sz := s.heap.size)
  generalize hAe : va_A [(zo14irriiiiiirriirrrrlriiii m0 th aS aI im (nI a) (nI p0) (nI E) 0 3 aB aT se dn aG aO aN aD bv aY rn kd nu tv), (zaI aS cS 901 fS)] s.heap.size = A at hD hQ hE ⊢
  have hA : ∀ q : Nat, s.heap.size ≤ q → A q := fun q h => by rw [← hAe]; exact Or.inr h
  have hS : va_S A s.heap s.heap [] := va_S.rf
  have hl := lv_entry [.ref m0] (n := 5) (Nat.le_of_ble_eq_true rfl)
  rw [lg_entry_eq]
  generalize (lg_sl [.ref m0] ++ List.replicate (5 - (lg_sl [.ref m0]).length) Slot.unset).toArray = ls at hl ⊢
  generalize hag : ([.ref m0] : List Value).toArray = args at hts hQ ⊢
  have hl : lv_has ls 5 [(0, .ref m0)] := hl
  obtain ⟨H, hH⟩ : ∃ H : Heap, H = s.heap := ⟨_, rfl⟩
  rw [← hH] at hP
  rw [← hH]
  have hS : va_S A s.heap H [] := by rw [hH]; exact hS
  obtain ⟨locs, hlo⟩ : ∃ L : List Loc, L = [] := ⟨_, rfl⟩
  rw [← hlo] at hS
  rw [← hlo]
  clear hH hlo
  obtain ⟨ga, gp, gE, zk, gkp, gd, gs⟩ := id gI
  refine lv_aload_n hx hb dX12_factor_0 rfl (lv_at hl 0 rfl) ?_
  refine va_get (D := (dC, dI)) (ci := 14) (v := .int 0) (C := RX12) (T := TX12) (N := 23) hx hb hts kc_factor3_0 hown hK hP 0 rfl rfl 7 (by decide) (hts (.fieldLink RX12 65 "MistHeapsModel" "isWrong" "Z") kc_factor3_1) (fun _ h9 => h9) rfl dX12_factor_1 ?_
  refine lv_if_eq (tgt := 8) hx hb dX12_factor_4 (by decide) (fun _ => ?_) (fun c_1 => absurd c_1 (by decide))
  refine lv_aload_n hx hb dX12_factor_8 rfl (lv_at hl 0 rfl) ?_
  have hPc := hP.sub (ws' := [(zo14irriiiiiirriirrrrlriiii m0 th aS aI im (nI a) (nI p0) (nI E) 0 3 aB aT se dn aG aO aN aD bv aY rn kd nu tv), (zaI aS cS 901 fS)]) [0, 1] rfl
  have hKc := hK.sub (tys' := [(cS, .int)]) [0] rfl
  refine vp_callSi (va_runV (As := []) (rest := []) ⟨hx, hb, hml, hown, hts⟩ (c_here l dC dI m0 aS aI aB aT aG aO aN aD aY th im (nI a) (nI p0) (nI E) 0 3 se dn rn kd nu tv bv cS fS a p0 E (by omega) (by omega) (by omega)) (cwV 0 hts gX12_factor_X12_here rfl rfl rfl hd_yX12_here ⟨Nat.le_of_ble_eq_true rfl, Nat.le_of_ble_eq_true rfl⟩) ⟨fun a U g mk q => by obtain ⟨q0, qP, qK⟩ := q; exact ⟨q0, qP, va_K.moved (u := U) (U := U.calling g mk a) (Vm.Alike.refl U.vm) qK⟩, va_recv hK hP (ci := 14) (q := (RX12, TX12, 23)) (q0 := 0) rfl rfl, fun U hU hW => ⟨rfl, by rw [hU]; exact hPc, va_K.moved hW.alike hKc⟩⟩ rfl rfl hl.1 rfl (lv_room (Nat.le_of_ble_eq_true rfl)) dX12_factor_9 ⟨Nat.le_of_ble_eq_true rfl, Nat.le_of_ble_eq_true rfl⟩).run (fun r_2 hw_3 => ?_)
  refine lv_istore_n (lv' := [(1, .int r_2), (0, .ref m0)]) hx hb dX12_factor_12 rfl hl (by decide) rfl (fun ls hl => ?_)
  refine lv_iload_n hx hb dX12_factor_13 rfl (lv_at hl 0 rfl) ?_
  refine lv_bipush (v := 33) hx hb dX12_factor_14 (by decide) ?_
  refine lv_icmp_eq (tgt := 25) hx hb dX12_factor_16 (by decide) (fun c_4 => ?_) (fun c_4 => ?_)
  · skip
    subst c_4
    have hlt : p0 < E := hv_lt (f := fS) (by rw [← hw_3]; decide)
    refine lv_aload_n hx hb dX12_factor_25 rfl (lv_at hl 1 rfl) ?_
    refine lv_aload_n hx hb dX12_factor_26 rfl (lv_at hl 1 rfl) ?_
    refine va_get (D := (dC, dI)) (ci := 14) (v := .int 3) (C := RX12) (T := TX12) (N := 23) hx hb hts kc_factor3_0 hown hK hP 0 rfl rfl 8 (by decide) (hts (.fieldLink RX12 89 "MistHeapsModel" "open" "I") kc_factor3_2) (fun _ h9 => h9) rfl dX12_factor_27 ?_
    refine lv_iconst (v := 5) hx hb dX12_factor_30 (by decide) ?_
    refine lv_icmp_ne (tgt := 38) hx hb dX12_factor_31 (by decide) (fun _ => ?_) (fun c_5 => absurd c_5 (by decide))
    refine lv_iconst (v := 0) hx hb dX12_factor_38 (by decide) ?_
    refine va_put (D := (dC, dI)) (ci := 14) (v := .int 0) (ty := .boolean) (C := RX12) (T := TX12) (N := 23) hx hb hts kc_factor3_0 tyX12 tyX12_ok nmX12 hown hK hP hD hS 0 rfl rfl 7 (by decide) (hts (.fieldLink RX12 65 "MistHeapsModel" "isWrong" "Z") kc_factor3_1) (fun _ h9 => h9) rfl (by decide +kernel) rfl rfl (Nat.le_of_ble_eq_true rfl) dX12_factor_39 (fun H locs hP hD hS => ?_)
    have hP : va_P (dC, dI) vwCl [(zo14irriiiiiirriirrrrlriiii m0 th aS aI im (nI a) (nI p0) (nI E) 0 3 aB aT se dn aG aO aN aD bv aY rn kd nu tv), (zaI aS cS 901 fS)] H := hP
    have hD : va_D A [(zo14irriiiiiirriirrrrlriiii m0 th aS aI im (nI a) (nI p0) (nI E) 0 3 aB aT se dn aG aO aN aD bv aY rn kd nu tv), (zaI aS cS 901 fS)] := hD
    refine lv_aload_n hx hb dX12_factor_42 rfl (lv_at hl 1 rfl) ?_
    refine lv_dup hx hb dX12_factor_43 rfl ?_
    refine va_get (D := (dC, dI)) (ci := 14) (v := .int 3) (C := RX12) (T := TX12) (N := 23) hx hb hts kc_factor3_0 hown hK hP 0 rfl rfl 8 (by decide) (hts (.fieldLink RX12 89 "MistHeapsModel" "open" "I") kc_factor3_2) (fun _ h9 => h9) rfl dX12_factor_44 ?_
    refine lv_iconst (v := 1) hx hb dX12_factor_47 (by decide) ?_
    refine lv_iadd hx hb dX12_factor_48 ?_
    refine qi_as (y := 4) (by decide) ?_
    refine va_put (D := (dC, dI)) (ci := 14) (v := .int 4) (ty := .int) (C := RX12) (T := TX12) (N := 23) hx hb hts kc_factor3_0 tyX12 tyX12_ok nmX12 hown hK hP hD hS 0 rfl rfl 8 (by decide) (hts (.fieldLink RX12 89 "MistHeapsModel" "open" "I") kc_factor3_2) (fun _ h9 => h9) rfl (by decide +kernel) rfl rfl (Nat.le_of_ble_eq_true rfl) dX12_factor_49 (fun H locs hP hD hS => ?_)
    have hP : va_P (dC, dI) vwCl [(zo14irriiiiiirriirrrrlriiii m0 th aS aI im (nI a) (nI p0) (nI E) 0 4 aB aT se dn aG aO aN aD bv aY rn kd nu tv), (zaI aS cS 901 fS)] H := hP
    have hD : va_D A [(zo14irriiiiiirriirrrrlriiii m0 th aS aI im (nI a) (nI p0) (nI E) 0 4 aB aT se dn aG aO aN aD bv aY rn kd nu tv), (zaI aS cS 901 fS)] := hD
    refine lv_aload_n hx hb dX12_factor_52 rfl (lv_at hl 1 rfl) ?_
    refine lv_dup hx hb dX12_factor_53 rfl ?_
    refine va_get (D := (dC, dI)) (ci := 14) (v := .int (nI p0)) (C := RX12) (T := TX12) (N := 23) hx hb hts kc_factor3_0 hown hK hP 0 rfl rfl 5 (by decide) (hts (.fieldLink RX12 59 "MistHeapsModel" "spot" "I") kc_factor3_3) (fun _ h9 => h9) rfl dX12_factor_54 ?_
    refine lv_aload_n hx hb dX12_factor_57 rfl (lv_at hl 1 rfl) ?_
    refine va_get (D := (dC, dI)) (ci := 14) (v := .int 0) (C := RX12) (T := TX12) (N := 23) hx hb hts kc_factor3_0 hown hK hP 0 rfl rfl 7 (by decide) (hts (.fieldLink RX12 65 "MistHeapsModel" "isWrong" "Z") kc_factor3_1) (fun _ h9 => h9) rfl dX12_factor_58 ?_
    refine lv_if_eq (tgt := 68) hx hb dX12_factor_61 (by decide) (fun _ => ?_) (fun c_6 => absurd c_6 (by decide))
    refine lv_iconst (v := 1) hx hb dX12_factor_68 (by decide) ?_
    refine lv_iadd hx hb dX12_factor_69 ?_
    refine qi_as (y := nI (p0 + 1)) (nI_add p0 1) ?_
    refine va_put (D := (dC, dI)) (ci := 14) (v := .int (nI (p0 + 1))) (ty := .int) (C := RX12) (T := TX12) (N := 23) hx hb hts kc_factor3_0 tyX12 tyX12_ok nmX12 hown hK hP hD hS 0 rfl rfl 5 (by decide) (hts (.fieldLink RX12 59 "MistHeapsModel" "spot" "I") kc_factor3_3) (fun _ h9 => h9) rfl (by decide +kernel) rfl rfl (Nat.le_of_ble_eq_true rfl) dX12_factor_70 (fun H locs hP hD hS => ?_)
    have hP : va_P (dC, dI) vwCl [(zo14irriiiiiirriirrrrlriiii m0 th aS aI im (nI a) (nI (p0 + 1)) (nI E) 0 4 aB aT se dn aG aO aN aD bv aY rn kd nu tv), (zaI aS cS 901 fS)] H := hP
    have hD : va_D A [(zo14irriiiiiirriirrrrlriiii m0 th aS aI im (nI a) (nI (p0 + 1)) (nI E) 0 4 aB aT se dn aG aO aN aD bv aY rn kd nu tv), (zaI aS cS 901 fS)] := hD
    refine lv_iload_n hx hb dX12_factor_73 rfl (lv_at hl 0 rfl) ?_
    refine lv_bipush (v := 33) hx hb dX12_factor_74 (by decide) ?_
    refine lv_icmp_ne (tgt := 91) hx hb dX12_factor_76 (by decide) (fun c_7 => absurd c_7 (by decide)) (fun _ => ?_)
    refine lv_aload_n hx hb dX12_factor_79 rfl (lv_at hl 1 rfl) ?_
    have hPc := hP.sub (ws' := [(zo14irriiiiiirriirrrrlriiii m0 th aS aI im (nI a) (nI (p0 + 1)) (nI E) 0 4 aB aT se dn aG aO aN aD bv aY rn kd nu tv), (zaI aS cS 901 fS)]) [0, 1] rfl
    have hDc := hD.sub (ws' := [(zo14irriiiiiirriirrrrlriiii m0 th aS aI im (nI a) (nI (p0 + 1)) (nI E) 0 4 aB aT se dn aG aO aN aD bv aY rn kd nu tv), (zaI aS cS 901 fS)]) [0, 1] (by decide) rfl
    have hKc := hK.sub (tys' := [(cS, .int)]) [0] rfl
    have hFc := va_free (wc := [(zo14irriiiiiirriirrrrlriiii m0 th aS aI im (nI a) (nI (p0 + 1)) (nI E) 0 4 aB aT se dn aG aO aN aD bv aY rn kd nu tv), (zaI aS cS 901 fS)]) hD hS hA [0, 1] rfl
    refine va_callv (va_runV (As := []) (rest := []) ⟨hx, hb, hml, hown, hts⟩ (c_factor4 l dC dI sK sV m0 aS aI aB aT aG aO aN aD aY th im (nI a) (nI (p0 + 1)) (nI E) 0 4 se dn rn kd nu tv bv cS fS a (p0 + 1) E k d H.size ((gI).mono (by omega) (by omega))) (cwV 0 hts gX12_factor_X12_factor rfl rfl rfl hd_yX12_factor ⟨Nat.le_of_ble_eq_true rfl, Nat.le_of_ble_eq_true rfl⟩) ⟨fun a U g mk q => by obtain ⟨q0, q1, qP, qK, qD, qhE⟩ := q; exact ⟨q0, q1, qP, va_K.moved (u := U) (U := U.calling g mk a) (Vm.Alike.refl U.vm) qK, qD, qhE.same rfl rfl⟩, va_recv hK hP (ci := 14) (q := (RX12, TX12, 23)) (q0 := 0) rfl rfl, fun U hU hW => ⟨rfl, by rw [hU], by rw [hU]; exact hPc, va_K.moved hW.alike hKc, hDc.weaken (fun _ _ _ _ => trivial), hE.call hS hU hW (fun q h => hFc q h)⟩⟩ rfl rfl hl.1 rfl (lv_room (Nat.le_of_ble_eq_true rfl)) dX12_factor_80 ⟨Nat.le_of_ble_eq_true rfl, Nat.le_of_ble_eq_true rfl⟩) hS (fun q _ h => hFc q h) hFc (fun u tC H1 locs htC hvm hw_9 hB hz1 hk1 hS => ?_)
    obtain ⟨fS9_10, sp9_11, wg9_12⟩ := u
    try dsimp only at hw_9 hB
    obtain ⟨hP1, hK1, hD1⟩ := hB
    rw [htC] at hP1
    have hK1 := va_K.moved hvm.symm hK1
    obtain ⟨hP, hD⟩ := va_join (wr := []) (w1 := [(zo14irriiiiiirriirrrrlriiii m0 th aS aI im (nI a) sp9_11 (nI E) wg9_12 4 aB aT se dn aG aO aN aD bv aY rn kd nu tv), (zaI aS cS 901 fS9_10)]) hP hD [0, 1] [] rfl rfl (by decide) (by decide) hk1 hFc hP1 hD1
    have hK := (hK.sub (tys' := []) [] rfl).app hK1
    generalize H1 = H at hP hS ⊢
    have hP : va_P (dC, dI) vwCl [(zo14irriiiiiirriirrrrlriiii m0 th aS aI im (nI a) sp9_11 (nI E) wg9_12 4 aB aT se dn aG aO aN aD bv aY rn kd nu tv), (zaI aS cS 901 fS9_10)] H := hP
    have hD : va_D A [(zo14irriiiiiirriirrrrlriiii m0 th aS aI im (nI a) sp9_11 (nI E) wg9_12 4 aB aT se dn aG aO aN aD bv aY rn kd nu tv), (zaI aS cS 901 fS9_10)] := hD
    have hK : va_K (dC, dI) vwCl [(cS, .int)] s := hK
    obtain ⟨p_13, k_14, rfl, h_16, h_17, hF_18, q9⟩ := hw_9
    rcases q9 with rfl | ⟨rfl, h_19, hI_20, h_21⟩
    · skip
      refine lv_aload_n hx hb dX12_factor_83 rfl (lv_at hl 1 rfl) ?_
      refine lv_iconst (v := (-1)) hx hb dX12_factor_84 (by decide) ?_
      have hPc := hP.sub (ws' := [(zo14irriiiiiirriirrrrlriiii m0 th aS aI im (nI a) (nI p_13) (nI E) 1 4 aB aT se dn aG aO aN aD bv aY rn kd nu tv)]) [0] rfl
      have hKc := hK.sub (tys' := []) [] rfl
      refine va_csv (va_runV (As := [.int (-1)]) (rest := []) ⟨hx, hb, hml, hown, hts⟩ (c_emitsW l dC dI m0 aS aI aB aT aG aO aN aD aY th im (nI a) (nI p_13) (nI E) 1 4 se dn rn kd nu tv bv (-1)) (cwV 1 hts gX12_factor_X12_emits rfl rfl rfl hd_yX12_emits ⟨Nat.le_of_ble_eq_true rfl, Nat.le_of_ble_eq_true rfl⟩) ⟨fun a U g mk q => by obtain ⟨q0, qP, qK⟩ := q; exact ⟨q0, qP, va_K.moved (u := U) (U := U.calling g mk a) (Vm.Alike.refl U.vm) qK⟩, va_recv hK hP (ci := 14) (q := (RX12, TX12, 23)) (q0 := 0) rfl rfl, fun U hU hW => ⟨rfl, by rw [hU]; exact hPc, va_K.moved hW.alike hKc⟩⟩ rfl rfl hl.1 rfl (lv_room (Nat.le_of_ble_eq_true rfl)) dX12_factor_85 ⟨Nat.le_of_ble_eq_true rfl, Nat.le_of_ble_eq_true rfl⟩).run (fun hw_23 => ?_)
      refine lv_goto (tgt := 101) hx hb dX12_factor_88 (by decide) ?_
      refine lv_aload_n hx hb dX12_factor_101 rfl (lv_at hl 1 rfl) ?_
      refine lv_dup hx hb dX12_factor_102 rfl ?_
      refine va_get (D := (dC, dI)) (ci := 14) (v := .int 4) (C := RX12) (T := TX12) (N := 23) hx hb hts kc_factor3_0 hown hK hP 0 rfl rfl 8 (by decide) (hts (.fieldLink RX12 89 "MistHeapsModel" "open" "I") kc_factor3_2) (fun _ h9 => h9) rfl dX12_factor_103 ?_
      refine lv_iconst (v := 1) hx hb dX12_factor_106 (by decide) ?_
      refine lv_isub hx hb dX12_factor_107 ?_
      refine qi_as (y := 3) (by decide) ?_
      refine va_put (D := (dC, dI)) (ci := 14) (v := .int 3) (ty := .int) (C := RX12) (T := TX12) (N := 23) hx hb hts kc_factor3_0 tyX12 tyX12_ok nmX12 hown hK hP hD hS 0 rfl rfl 8 (by decide) (hts (.fieldLink RX12 89 "MistHeapsModel" "open" "I") kc_factor3_2) (fun _ h9 => h9) rfl (by decide +kernel) rfl rfl (Nat.le_of_ble_eq_true rfl) dX12_factor_108 (fun H locs hP hD hS => ?_)
      have hP : va_P (dC, dI) vwCl [(zo14irriiiiiirriirrrrlriiii m0 th aS aI im (nI a) (nI p_13) (nI E) 1 3 aB aT se dn aG aO aN aD bv aY rn kd nu tv), (zaI aS cS 901 fS9_10)] H := hP
      have hD : va_D A [(zo14irriiiiiirriirrrrlriiii m0 th aS aI im (nI a) (nI p_13) (nI E) 1 3 aB aT se dn aG aO aN aD bv aY rn kd nu tv), (zaI aS cS 901 fS9_10)] := hD
      rw [hQ]
      have hP9 := hP.sub (ws' := [(zo14irriiiiiirriirrrrlriiii m0 th aS aI im (nI a) (nI p_13) (nI E) 1 3 aB aT se dn aG aO aN aD bv aY rn kd nu tv), (zaI aS cS 901 fS9_10)]) [0, 1] rfl
      have hD9 := hD.sub (ws' := [(zo14irriiiiiirriirrrrlriiii m0 th aS aI im (nI a) (nI p_13) (nI E) 1 3 aB aT se dn aG aO aN aD bv aY rn kd nu tv), (zaI aS cS 901 fS9_10)]) [0, 1] (by decide) rfl
      have hK9 := hK.sub (tys' := [(cS, .int)]) [0] rfl
      exact W.vret hx hb hr (fun tQ htQ hWQ => ⟨⟨(fS9_10, (nI p_13), 1), rfl, ⟨p_13, k, rfl, by omega, by omega, (PF.rf).tr hF_18, Or.inl rfl⟩, by rw [htQ]; exact hP9, va_K.moved hWQ.alike hK9, hD9⟩, hS.F htQ⟩) hS.2.2 dX12_factor_111
    · skip
      have k5 := hI_20.2.2.2.2.1
      refine lv_aload_n hx hb dX12_factor_83 rfl (lv_at hl 1 rfl) ?_
      refine lv_iconst (v := (-1)) hx hb dX12_factor_84 (by decide) ?_
      have hPc := hP.sub (ws' := [(zo14irriiiiiirriirrrrlriiii m0 th aS aI im (nI a) (nI p_13) (nI E) 0 4 aB aT se dn aG aO aN aD bv aY rn kd nu tv), (zaI aS cS 901 fS9_10)]) [0, 1] rfl
      have hDc := hD.sub (ws' := [(zo14irriiiiiirriirrrrlriiii m0 th aS aI im (nI a) (nI p_13) (nI E) 0 4 aB aT se dn aG aO aN aD bv aY rn kd nu tv), (zaI aS cS 901 fS9_10)]) [0, 1] (by decide) rfl
      have hKc := hK.sub (tys' := [(cS, .int)]) [0] rfl
      have hFc := va_free (wc := [(zo14irriiiiiirriirrrrlriiii m0 th aS aI im (nI a) (nI p_13) (nI E) 0 4 aB aT se dn aG aO aN aD bv aY rn kd nu tv), (zaI aS cS 901 fS9_10)]) hD hS hA [0, 1] rfl
      refine va_callv (va_runV (As := [.int (-1)]) (rest := []) ⟨hx, hb, hml, hown, hts⟩ (c_emits l dC dI m0 aS aI aB aT aG aO aN aD aY th im (nI a) (nI p_13) (nI E) 0 4 se dn rn kd nu tv bv cS fS9_10 a k_14 (-1) H.size (ga) ((hI_20).2.2.2.1) (by have := (hI_20).2.2.2.2.1; omega)) (cwV 1 hts gX12_factor_X12_emits rfl rfl rfl hd_yX12_emits ⟨Nat.le_of_ble_eq_true rfl, Nat.le_of_ble_eq_true rfl⟩) ⟨fun a U g mk q => by obtain ⟨q0, q1, qP, qK, qD⟩ := q; exact ⟨q0, q1, qP, va_K.moved (u := U) (U := U.calling g mk a) (Vm.Alike.refl U.vm) qK, qD⟩, va_recv hK hP (ci := 14) (q := (RX12, TX12, 23)) (q0 := 0) rfl rfl, fun U hU hW => ⟨rfl, by rw [hU], by rw [hU]; exact hPc, va_K.moved hW.alike hKc, hDc.weaken (fun _ _ _ _ => trivial)⟩⟩ rfl rfl hl.1 rfl (lv_room (Nat.le_of_ble_eq_true rfl)) dX12_factor_85 ⟨Nat.le_of_ble_eq_true rfl, Nat.le_of_ble_eq_true rfl⟩) hS (fun q _ h => hFc q h) hFc (fun u tC H1 locs htC hvm hw_25 hB hz1 hk1 hS => ?_)
      obtain ⟨fS9_26, rfl⟩ : ∃ z, z = u := ⟨_, rfl⟩
      try dsimp only at hw_25 hB
      obtain ⟨hP1, hK1, hD1⟩ := hB
      rw [htC] at hP1
      have hK1 := va_K.moved hvm.symm hK1
      obtain ⟨hP, hD⟩ := va_join (wr := []) (w1 := [(zo14irriiiiiirriirrrrlriiii m0 th aS aI im (nI a) (nI p_13) (nI E) 0 4 aB aT se dn aG aO aN aD bv aY rn kd nu tv), (zaI aS cS 901 fS9_26)]) hP hD [0, 1] [] rfl rfl (by decide) (by decide) hk1 hFc hP1 hD1
      have hK := (hK.sub (tys' := []) [] rfl).app hK1
      generalize H1 = H at hP hS ⊢
      have hP : va_P (dC, dI) vwCl [(zo14irriiiiiirriirrrrlriiii m0 th aS aI im (nI a) (nI p_13) (nI E) 0 4 aB aT se dn aG aO aN aD bv aY rn kd nu tv), (zaI aS cS 901 fS9_26)] H := hP
      have hD : va_D A [(zo14irriiiiiirriirrrrlriiii m0 th aS aI im (nI a) (nI p_13) (nI E) 0 4 aB aT se dn aG aO aN aD bv aY rn kd nu tv), (zaI aS cS 901 fS9_26)] := hD
      have hK : va_K (dC, dI) vwCl [(cS, .int)] s := hK
      obtain rfl : fS9_26 = emt fS9_10 a k_14 (-1) := by rcases hw_25 with ⟨q, _⟩ | ⟨_, q⟩; exact absurd rfl q; exact q
      have hI_28 : PI (emt fS9_10 a k_14 (-1)) a (k_14 + 1) (d + 1) p_13 E := ((hI_20).mono (by omega) (by omega)).em (by omega) (by omega) (stepd_not (by omega))
      have hF_29 : PF a fS (emt fS9_10 a k_14 (-1)) := ((PF.rf).tr hF_18).tr (PF_emt (k := k_14) (x := (-1)) ga (by have := (hI_20).2.2.2.2.1; omega))
      refine lv_goto (tgt := 101) hx hb dX12_factor_88 (by decide) ?_
      refine lv_aload_n hx hb dX12_factor_101 rfl (lv_at hl 1 rfl) ?_
      refine lv_dup hx hb dX12_factor_102 rfl ?_
      refine va_get (D := (dC, dI)) (ci := 14) (v := .int 4) (C := RX12) (T := TX12) (N := 23) hx hb hts kc_factor3_0 hown hK hP 0 rfl rfl 8 (by decide) (hts (.fieldLink RX12 89 "MistHeapsModel" "open" "I") kc_factor3_2) (fun _ h9 => h9) rfl dX12_factor_103 ?_
      refine lv_iconst (v := 1) hx hb dX12_factor_106 (by decide) ?_
      refine lv_isub hx hb dX12_factor_107 ?_
      refine qi_as (y := 3) (by decide) ?_
      refine va_put (D := (dC, dI)) (ci := 14) (v := .int 3) (ty := .int) (C := RX12) (T := TX12) (N := 23) hx hb hts kc_factor3_0 tyX12 tyX12_ok nmX12 hown hK hP hD hS 0 rfl rfl 8 (by decide) (hts (.fieldLink RX12 89 "MistHeapsModel" "open" "I") kc_factor3_2) (fun _ h9 => h9) rfl (by decide +kernel) rfl rfl (Nat.le_of_ble_eq_true rfl) dX12_factor_108 (fun H locs hP hD hS => ?_)
      have hP : va_P (dC, dI) vwCl [(zo14irriiiiiirriirrrrlriiii m0 th aS aI im (nI a) (nI p_13) (nI E) 0 3 aB aT se dn aG aO aN aD bv aY rn kd nu tv), (zaI aS cS 901 (emt fS9_10 a k_14 (-1)))] H := hP
      have hD : va_D A [(zo14irriiiiiirriirrrrlriiii m0 th aS aI im (nI a) (nI p_13) (nI E) 0 3 aB aT se dn aG aO aN aD bv aY rn kd nu tv), (zaI aS cS 901 (emt fS9_10 a k_14 (-1)))] := hD
      rw [hQ]
      have hP9 := hP.sub (ws' := [(zo14irriiiiiirriirrrrlriiii m0 th aS aI im (nI a) (nI p_13) (nI E) 0 3 aB aT se dn aG aO aN aD bv aY rn kd nu tv), (zaI aS cS 901 (emt fS9_10 a k_14 (-1)))]) [0, 1] rfl
      have hD9 := hD.sub (ws' := [(zo14irriiiiiirriirrrrlriiii m0 th aS aI im (nI a) (nI p_13) (nI E) 0 3 aB aT se dn aG aO aN aD bv aY rn kd nu tv), (zaI aS cS 901 (emt fS9_10 a k_14 (-1)))]) [0, 1] (by decide) rfl
      have hK9 := hK.sub (tys' := [(cS, .int)]) [0] rfl
      exact W.vret hx hb hr (fun tQ htQ hWQ => ⟨⟨((emt fS9_10 a k_14 (-1)), (nI p_13), 0), rfl, ⟨p_13, (k_14 + 1), rfl, by omega, by omega, hF_29, Or.inr ⟨rfl, by omega, (hI_28).mono (by omega) (by omega), by omega⟩⟩, by rw [htQ]; exact hP9, va_K.moved hWQ.alike hK9, hD9⟩, hS.F htQ⟩) hS.2.2 dX12_factor_111
  · skip
    refine lv_iload_n hx hb dX12_factor_19 rfl (lv_at hl 0 rfl) ?_
    refine lv_bipush (v := 40) hx hb dX12_factor_20 (by decide) ?_
    refine lv_icmp_ne (tgt := 112) hx hb dX12_factor_22 (by decide) (fun c_30 => ?_) (fun c_30 => ?_)
    · skip
      refine lv_aload_n hx hb dX12_factor_112 rfl (lv_at hl 1 rfl) ?_
      refine va_ldcS hx hb hown (show vk_R RX12 101 "hkrcms" (sK 6) s from hE.1 6 (by decide)) dX12_factor_113 ?_
      have hPc := hP.sub (ws' := [(zo14irriiiiiirriirrrrlriiii m0 th aS aI im (nI a) (nI p0) (nI E) 0 3 aB aT se dn aG aO aN aD bv aY rn kd nu tv), (zaI aS cS 901 fS)]) [0, 1] rfl
      have hDc := hD.sub (ws' := [(zo14irriiiiiirriirrrrlriiii m0 th aS aI im (nI a) (nI p0) (nI E) 0 3 aB aT se dn aG aO aN aD bv aY rn kd nu tv), (zaI aS cS 901 fS)]) [0, 1] (by decide) rfl
      have hKc := hK.sub (tys' := [(cS, .int)]) [0] rfl
      have hFc := va_free (wc := [(zo14irriiiiiirriirrrrlriiii m0 th aS aI im (nI a) (nI p0) (nI E) 0 3 aB aT se dn aG aO aN aD bv aY rn kd nu tv), (zaI aS cS 901 fS)]) hD hS hA [0, 1] rfl
      refine va_calli (va_runV (As := [.ref (sK 6)]) (rest := []) ⟨hx, hb, hml, hown, hts⟩ (c_among l dC dI sK sV m0 aS aI aB aT aG aO aN aD aY th im (nI a) (nI p0) (nI E) 0 3 se dn rn kd nu tv bv cS fS a p0 E 6 H.size (by omega) (by omega) (by omega) (by decide)) (cwV 1 hts gX12_factor_X12_among rfl rfl rfl hd_yX12_among ⟨Nat.le_of_ble_eq_true rfl, Nat.le_of_ble_eq_true rfl⟩) ⟨fun a U g mk q => by obtain ⟨q0, q1, qP, qK, qD, qhE⟩ := q; exact ⟨q0, q1, qP, va_K.moved (u := U) (U := U.calling g mk a) (Vm.Alike.refl U.vm) qK, qD, qhE.same rfl rfl⟩, va_recv hK hP (ci := 14) (q := (RX12, TX12, 23)) (q0 := 0) rfl rfl, fun U hU hW => ⟨rfl, by rw [hU], by rw [hU]; exact hPc, va_K.moved hW.alike hKc, hDc.weaken (fun _ _ _ _ => trivial), hE.call hS hU hW (fun q h => hFc q h)⟩⟩ rfl rfl hl.1 rfl (lv_room (Nat.le_of_ble_eq_true rfl)) dX12_factor_115 ⟨Nat.le_of_ble_eq_true rfl, Nat.le_of_ble_eq_true rfl⟩) hS (fun q _ h => hFc q h) hFc (fun r_31 u tC H1 locs htC hvm hw_32 hB hz1 hk1 hS => ?_)
      obtain ⟨sp9_33, rfl⟩ : ∃ z, z = u := ⟨_, rfl⟩
      try dsimp only at hw_32 hB
      obtain ⟨hP1, hK1, hD1⟩ := hB
      rw [htC] at hP1
      have hK1 := va_K.moved hvm.symm hK1
      obtain ⟨hP, hD⟩ := va_join (wr := []) (w1 := [(zo14irriiiiiirriirrrrlriiii m0 th aS aI im (nI a) sp9_33 (nI E) 0 3 aB aT se dn aG aO aN aD bv aY rn kd nu tv), (zaI aS cS 901 fS)]) hP hD [0, 1] [] rfl rfl (by decide) (by decide) hk1 hFc hP1 hD1
      have hK := (hK.sub (tys' := []) [] rfl).app hK1
      generalize H1 = H at hP hS ⊢
      have hP : va_P (dC, dI) vwCl [(zo14irriiiiiirriirrrrlriiii m0 th aS aI im (nI a) sp9_33 (nI E) 0 3 aB aT se dn aG aO aN aD bv aY rn kd nu tv), (zaI aS cS 901 fS)] H := hP
      have hD : va_D A [(zo14irriiiiiirriirrrrlriiii m0 th aS aI im (nI a) sp9_33 (nI E) 0 3 aB aT se dn aG aO aN aD bv aY rn kd nu tv), (zaI aS cS 901 fS)] := hD
      have hK : va_K (dC, dI) vwCl [(cS, .int)] s := hK
      rcases hw_32 with ⟨rfl, rfl⟩ | ⟨j_34, hj_35, rfl, h_36, rfl⟩
      · skip
        refine lv_istore_n (lv' := [(2, .int (-1)), (1, .int r_2), (0, .ref m0)]) hx hb dX12_factor_118 rfl hl (by decide) rfl (fun ls hl => ?_)
        refine lv_aload_n hx hb dX12_factor_119 rfl (lv_at hl 2 rfl) ?_
        refine lv_iload_n hx hb dX12_factor_120 rfl (lv_at hl 0 rfl) ?_
        refine lv_iconst (v := (-1)) hx hb dX12_factor_121 (by decide) ?_
        refine lv_icmp_ne (tgt := 129) hx hb dX12_factor_122 (by decide) (fun c_37 => absurd c_37 (by decide)) (fun _ => ?_)
        refine lv_iconst (v := 1) hx hb dX12_factor_125 (by decide) ?_
        refine lv_goto (tgt := 130) hx hb dX12_factor_126 (by decide) ?_
        refine va_put (D := (dC, dI)) (ci := 14) (v := .int 1) (ty := .boolean) (C := RX12) (T := TX12) (N := 23) hx hb hts kc_factor3_0 tyX12 tyX12_ok nmX12 hown hK hP hD hS 0 rfl rfl 7 (by decide) (hts (.fieldLink RX12 65 "MistHeapsModel" "isWrong" "Z") kc_factor3_1) (fun _ h9 => h9) rfl (by decide +kernel) rfl rfl (Nat.le_of_ble_eq_true rfl) dX12_factor_130 (fun H locs hP hD hS => ?_)
        have hP : va_P (dC, dI) vwCl [(zo14irriiiiiirriirrrrlriiii m0 th aS aI im (nI a) (nI p0) (nI E) 1 3 aB aT se dn aG aO aN aD bv aY rn kd nu tv), (zaI aS cS 901 fS)] H := hP
        have hD : va_D A [(zo14irriiiiiirriirrrrlriiii m0 th aS aI im (nI a) (nI p0) (nI E) 1 3 aB aT se dn aG aO aN aD bv aY rn kd nu tv), (zaI aS cS 901 fS)] := hD
        refine lv_aload_n hx hb dX12_factor_133 rfl (lv_at hl 2 rfl) ?_
        refine va_get (D := (dC, dI)) (ci := 14) (v := .int 1) (C := RX12) (T := TX12) (N := 23) hx hb hts kc_factor3_0 hown hK hP 0 rfl rfl 7 (by decide) (hts (.fieldLink RX12 65 "MistHeapsModel" "isWrong" "Z") kc_factor3_1) (fun _ h9 => h9) rfl dX12_factor_134 ?_
        refine lv_if_eq (tgt := 144) hx hb dX12_factor_137 (by decide) (fun c_38 => absurd c_38 (by decide)) (fun _ => ?_)
        refine lv_iconst (v := 0) hx hb dX12_factor_140 (by decide) ?_
        refine lv_goto (tgt := 150) hx hb dX12_factor_141 (by decide) ?_
        refine lv_istore_n (lv' := [(3, .int 0), (2, .int (-1)), (1, .int r_2), (0, .ref m0)]) hx hb dX12_factor_150 rfl hl (by decide) rfl (fun ls hl => ?_)
        refine lv_aload_n hx hb dX12_factor_151 rfl (lv_at hl 3 rfl) ?_
        refine lv_aload_n hx hb dX12_factor_152 rfl (lv_at hl 3 rfl) ?_
        refine va_get (D := (dC, dI)) (ci := 14) (v := .int 1) (C := RX12) (T := TX12) (N := 23) hx hb hts kc_factor3_0 hown hK hP 0 rfl rfl 7 (by decide) (hts (.fieldLink RX12 65 "MistHeapsModel" "isWrong" "Z") kc_factor3_1) (fun _ h9 => h9) rfl dX12_factor_153 ?_
        refine lv_if_ne (tgt := 164) hx hb dX12_factor_156 (by decide) (fun _ => ?_) (fun c_39 => absurd c_39 (by decide))
        refine lv_iconst (v := 1) hx hb dX12_factor_164 (by decide) ?_
        refine lv_goto (tgt := 169) hx hb dX12_factor_165 (by decide) ?_
        refine va_put (D := (dC, dI)) (ci := 14) (v := .int 1) (ty := .boolean) (C := RX12) (T := TX12) (N := 23) hx hb hts kc_factor3_0 tyX12 tyX12_ok nmX12 hown hK hP hD hS 0 rfl rfl 7 (by decide) (hts (.fieldLink RX12 65 "MistHeapsModel" "isWrong" "Z") kc_factor3_1) (fun _ h9 => h9) rfl (by decide +kernel) rfl rfl (Nat.le_of_ble_eq_true rfl) dX12_factor_169 (fun H locs hP hD hS => ?_)
        have hP : va_P (dC, dI) vwCl [(zo14irriiiiiirriirrrrlriiii m0 th aS aI im (nI a) (nI p0) (nI E) 1 3 aB aT se dn aG aO aN aD bv aY rn kd nu tv), (zaI aS cS 901 fS)] H := hP
        have hD : va_D A [(zo14irriiiiiirriirrrrlriiii m0 th aS aI im (nI a) (nI p0) (nI E) 1 3 aB aT se dn aG aO aN aD bv aY rn kd nu tv), (zaI aS cS 901 fS)] := hD
        refine lv_aload_n hx hb dX12_factor_172 rfl (lv_at hl 3 rfl) ?_
        have hPc := hP.sub (ws' := [(zo14irriiiiiirriirrrrlriiii m0 th aS aI im (nI a) (nI p0) (nI E) 1 3 aB aT se dn aG aO aN aD bv aY rn kd nu tv), (zaI aS cS 901 fS)]) [0, 1] rfl
        have hDc := hD.sub (ws' := [(zo14irriiiiiirriirrrrlriiii m0 th aS aI im (nI a) (nI p0) (nI E) 1 3 aB aT se dn aG aO aN aD bv aY rn kd nu tv), (zaI aS cS 901 fS)]) [0, 1] (by decide) rfl
        have hKc := hK.sub (tys' := [(cS, .int)]) [0] rfl
        have hFc := va_free (wc := [(zo14irriiiiiirriirrrrlriiii m0 th aS aI im (nI a) (nI p0) (nI E) 1 3 aB aT se dn aG aO aN aD bv aY rn kd nu tv), (zaI aS cS 901 fS)]) hD hS hA [0, 1] rfl
        refine va_calli (va_runV (As := []) (rest := []) ⟨hx, hb, hml, hown, hts⟩ (c_figures l dC dI m0 aS aI aB aT aG aO aN aD aY th im (nI a) (nI p0) (nI E) 1 3 se dn rn kd nu tv bv cS fS a p0 E H.size (by omega) (by omega) (by omega) (Or.inr rfl)) (cwV 0 hts gX12_factor_X12_figures rfl rfl rfl hd_yX12_figures ⟨Nat.le_of_ble_eq_true rfl, Nat.le_of_ble_eq_true rfl⟩) ⟨fun a U g mk q => by obtain ⟨q0, q1, qP, qK, qD⟩ := q; exact ⟨q0, q1, qP, va_K.moved (u := U) (U := U.calling g mk a) (Vm.Alike.refl U.vm) qK, qD⟩, va_recv hK hP (ci := 14) (q := (RX12, TX12, 23)) (q0 := 0) rfl rfl, fun U hU hW => ⟨rfl, by rw [hU], by rw [hU]; exact hPc, va_K.moved hW.alike hKc, hDc.weaken (fun _ _ _ _ => trivial)⟩⟩ rfl rfl hl.1 rfl (lv_room (Nat.le_of_ble_eq_true rfl)) dX12_factor_173 ⟨Nat.le_of_ble_eq_true rfl, Nat.le_of_ble_eq_true rfl⟩) hS (fun q _ h => hFc q h) hFc (fun r_40 u tC H1 locs htC hvm hw_41 hB hz1 hk1 hS => ?_)
        obtain ⟨sp9_42, wg9_43⟩ := u
        try dsimp only at hw_41 hB
        obtain ⟨hP1, hK1, hD1⟩ := hB
        rw [htC] at hP1
        have hK1 := va_K.moved hvm.symm hK1
        obtain ⟨hP, hD⟩ := va_join (wr := []) (w1 := [(zo14irriiiiiirriirrrrlriiii m0 th aS aI im (nI a) sp9_42 (nI E) wg9_43 3 aB aT se dn aG aO aN aD bv aY rn kd nu tv), (zaI aS cS 901 fS)]) hP hD [0, 1] [] rfl rfl (by decide) (by decide) hk1 hFc hP1 hD1
        have hK := (hK.sub (tys' := []) [] rfl).app hK1
        generalize H1 = H at hP hS ⊢
        have hP : va_P (dC, dI) vwCl [(zo14irriiiiiirriirrrrlriiii m0 th aS aI im (nI a) sp9_42 (nI E) wg9_43 3 aB aT se dn aG aO aN aD bv aY rn kd nu tv), (zaI aS cS 901 fS)] H := hP
        have hD : va_D A [(zo14irriiiiiirriirrrrlriiii m0 th aS aI im (nI a) sp9_42 (nI E) wg9_43 3 aB aT se dn aG aO aN aD bv aY rn kd nu tv), (zaI aS cS 901 fS)] := hD
        have hK : va_K (dC, dI) vwCl [(cS, .int)] s := hK
        obtain ⟨p_44, v_45, h_46, h_47, rfl, rfl, h_48, h_49, h_50⟩ := hw_41
        rcases h_49 with rfl | rfl
        · skip
          exact absurd (h_50 rfl).1 (by decide)
        · skip
          refine lv_istore (lv' := [(4, .int (nI v_45)), (3, .int 0), (2, .int (-1)), (1, .int r_2), (0, .ref m0)]) hx hb dX12_factor_176 hl (by decide) rfl (fun ls hl => ?_)
          refine lv_aload_n hx hb dX12_factor_178 rfl (lv_at hl 4 rfl) ?_
          refine lv_iload_n hx hb dX12_factor_179 rfl (lv_at hl 2 rfl) ?_
          refine lv_bipush (v := 8) hx hb dX12_factor_180 (by decide) ?_
          refine lv_iload_n hx hb dX12_factor_182 rfl (lv_at hl 1 rfl) ?_
          refine lv_imul hx hb dX12_factor_183 ?_
          refine qi_as (y := 0) (by decide) ?_
          refine lv_iadd hx hb dX12_factor_184 ?_
          refine qi_as (y := (-1)) (by decide) ?_
          refine lv_bipush (v := 32) hx hb dX12_factor_185 (by decide) ?_
          refine lv_iload hx hb dX12_factor_187 (lv_at hl 0 rfl) ?_
          refine lv_imul hx hb dX12_factor_189 ?_
          refine qi_as (y := nI (32 * v_45)) (pk_mul 32 v_45) ?_
          refine lv_iadd hx hb dX12_factor_190 ?_
          have hPc := hP.sub (ws' := [(zo14irriiiiiirriirrrrlriiii m0 th aS aI im (nI a) (nI p_44) (nI E) 1 3 aB aT se dn aG aO aN aD bv aY rn kd nu tv)]) [0] rfl
          have hKc := hK.sub (tys' := []) [] rfl
          refine va_csv (va_runV (As := [.int ((-1) + (nI (32 * v_45)))]) (rest := []) ⟨hx, hb, hml, hown, hts⟩ (c_emitsW l dC dI m0 aS aI aB aT aG aO aN aD aY th im (nI a) (nI p_44) (nI E) 1 3 se dn rn kd nu tv bv ((-1) + (nI (32 * v_45)))) (cwV 1 hts gX12_factor_X12_emits rfl rfl rfl hd_yX12_emits ⟨Nat.le_of_ble_eq_true rfl, Nat.le_of_ble_eq_true rfl⟩) ⟨fun a U g mk q => by obtain ⟨q0, qP, qK⟩ := q; exact ⟨q0, qP, va_K.moved (u := U) (U := U.calling g mk a) (Vm.Alike.refl U.vm) qK⟩, va_recv hK hP (ci := 14) (q := (RX12, TX12, 23)) (q0 := 0) rfl rfl, fun U hU hW => ⟨rfl, by rw [hU]; exact hPc, va_K.moved hW.alike hKc⟩⟩ rfl rfl hl.1 rfl (lv_room (Nat.le_of_ble_eq_true rfl)) dX12_factor_191 ⟨Nat.le_of_ble_eq_true rfl, Nat.le_of_ble_eq_true rfl⟩).run (fun hw_52 => ?_)
          rw [hQ]
          have hP9 := hP.sub (ws' := [(zo14irriiiiiirriirrrrlriiii m0 th aS aI im (nI a) (nI p_44) (nI E) 1 3 aB aT se dn aG aO aN aD bv aY rn kd nu tv), (zaI aS cS 901 fS)]) [0, 1] rfl
          have hD9 := hD.sub (ws' := [(zo14irriiiiiirriirrrrlriiii m0 th aS aI im (nI a) (nI p_44) (nI E) 1 3 aB aT se dn aG aO aN aD bv aY rn kd nu tv), (zaI aS cS 901 fS)]) [0, 1] (by decide) rfl
          have hK9 := hK.sub (tys' := [(cS, .int)]) [0] rfl
          exact W.vret hx hb hr (fun tQ htQ hWQ => ⟨⟨(fS, (nI p_44), 1), rfl, ⟨p_44, k, rfl, by omega, by omega, PF.rf, Or.inl rfl⟩, by rw [htQ]; exact hP9, va_K.moved hWQ.alike hK9, hD9⟩, hS.F htQ⟩) hS.2.2 dX12_factor_194
      · skip
        have hj_35 : j_34 < 6 := hj_35
        refine lv_istore_n (lv' := [(2, .int (nI j_34)), (1, .int r_2), (0, .ref m0)]) hx hb dX12_factor_118 rfl hl (by decide) rfl (fun ls hl => ?_)
        refine lv_aload_n hx hb dX12_factor_119 rfl (lv_at hl 2 rfl) ?_
        refine lv_iload_n hx hb dX12_factor_120 rfl (lv_at hl 0 rfl) ?_
        refine lv_iconst (v := (-1)) hx hb dX12_factor_121 (by decide) ?_
        refine lv_icmp_ne (tgt := 129) hx hb dX12_factor_122 (by decide) (fun c_53 => ?_) (fun c_53 => ?_)
        · skip
          refine lv_iconst (v := 0) hx hb dX12_factor_129 (by decide) ?_
          refine va_put (D := (dC, dI)) (ci := 14) (v := .int 0) (ty := .boolean) (C := RX12) (T := TX12) (N := 23) hx hb hts kc_factor3_0 tyX12 tyX12_ok nmX12 hown hK hP hD hS 0 rfl rfl 7 (by decide) (hts (.fieldLink RX12 65 "MistHeapsModel" "isWrong" "Z") kc_factor3_1) (fun _ h9 => h9) rfl (by decide +kernel) rfl rfl (Nat.le_of_ble_eq_true rfl) dX12_factor_130 (fun H locs hP hD hS => ?_)
          have hP : va_P (dC, dI) vwCl [(zo14irriiiiiirriirrrrlriiii m0 th aS aI im (nI a) (nI (p0 + 1)) (nI E) 0 3 aB aT se dn aG aO aN aD bv aY rn kd nu tv), (zaI aS cS 901 fS)] H := hP
          have hD : va_D A [(zo14irriiiiiirriirrrrlriiii m0 th aS aI im (nI a) (nI (p0 + 1)) (nI E) 0 3 aB aT se dn aG aO aN aD bv aY rn kd nu tv), (zaI aS cS 901 fS)] := hD
          refine lv_aload_n hx hb dX12_factor_133 rfl (lv_at hl 2 rfl) ?_
          refine va_get (D := (dC, dI)) (ci := 14) (v := .int 0) (C := RX12) (T := TX12) (N := 23) hx hb hts kc_factor3_0 hown hK hP 0 rfl rfl 7 (by decide) (hts (.fieldLink RX12 65 "MistHeapsModel" "isWrong" "Z") kc_factor3_1) (fun _ h9 => h9) rfl dX12_factor_134 ?_
          refine lv_if_eq (tgt := 144) hx hb dX12_factor_137 (by decide) (fun _ => ?_) (fun c_54 => absurd c_54 (by decide))
          refine lv_aload_n hx hb dX12_factor_144 rfl (lv_at hl 2 rfl) ?_
          refine va_ldcS hx hb hown (show vk_R RX12 107 "<=>" (sK 7) s from hE.1 7 (by decide)) dX12_factor_145 ?_
          have hPc := hP.sub (ws' := [(zo14irriiiiiirriirrrrlriiii m0 th aS aI im (nI a) (nI (p0 + 1)) (nI E) 0 3 aB aT se dn aG aO aN aD bv aY rn kd nu tv), (zaI aS cS 901 fS)]) [0, 1] rfl
          have hDc := hD.sub (ws' := [(zo14irriiiiiirriirrrrlriiii m0 th aS aI im (nI a) (nI (p0 + 1)) (nI E) 0 3 aB aT se dn aG aO aN aD bv aY rn kd nu tv), (zaI aS cS 901 fS)]) [0, 1] (by decide) rfl
          have hKc := hK.sub (tys' := [(cS, .int)]) [0] rfl
          have hFc := va_free (wc := [(zo14irriiiiiirriirrrrlriiii m0 th aS aI im (nI a) (nI (p0 + 1)) (nI E) 0 3 aB aT se dn aG aO aN aD bv aY rn kd nu tv), (zaI aS cS 901 fS)]) hD hS hA [0, 1] rfl
          refine va_calli (va_runV (As := [.ref (sK 7)]) (rest := []) ⟨hx, hb, hml, hown, hts⟩ (c_among l dC dI sK sV m0 aS aI aB aT aG aO aN aD aY th im (nI a) (nI (p0 + 1)) (nI E) 0 3 se dn rn kd nu tv bv cS fS a (p0 + 1) E 7 H.size (by omega) (by omega) (by omega) (by decide)) (cwV 1 hts gX12_factor_X12_among rfl rfl rfl hd_yX12_among ⟨Nat.le_of_ble_eq_true rfl, Nat.le_of_ble_eq_true rfl⟩) ⟨fun a U g mk q => by obtain ⟨q0, q1, qP, qK, qD, qhE⟩ := q; exact ⟨q0, q1, qP, va_K.moved (u := U) (U := U.calling g mk a) (Vm.Alike.refl U.vm) qK, qD, qhE.same rfl rfl⟩, va_recv hK hP (ci := 14) (q := (RX12, TX12, 23)) (q0 := 0) rfl rfl, fun U hU hW => ⟨rfl, by rw [hU], by rw [hU]; exact hPc, va_K.moved hW.alike hKc, hDc.weaken (fun _ _ _ _ => trivial), hE.call hS hU hW (fun q h => hFc q h)⟩⟩ rfl rfl hl.1 rfl (lv_room (Nat.le_of_ble_eq_true rfl)) dX12_factor_147 ⟨Nat.le_of_ble_eq_true rfl, Nat.le_of_ble_eq_true rfl⟩) hS (fun q _ h => hFc q h) hFc (fun r_55 u tC H1 locs htC hvm hw_56 hB hz1 hk1 hS => ?_)
          obtain ⟨sp9_57, rfl⟩ : ∃ z, z = u := ⟨_, rfl⟩
          try dsimp only at hw_56 hB
          obtain ⟨hP1, hK1, hD1⟩ := hB
          rw [htC] at hP1
          have hK1 := va_K.moved hvm.symm hK1
          obtain ⟨hP, hD⟩ := va_join (wr := []) (w1 := [(zo14irriiiiiirriirrrrlriiii m0 th aS aI im (nI a) sp9_57 (nI E) 0 3 aB aT se dn aG aO aN aD bv aY rn kd nu tv), (zaI aS cS 901 fS)]) hP hD [0, 1] [] rfl rfl (by decide) (by decide) hk1 hFc hP1 hD1
          have hK := (hK.sub (tys' := []) [] rfl).app hK1
          generalize H1 = H at hP hS ⊢
          have hP : va_P (dC, dI) vwCl [(zo14irriiiiiirriirrrrlriiii m0 th aS aI im (nI a) sp9_57 (nI E) 0 3 aB aT se dn aG aO aN aD bv aY rn kd nu tv), (zaI aS cS 901 fS)] H := hP
          have hD : va_D A [(zo14irriiiiiirriirrrrlriiii m0 th aS aI im (nI a) sp9_57 (nI E) 0 3 aB aT se dn aG aO aN aD bv aY rn kd nu tv), (zaI aS cS 901 fS)] := hD
          have hK : va_K (dC, dI) vwCl [(cS, .int)] s := hK
          rcases hw_56 with ⟨rfl, rfl⟩ | ⟨j_58, hj_59, rfl, h_60, rfl⟩
          · skip
            refine lv_istore_n (lv' := [(3, .int (-1)), (2, .int (nI j_34)), (1, .int r_2), (0, .ref m0)]) hx hb dX12_factor_150 rfl hl (by decide) rfl (fun ls hl => ?_)
            refine lv_aload_n hx hb dX12_factor_151 rfl (lv_at hl 3 rfl) ?_
            refine lv_aload_n hx hb dX12_factor_152 rfl (lv_at hl 3 rfl) ?_
            refine va_get (D := (dC, dI)) (ci := 14) (v := .int 0) (C := RX12) (T := TX12) (N := 23) hx hb hts kc_factor3_0 hown hK hP 0 rfl rfl 7 (by decide) (hts (.fieldLink RX12 65 "MistHeapsModel" "isWrong" "Z") kc_factor3_1) (fun _ h9 => h9) rfl dX12_factor_153 ?_
            refine lv_if_ne (tgt := 164) hx hb dX12_factor_156 (by decide) (fun c_61 => absurd c_61 (by decide)) (fun _ => ?_)
            refine lv_iload_n hx hb dX12_factor_159 rfl (lv_at hl 0 rfl) ?_
            refine lv_iconst (v := (-1)) hx hb dX12_factor_160 (by decide) ?_
            refine lv_icmp_ne (tgt := 168) hx hb dX12_factor_161 (by decide) (fun c_62 => absurd c_62 (by decide)) (fun _ => ?_)
            refine lv_iconst (v := 1) hx hb dX12_factor_164 (by decide) ?_
            refine lv_goto (tgt := 169) hx hb dX12_factor_165 (by decide) ?_
            refine va_put (D := (dC, dI)) (ci := 14) (v := .int 1) (ty := .boolean) (C := RX12) (T := TX12) (N := 23) hx hb hts kc_factor3_0 tyX12 tyX12_ok nmX12 hown hK hP hD hS 0 rfl rfl 7 (by decide) (hts (.fieldLink RX12 65 "MistHeapsModel" "isWrong" "Z") kc_factor3_1) (fun _ h9 => h9) rfl (by decide +kernel) rfl rfl (Nat.le_of_ble_eq_true rfl) dX12_factor_169 (fun H locs hP hD hS => ?_)
            have hP : va_P (dC, dI) vwCl [(zo14irriiiiiirriirrrrlriiii m0 th aS aI im (nI a) (nI (p0 + 1)) (nI E) 1 3 aB aT se dn aG aO aN aD bv aY rn kd nu tv), (zaI aS cS 901 fS)] H := hP
            have hD : va_D A [(zo14irriiiiiirriirrrrlriiii m0 th aS aI im (nI a) (nI (p0 + 1)) (nI E) 1 3 aB aT se dn aG aO aN aD bv aY rn kd nu tv), (zaI aS cS 901 fS)] := hD
            refine lv_aload_n hx hb dX12_factor_172 rfl (lv_at hl 3 rfl) ?_
            have hPc := hP.sub (ws' := [(zo14irriiiiiirriirrrrlriiii m0 th aS aI im (nI a) (nI (p0 + 1)) (nI E) 1 3 aB aT se dn aG aO aN aD bv aY rn kd nu tv), (zaI aS cS 901 fS)]) [0, 1] rfl
            have hDc := hD.sub (ws' := [(zo14irriiiiiirriirrrrlriiii m0 th aS aI im (nI a) (nI (p0 + 1)) (nI E) 1 3 aB aT se dn aG aO aN aD bv aY rn kd nu tv), (zaI aS cS 901 fS)]) [0, 1] (by decide) rfl
            have hKc := hK.sub (tys' := [(cS, .int)]) [0] rfl
            have hFc := va_free (wc := [(zo14irriiiiiirriirrrrlriiii m0 th aS aI im (nI a) (nI (p0 + 1)) (nI E) 1 3 aB aT se dn aG aO aN aD bv aY rn kd nu tv), (zaI aS cS 901 fS)]) hD hS hA [0, 1] rfl
            refine va_calli (va_runV (As := []) (rest := []) ⟨hx, hb, hml, hown, hts⟩ (c_figures l dC dI m0 aS aI aB aT aG aO aN aD aY th im (nI a) (nI (p0 + 1)) (nI E) 1 3 se dn rn kd nu tv bv cS fS a (p0 + 1) E H.size (by omega) (by omega) (by omega) (Or.inr rfl)) (cwV 0 hts gX12_factor_X12_figures rfl rfl rfl hd_yX12_figures ⟨Nat.le_of_ble_eq_true rfl, Nat.le_of_ble_eq_true rfl⟩) ⟨fun a U g mk q => by obtain ⟨q0, q1, qP, qK, qD⟩ := q; exact ⟨q0, q1, qP, va_K.moved (u := U) (U := U.calling g mk a) (Vm.Alike.refl U.vm) qK, qD⟩, va_recv hK hP (ci := 14) (q := (RX12, TX12, 23)) (q0 := 0) rfl rfl, fun U hU hW => ⟨rfl, by rw [hU], by rw [hU]; exact hPc, va_K.moved hW.alike hKc, hDc.weaken (fun _ _ _ _ => trivial)⟩⟩ rfl rfl hl.1 rfl (lv_room (Nat.le_of_ble_eq_true rfl)) dX12_factor_173 ⟨Nat.le_of_ble_eq_true rfl, Nat.le_of_ble_eq_true rfl⟩) hS (fun q _ h => hFc q h) hFc (fun r_63 u tC H1 locs htC hvm hw_64 hB hz1 hk1 hS => ?_)
            obtain ⟨sp9_65, wg9_66⟩ := u
            try dsimp only at hw_64 hB
            obtain ⟨hP1, hK1, hD1⟩ := hB
            rw [htC] at hP1
            have hK1 := va_K.moved hvm.symm hK1
            obtain ⟨hP, hD⟩ := va_join (wr := []) (w1 := [(zo14irriiiiiirriirrrrlriiii m0 th aS aI im (nI a) sp9_65 (nI E) wg9_66 3 aB aT se dn aG aO aN aD bv aY rn kd nu tv), (zaI aS cS 901 fS)]) hP hD [0, 1] [] rfl rfl (by decide) (by decide) hk1 hFc hP1 hD1
            have hK := (hK.sub (tys' := []) [] rfl).app hK1
            generalize H1 = H at hP hS ⊢
            have hP : va_P (dC, dI) vwCl [(zo14irriiiiiirriirrrrlriiii m0 th aS aI im (nI a) sp9_65 (nI E) wg9_66 3 aB aT se dn aG aO aN aD bv aY rn kd nu tv), (zaI aS cS 901 fS)] H := hP
            have hD : va_D A [(zo14irriiiiiirriirrrrlriiii m0 th aS aI im (nI a) sp9_65 (nI E) wg9_66 3 aB aT se dn aG aO aN aD bv aY rn kd nu tv), (zaI aS cS 901 fS)] := hD
            have hK : va_K (dC, dI) vwCl [(cS, .int)] s := hK
            obtain ⟨p_67, v_68, h_69, h_70, rfl, rfl, h_71, h_72, h_73⟩ := hw_64
            rcases h_72 with rfl | rfl
            · skip
              exact absurd (h_73 rfl).1 (by decide)
            · skip
              refine lv_istore (lv' := [(4, .int (nI v_68)), (3, .int (-1)), (2, .int (nI j_34)), (1, .int r_2), (0, .ref m0)]) hx hb dX12_factor_176 hl (by decide) rfl (fun ls hl => ?_)
              refine lv_aload_n hx hb dX12_factor_178 rfl (lv_at hl 4 rfl) ?_
              refine lv_iload_n hx hb dX12_factor_179 rfl (lv_at hl 2 rfl) ?_
              refine lv_bipush (v := 8) hx hb dX12_factor_180 (by decide) ?_
              refine lv_iload_n hx hb dX12_factor_182 rfl (lv_at hl 1 rfl) ?_
              refine lv_imul hx hb dX12_factor_183 ?_
              refine qi_as (y := (-8)) (by decide) ?_
              refine lv_iadd hx hb dX12_factor_184 ?_
              refine lv_bipush (v := 32) hx hb dX12_factor_185 (by decide) ?_
              refine lv_iload hx hb dX12_factor_187 (lv_at hl 0 rfl) ?_
              refine lv_imul hx hb dX12_factor_189 ?_
              refine qi_as (y := nI (32 * v_68)) (pk_mul 32 v_68) ?_
              refine lv_iadd hx hb dX12_factor_190 ?_
              have hPc := hP.sub (ws' := [(zo14irriiiiiirriirrrrlriiii m0 th aS aI im (nI a) (nI p_67) (nI E) 1 3 aB aT se dn aG aO aN aD bv aY rn kd nu tv)]) [0] rfl
              have hKc := hK.sub (tys' := []) [] rfl
              refine va_csv (va_runV (As := [.int (((nI j_34) + (-8)) + (nI (32 * v_68)))]) (rest := []) ⟨hx, hb, hml, hown, hts⟩ (c_emitsW l dC dI m0 aS aI aB aT aG aO aN aD aY th im (nI a) (nI p_67) (nI E) 1 3 se dn rn kd nu tv bv (((nI j_34) + (-8)) + (nI (32 * v_68)))) (cwV 1 hts gX12_factor_X12_emits rfl rfl rfl hd_yX12_emits ⟨Nat.le_of_ble_eq_true rfl, Nat.le_of_ble_eq_true rfl⟩) ⟨fun a U g mk q => by obtain ⟨q0, qP, qK⟩ := q; exact ⟨q0, qP, va_K.moved (u := U) (U := U.calling g mk a) (Vm.Alike.refl U.vm) qK⟩, va_recv hK hP (ci := 14) (q := (RX12, TX12, 23)) (q0 := 0) rfl rfl, fun U hU hW => ⟨rfl, by rw [hU]; exact hPc, va_K.moved hW.alike hKc⟩⟩ rfl rfl hl.1 rfl (lv_room (Nat.le_of_ble_eq_true rfl)) dX12_factor_191 ⟨Nat.le_of_ble_eq_true rfl, Nat.le_of_ble_eq_true rfl⟩).run (fun hw_75 => ?_)
              rw [hQ]
              have hP9 := hP.sub (ws' := [(zo14irriiiiiirriirrrrlriiii m0 th aS aI im (nI a) (nI p_67) (nI E) 1 3 aB aT se dn aG aO aN aD bv aY rn kd nu tv), (zaI aS cS 901 fS)]) [0, 1] rfl
              have hD9 := hD.sub (ws' := [(zo14irriiiiiirriirrrrlriiii m0 th aS aI im (nI a) (nI p_67) (nI E) 1 3 aB aT se dn aG aO aN aD bv aY rn kd nu tv), (zaI aS cS 901 fS)]) [0, 1] (by decide) rfl
              have hK9 := hK.sub (tys' := [(cS, .int)]) [0] rfl
              exact W.vret hx hb hr (fun tQ htQ hWQ => ⟨⟨(fS, (nI p_67), 1), rfl, ⟨p_67, k, rfl, by omega, by omega, PF.rf, Or.inl rfl⟩, by rw [htQ]; exact hP9, va_K.moved hWQ.alike hK9, hD9⟩, hS.F htQ⟩) hS.2.2 dX12_factor_194
          · skip
            have hj_59 : j_58 < 3 := hj_59
            refine lv_istore_n (lv' := [(3, .int (nI j_58)), (2, .int (nI j_34)), (1, .int r_2), (0, .ref m0)]) hx hb dX12_factor_150 rfl hl (by decide) rfl (fun ls hl => ?_)
            refine lv_aload_n hx hb dX12_factor_151 rfl (lv_at hl 3 rfl) ?_
            refine lv_aload_n hx hb dX12_factor_152 rfl (lv_at hl 3 rfl) ?_
            refine va_get (D := (dC, dI)) (ci := 14) (v := .int 0) (C := RX12) (T := TX12) (N := 23) hx hb hts kc_factor3_0 hown hK hP 0 rfl rfl 7 (by decide) (hts (.fieldLink RX12 65 "MistHeapsModel" "isWrong" "Z") kc_factor3_1) (fun _ h9 => h9) rfl dX12_factor_153 ?_
            refine lv_if_ne (tgt := 164) hx hb dX12_factor_156 (by decide) (fun c_76 => absurd c_76 (by decide)) (fun _ => ?_)
            refine lv_iload_n hx hb dX12_factor_159 rfl (lv_at hl 0 rfl) ?_
            refine lv_iconst (v := (-1)) hx hb dX12_factor_160 (by decide) ?_
            refine lv_icmp_ne (tgt := 168) hx hb dX12_factor_161 (by decide) (fun c_77 => ?_) (fun c_77 => ?_)
            · skip
              refine lv_iconst (v := 0) hx hb dX12_factor_168 (by decide) ?_
              refine va_put (D := (dC, dI)) (ci := 14) (v := .int 0) (ty := .boolean) (C := RX12) (T := TX12) (N := 23) hx hb hts kc_factor3_0 tyX12 tyX12_ok nmX12 hown hK hP hD hS 0 rfl rfl 7 (by decide) (hts (.fieldLink RX12 65 "MistHeapsModel" "isWrong" "Z") kc_factor3_1) (fun _ h9 => h9) rfl (by decide +kernel) rfl rfl (Nat.le_of_ble_eq_true rfl) dX12_factor_169 (fun H locs hP hD hS => ?_)
              have hP : va_P (dC, dI) vwCl [(zo14irriiiiiirriirrrrlriiii m0 th aS aI im (nI a) (nI ((p0 + 1) + 1)) (nI E) 0 3 aB aT se dn aG aO aN aD bv aY rn kd nu tv), (zaI aS cS 901 fS)] H := hP
              have hD : va_D A [(zo14irriiiiiirriirrrrlriiii m0 th aS aI im (nI a) (nI ((p0 + 1) + 1)) (nI E) 0 3 aB aT se dn aG aO aN aD bv aY rn kd nu tv), (zaI aS cS 901 fS)] := hD
              refine lv_aload_n hx hb dX12_factor_172 rfl (lv_at hl 3 rfl) ?_
              have hPc := hP.sub (ws' := [(zo14irriiiiiirriirrrrlriiii m0 th aS aI im (nI a) (nI ((p0 + 1) + 1)) (nI E) 0 3 aB aT se dn aG aO aN aD bv aY rn kd nu tv), (zaI aS cS 901 fS)]) [0, 1] rfl
              have hDc := hD.sub (ws' := [(zo14irriiiiiirriirrrrlriiii m0 th aS aI im (nI a) (nI ((p0 + 1) + 1)) (nI E) 0 3 aB aT se dn aG aO aN aD bv aY rn kd nu tv), (zaI aS cS 901 fS)]) [0, 1] (by decide) rfl
              have hKc := hK.sub (tys' := [(cS, .int)]) [0] rfl
              have hFc := va_free (wc := [(zo14irriiiiiirriirrrrlriiii m0 th aS aI im (nI a) (nI ((p0 + 1) + 1)) (nI E) 0 3 aB aT se dn aG aO aN aD bv aY rn kd nu tv), (zaI aS cS 901 fS)]) hD hS hA [0, 1] rfl
              refine va_calli (va_runV (As := []) (rest := []) ⟨hx, hb, hml, hown, hts⟩ (c_figures l dC dI m0 aS aI aB aT aG aO aN aD aY th im (nI a) (nI ((p0 + 1) + 1)) (nI E) 0 3 se dn rn kd nu tv bv cS fS a ((p0 + 1) + 1) E H.size (by omega) (by omega) (by omega) (Or.inl rfl)) (cwV 0 hts gX12_factor_X12_figures rfl rfl rfl hd_yX12_figures ⟨Nat.le_of_ble_eq_true rfl, Nat.le_of_ble_eq_true rfl⟩) ⟨fun a U g mk q => by obtain ⟨q0, q1, qP, qK, qD⟩ := q; exact ⟨q0, q1, qP, va_K.moved (u := U) (U := U.calling g mk a) (Vm.Alike.refl U.vm) qK, qD⟩, va_recv hK hP (ci := 14) (q := (RX12, TX12, 23)) (q0 := 0) rfl rfl, fun U hU hW => ⟨rfl, by rw [hU], by rw [hU]; exact hPc, va_K.moved hW.alike hKc, hDc.weaken (fun _ _ _ _ => trivial)⟩⟩ rfl rfl hl.1 rfl (lv_room (Nat.le_of_ble_eq_true rfl)) dX12_factor_173 ⟨Nat.le_of_ble_eq_true rfl, Nat.le_of_ble_eq_true rfl⟩) hS (fun q _ h => hFc q h) hFc (fun r_78 u tC H1 locs htC hvm hw_79 hB hz1 hk1 hS => ?_)
              obtain ⟨sp9_80, wg9_81⟩ := u
              try dsimp only at hw_79 hB
              obtain ⟨hP1, hK1, hD1⟩ := hB
              rw [htC] at hP1
              have hK1 := va_K.moved hvm.symm hK1
              obtain ⟨hP, hD⟩ := va_join (wr := []) (w1 := [(zo14irriiiiiirriirrrrlriiii m0 th aS aI im (nI a) sp9_80 (nI E) wg9_81 3 aB aT se dn aG aO aN aD bv aY rn kd nu tv), (zaI aS cS 901 fS)]) hP hD [0, 1] [] rfl rfl (by decide) (by decide) hk1 hFc hP1 hD1
              have hK := (hK.sub (tys' := []) [] rfl).app hK1
              generalize H1 = H at hP hS ⊢
              have hP : va_P (dC, dI) vwCl [(zo14irriiiiiirriirrrrlriiii m0 th aS aI im (nI a) sp9_80 (nI E) wg9_81 3 aB aT se dn aG aO aN aD bv aY rn kd nu tv), (zaI aS cS 901 fS)] H := hP
              have hD : va_D A [(zo14irriiiiiirriirrrrlriiii m0 th aS aI im (nI a) sp9_80 (nI E) wg9_81 3 aB aT se dn aG aO aN aD bv aY rn kd nu tv), (zaI aS cS 901 fS)] := hD
              have hK : va_K (dC, dI) vwCl [(cS, .int)] s := hK
              obtain ⟨p_82, v_83, h_84, h_85, rfl, rfl, h_86, h_87, h_88⟩ := hw_79
              rcases h_87 with rfl | rfl
              · skip
                obtain ⟨h_88, h_88b⟩ := h_88 rfl
                refine lv_istore (lv' := [(4, .int (nI v_83)), (3, .int (nI j_58)), (2, .int (nI j_34)), (1, .int r_2), (0, .ref m0)]) hx hb dX12_factor_176 hl (by decide) rfl (fun ls hl => ?_)
                refine lv_aload_n hx hb dX12_factor_178 rfl (lv_at hl 4 rfl) ?_
                refine lv_iload_n hx hb dX12_factor_179 rfl (lv_at hl 2 rfl) ?_
                refine lv_bipush (v := 8) hx hb dX12_factor_180 (by decide) ?_
                refine lv_iload_n hx hb dX12_factor_182 rfl (lv_at hl 1 rfl) ?_
                refine lv_imul hx hb dX12_factor_183 ?_
                refine qi_as (y := nI (8 * j_58)) (pk_mul 8 j_58) ?_
                refine lv_iadd hx hb dX12_factor_184 ?_
                refine qi_as (y := nI (j_34 + (8 * j_58))) (nI_add j_34 (8 * j_58)) ?_
                refine lv_bipush (v := 32) hx hb dX12_factor_185 (by decide) ?_
                refine lv_iload hx hb dX12_factor_187 (lv_at hl 0 rfl) ?_
                refine lv_imul hx hb dX12_factor_189 ?_
                refine qi_as (y := nI (32 * v_83)) (pk_mul 32 v_83) ?_
                refine lv_iadd hx hb dX12_factor_190 ?_
                refine qi_as (y := nI ((j_34 + (8 * j_58)) + (32 * v_83))) (nI_add (j_34 + (8 * j_58)) (32 * v_83)) ?_
                have hPc := hP.sub (ws' := [(zo14irriiiiiirriirrrrlriiii m0 th aS aI im (nI a) (nI p_82) (nI E) 0 3 aB aT se dn aG aO aN aD bv aY rn kd nu tv), (zaI aS cS 901 fS)]) [0, 1] rfl
                have hDc := hD.sub (ws' := [(zo14irriiiiiirriirrrrlriiii m0 th aS aI im (nI a) (nI p_82) (nI E) 0 3 aB aT se dn aG aO aN aD bv aY rn kd nu tv), (zaI aS cS 901 fS)]) [0, 1] (by decide) rfl
                have hKc := hK.sub (tys' := [(cS, .int)]) [0] rfl
                have hFc := va_free (wc := [(zo14irriiiiiirriirrrrlriiii m0 th aS aI im (nI a) (nI p_82) (nI E) 0 3 aB aT se dn aG aO aN aD bv aY rn kd nu tv), (zaI aS cS 901 fS)]) hD hS hA [0, 1] rfl
                refine va_callv (va_runV (As := [.int (nI ((j_34 + (8 * j_58)) + (32 * v_83)))]) (rest := []) ⟨hx, hb, hml, hown, hts⟩ (c_emits l dC dI m0 aS aI aB aT aG aO aN aD aY th im (nI a) (nI p_82) (nI E) 0 3 se dn rn kd nu tv bv cS fS a k (nI ((j_34 + (8 * j_58)) + (32 * v_83))) H.size (ga) ((gI).2.2.2.1) (by have := (gI).2.2.2.2.1; omega)) (cwV 1 hts gX12_factor_X12_emits rfl rfl rfl hd_yX12_emits ⟨Nat.le_of_ble_eq_true rfl, Nat.le_of_ble_eq_true rfl⟩) ⟨fun a U g mk q => by obtain ⟨q0, q1, qP, qK, qD⟩ := q; exact ⟨q0, q1, qP, va_K.moved (u := U) (U := U.calling g mk a) (Vm.Alike.refl U.vm) qK, qD⟩, va_recv hK hP (ci := 14) (q := (RX12, TX12, 23)) (q0 := 0) rfl rfl, fun U hU hW => ⟨rfl, by rw [hU], by rw [hU]; exact hPc, va_K.moved hW.alike hKc, hDc.weaken (fun _ _ _ _ => trivial)⟩⟩ rfl rfl hl.1 rfl (lv_room (Nat.le_of_ble_eq_true rfl)) dX12_factor_191 ⟨Nat.le_of_ble_eq_true rfl, Nat.le_of_ble_eq_true rfl⟩) hS (fun q _ h => hFc q h) hFc (fun u tC H1 locs htC hvm hw_90 hB hz1 hk1 hS => ?_)
                obtain ⟨fS9_91, rfl⟩ : ∃ z, z = u := ⟨_, rfl⟩
                try dsimp only at hw_90 hB
                obtain ⟨hP1, hK1, hD1⟩ := hB
                rw [htC] at hP1
                have hK1 := va_K.moved hvm.symm hK1
                obtain ⟨hP, hD⟩ := va_join (wr := []) (w1 := [(zo14irriiiiiirriirrrrlriiii m0 th aS aI im (nI a) (nI p_82) (nI E) 0 3 aB aT se dn aG aO aN aD bv aY rn kd nu tv), (zaI aS cS 901 fS9_91)]) hP hD [0, 1] [] rfl rfl (by decide) (by decide) hk1 hFc hP1 hD1
                have hK := (hK.sub (tys' := []) [] rfl).app hK1
                generalize H1 = H at hP hS ⊢
                have hP : va_P (dC, dI) vwCl [(zo14irriiiiiirriirrrrlriiii m0 th aS aI im (nI a) (nI p_82) (nI E) 0 3 aB aT se dn aG aO aN aD bv aY rn kd nu tv), (zaI aS cS 901 fS9_91)] H := hP
                have hD : va_D A [(zo14irriiiiiirriirrrrlriiii m0 th aS aI im (nI a) (nI p_82) (nI E) 0 3 aB aT se dn aG aO aN aD bv aY rn kd nu tv), (zaI aS cS 901 fS9_91)] := hD
                have hK : va_K (dC, dI) vwCl [(cS, .int)] s := hK
                obtain rfl : fS9_91 = emt fS a k (nI ((j_34 + (8 * j_58)) + (32 * v_83))) := by rcases hw_90 with ⟨q, _⟩ | ⟨_, q⟩; exact absurd rfl q; exact q
                have hI_93 : PI (emt fS a k (nI ((j_34 + (8 * j_58)) + (32 * v_83)))) a (k + 1) (d + 1) p_82 E := ((gI).mono (by omega) (by omega)).em (by omega) (by omega) (stepd_test (by omega) (by omega) (by omega) (by omega))
                have hF_94 : PF a fS (emt fS a k (nI ((j_34 + (8 * j_58)) + (32 * v_83)))) := (PF.rf).tr (PF_emt (k := k) (x := nI ((j_34 + (8 * j_58)) + (32 * v_83))) ga (by have := (gI).2.2.2.2.1; omega))
                rw [hQ]
                have hP9 := hP.sub (ws' := [(zo14irriiiiiirriirrrrlriiii m0 th aS aI im (nI a) (nI p_82) (nI E) 0 3 aB aT se dn aG aO aN aD bv aY rn kd nu tv), (zaI aS cS 901 (emt fS a k (nI ((j_34 + (8 * j_58)) + (32 * v_83)))))]) [0, 1] rfl
                have hD9 := hD.sub (ws' := [(zo14irriiiiiirriirrrrlriiii m0 th aS aI im (nI a) (nI p_82) (nI E) 0 3 aB aT se dn aG aO aN aD bv aY rn kd nu tv), (zaI aS cS 901 (emt fS a k (nI ((j_34 + (8 * j_58)) + (32 * v_83)))))]) [0, 1] (by decide) rfl
                have hK9 := hK.sub (tys' := [(cS, .int)]) [0] rfl
                exact W.vret hx hb hr (fun tQ htQ hWQ => ⟨⟨((emt fS a k (nI ((j_34 + (8 * j_58)) + (32 * v_83)))), (nI p_82), 0), rfl, ⟨p_82, (k + 1), rfl, by omega, by omega, hF_94, Or.inr ⟨rfl, by omega, (hI_93).mono (by omega) (by omega), by omega⟩⟩, by rw [htQ]; exact hP9, va_K.moved hWQ.alike hK9, hD9⟩, hS.F htQ⟩) hS.2.2 dX12_factor_194
              · skip
                refine lv_istore (lv' := [(4, .int (nI v_83)), (3, .int (nI j_58)), (2, .int (nI j_34)), (1, .int r_2), (0, .ref m0)]) hx hb dX12_factor_176 hl (by decide) rfl (fun ls hl => ?_)
                refine lv_aload_n hx hb dX12_factor_178 rfl (lv_at hl 4 rfl) ?_
                refine lv_iload_n hx hb dX12_factor_179 rfl (lv_at hl 2 rfl) ?_
                refine lv_bipush (v := 8) hx hb dX12_factor_180 (by decide) ?_
                refine lv_iload_n hx hb dX12_factor_182 rfl (lv_at hl 1 rfl) ?_
                refine lv_imul hx hb dX12_factor_183 ?_
                refine qi_as (y := nI (8 * j_58)) (pk_mul 8 j_58) ?_
                refine lv_iadd hx hb dX12_factor_184 ?_
                refine qi_as (y := nI (j_34 + (8 * j_58))) (nI_add j_34 (8 * j_58)) ?_
                refine lv_bipush (v := 32) hx hb dX12_factor_185 (by decide) ?_
                refine lv_iload hx hb dX12_factor_187 (lv_at hl 0 rfl) ?_
                refine lv_imul hx hb dX12_factor_189 ?_
                refine qi_as (y := nI (32 * v_83)) (pk_mul 32 v_83) ?_
                refine lv_iadd hx hb dX12_factor_190 ?_
                refine qi_as (y := nI ((j_34 + (8 * j_58)) + (32 * v_83))) (nI_add (j_34 + (8 * j_58)) (32 * v_83)) ?_
                have hPc := hP.sub (ws' := [(zo14irriiiiiirriirrrrlriiii m0 th aS aI im (nI a) (nI p_82) (nI E) 1 3 aB aT se dn aG aO aN aD bv aY rn kd nu tv)]) [0] rfl
                have hKc := hK.sub (tys' := []) [] rfl
                refine va_csv (va_runV (As := [.int (nI ((j_34 + (8 * j_58)) + (32 * v_83)))]) (rest := []) ⟨hx, hb, hml, hown, hts⟩ (c_emitsW l dC dI m0 aS aI aB aT aG aO aN aD aY th im (nI a) (nI p_82) (nI E) 1 3 se dn rn kd nu tv bv (nI ((j_34 + (8 * j_58)) + (32 * v_83)))) (cwV 1 hts gX12_factor_X12_emits rfl rfl rfl hd_yX12_emits ⟨Nat.le_of_ble_eq_true rfl, Nat.le_of_ble_eq_true rfl⟩) ⟨fun a U g mk q => by obtain ⟨q0, qP, qK⟩ := q; exact ⟨q0, qP, va_K.moved (u := U) (U := U.calling g mk a) (Vm.Alike.refl U.vm) qK⟩, va_recv hK hP (ci := 14) (q := (RX12, TX12, 23)) (q0 := 0) rfl rfl, fun U hU hW => ⟨rfl, by rw [hU]; exact hPc, va_K.moved hW.alike hKc⟩⟩ rfl rfl hl.1 rfl (lv_room (Nat.le_of_ble_eq_true rfl)) dX12_factor_191 ⟨Nat.le_of_ble_eq_true rfl, Nat.le_of_ble_eq_true rfl⟩).run (fun hw_96 => ?_)
                rw [hQ]
                have hP9 := hP.sub (ws' := [(zo14irriiiiiirriirrrrlriiii m0 th aS aI im (nI a) (nI p_82) (nI E) 1 3 aB aT se dn aG aO aN aD bv aY rn kd nu tv), (zaI aS cS 901 fS)]) [0, 1] rfl
                have hD9 := hD.sub (ws' := [(zo14irriiiiiirriirrrrlriiii m0 th aS aI im (nI a) (nI p_82) (nI E) 1 3 aB aT se dn aG aO aN aD bv aY rn kd nu tv), (zaI aS cS 901 fS)]) [0, 1] (by decide) rfl
                have hK9 := hK.sub (tys' := [(cS, .int)]) [0] rfl
                exact W.vret hx hb hr (fun tQ htQ hWQ => ⟨⟨(fS, (nI p_82), 1), rfl, ⟨p_82, k, rfl, by omega, by omega, PF.rf, Or.inl rfl⟩, by rw [htQ]; exact hP9, va_K.moved hWQ.alike hK9, hD9⟩, hS.F htQ⟩) hS.2.2 dX12_factor_194
            · skip
              refine lv_iconst (v := 1) hx hb dX12_factor_164 (by decide) ?_
              refine lv_goto (tgt := 169) hx hb dX12_factor_165 (by decide) ?_
              refine va_put (D := (dC, dI)) (ci := 14) (v := .int 1) (ty := .boolean) (C := RX12) (T := TX12) (N := 23) hx hb hts kc_factor3_0 tyX12 tyX12_ok nmX12 hown hK hP hD hS 0 rfl rfl 7 (by decide) (hts (.fieldLink RX12 65 "MistHeapsModel" "isWrong" "Z") kc_factor3_1) (fun _ h9 => h9) rfl (by decide +kernel) rfl rfl (Nat.le_of_ble_eq_true rfl) dX12_factor_169 (fun H locs hP hD hS => ?_)
              have hP : va_P (dC, dI) vwCl [(zo14irriiiiiirriirrrrlriiii m0 th aS aI im (nI a) (nI ((p0 + 1) + 1)) (nI E) 1 3 aB aT se dn aG aO aN aD bv aY rn kd nu tv), (zaI aS cS 901 fS)] H := hP
              have hD : va_D A [(zo14irriiiiiirriirrrrlriiii m0 th aS aI im (nI a) (nI ((p0 + 1) + 1)) (nI E) 1 3 aB aT se dn aG aO aN aD bv aY rn kd nu tv), (zaI aS cS 901 fS)] := hD
              refine lv_aload_n hx hb dX12_factor_172 rfl (lv_at hl 3 rfl) ?_
              have hPc := hP.sub (ws' := [(zo14irriiiiiirriirrrrlriiii m0 th aS aI im (nI a) (nI ((p0 + 1) + 1)) (nI E) 1 3 aB aT se dn aG aO aN aD bv aY rn kd nu tv), (zaI aS cS 901 fS)]) [0, 1] rfl
              have hDc := hD.sub (ws' := [(zo14irriiiiiirriirrrrlriiii m0 th aS aI im (nI a) (nI ((p0 + 1) + 1)) (nI E) 1 3 aB aT se dn aG aO aN aD bv aY rn kd nu tv), (zaI aS cS 901 fS)]) [0, 1] (by decide) rfl
              have hKc := hK.sub (tys' := [(cS, .int)]) [0] rfl
              have hFc := va_free (wc := [(zo14irriiiiiirriirrrrlriiii m0 th aS aI im (nI a) (nI ((p0 + 1) + 1)) (nI E) 1 3 aB aT se dn aG aO aN aD bv aY rn kd nu tv), (zaI aS cS 901 fS)]) hD hS hA [0, 1] rfl
              refine va_calli (va_runV (As := []) (rest := []) ⟨hx, hb, hml, hown, hts⟩ (c_figures l dC dI m0 aS aI aB aT aG aO aN aD aY th im (nI a) (nI ((p0 + 1) + 1)) (nI E) 1 3 se dn rn kd nu tv bv cS fS a ((p0 + 1) + 1) E H.size (by omega) (by omega) (by omega) (Or.inr rfl)) (cwV 0 hts gX12_factor_X12_figures rfl rfl rfl hd_yX12_figures ⟨Nat.le_of_ble_eq_true rfl, Nat.le_of_ble_eq_true rfl⟩) ⟨fun a U g mk q => by obtain ⟨q0, q1, qP, qK, qD⟩ := q; exact ⟨q0, q1, qP, va_K.moved (u := U) (U := U.calling g mk a) (Vm.Alike.refl U.vm) qK, qD⟩, va_recv hK hP (ci := 14) (q := (RX12, TX12, 23)) (q0 := 0) rfl rfl, fun U hU hW => ⟨rfl, by rw [hU], by rw [hU]; exact hPc, va_K.moved hW.alike hKc, hDc.weaken (fun _ _ _ _ => trivial)⟩⟩ rfl rfl hl.1 rfl (lv_room (Nat.le_of_ble_eq_true rfl)) dX12_factor_173 ⟨Nat.le_of_ble_eq_true rfl, Nat.le_of_ble_eq_true rfl⟩) hS (fun q _ h => hFc q h) hFc (fun r_97 u tC H1 locs htC hvm hw_98 hB hz1 hk1 hS => ?_)
              obtain ⟨sp9_99, wg9_100⟩ := u
              try dsimp only at hw_98 hB
              obtain ⟨hP1, hK1, hD1⟩ := hB
              rw [htC] at hP1
              have hK1 := va_K.moved hvm.symm hK1
              obtain ⟨hP, hD⟩ := va_join (wr := []) (w1 := [(zo14irriiiiiirriirrrrlriiii m0 th aS aI im (nI a) sp9_99 (nI E) wg9_100 3 aB aT se dn aG aO aN aD bv aY rn kd nu tv), (zaI aS cS 901 fS)]) hP hD [0, 1] [] rfl rfl (by decide) (by decide) hk1 hFc hP1 hD1
              have hK := (hK.sub (tys' := []) [] rfl).app hK1
              generalize H1 = H at hP hS ⊢
              have hP : va_P (dC, dI) vwCl [(zo14irriiiiiirriirrrrlriiii m0 th aS aI im (nI a) sp9_99 (nI E) wg9_100 3 aB aT se dn aG aO aN aD bv aY rn kd nu tv), (zaI aS cS 901 fS)] H := hP
              have hD : va_D A [(zo14irriiiiiirriirrrrlriiii m0 th aS aI im (nI a) sp9_99 (nI E) wg9_100 3 aB aT se dn aG aO aN aD bv aY rn kd nu tv), (zaI aS cS 901 fS)] := hD
              have hK : va_K (dC, dI) vwCl [(cS, .int)] s := hK
              obtain ⟨p_101, v_102, h_103, h_104, rfl, rfl, h_105, h_106, h_107⟩ := hw_98
              rcases h_106 with rfl | rfl
              · skip
                exact absurd (h_107 rfl).1 (by decide)
              · skip
                refine lv_istore (lv' := [(4, .int (nI v_102)), (3, .int (nI j_58)), (2, .int (nI j_34)), (1, .int r_2), (0, .ref m0)]) hx hb dX12_factor_176 hl (by decide) rfl (fun ls hl => ?_)
                refine lv_aload_n hx hb dX12_factor_178 rfl (lv_at hl 4 rfl) ?_
                refine lv_iload_n hx hb dX12_factor_179 rfl (lv_at hl 2 rfl) ?_
                refine lv_bipush (v := 8) hx hb dX12_factor_180 (by decide) ?_
                refine lv_iload_n hx hb dX12_factor_182 rfl (lv_at hl 1 rfl) ?_
                refine lv_imul hx hb dX12_factor_183 ?_
                refine qi_as (y := nI (8 * j_58)) (pk_mul 8 j_58) ?_
                refine lv_iadd hx hb dX12_factor_184 ?_
                refine qi_as (y := nI (j_34 + (8 * j_58))) (nI_add j_34 (8 * j_58)) ?_
                refine lv_bipush (v := 32) hx hb dX12_factor_185 (by decide) ?_
                refine lv_iload hx hb dX12_factor_187 (lv_at hl 0 rfl) ?_
                refine lv_imul hx hb dX12_factor_189 ?_
                refine qi_as (y := nI (32 * v_102)) (pk_mul 32 v_102) ?_
                refine lv_iadd hx hb dX12_factor_190 ?_
                refine qi_as (y := nI ((j_34 + (8 * j_58)) + (32 * v_102))) (nI_add (j_34 + (8 * j_58)) (32 * v_102)) ?_
                have hPc := hP.sub (ws' := [(zo14irriiiiiirriirrrrlriiii m0 th aS aI im (nI a) (nI p_101) (nI E) 1 3 aB aT se dn aG aO aN aD bv aY rn kd nu tv)]) [0] rfl
                have hKc := hK.sub (tys' := []) [] rfl
                refine va_csv (va_runV (As := [.int (nI ((j_34 + (8 * j_58)) + (32 * v_102)))]) (rest := []) ⟨hx, hb, hml, hown, hts⟩ (c_emitsW l dC dI m0 aS aI aB aT aG aO aN aD aY th im (nI a) (nI p_101) (nI E) 1 3 se dn rn kd nu tv bv (nI ((j_34 + (8 * j_58)) + (32 * v_102)))) (cwV 1 hts gX12_factor_X12_emits rfl rfl rfl hd_yX12_emits ⟨Nat.le_of_ble_eq_true rfl, Nat.le_of_ble_eq_true rfl⟩) ⟨fun a U g mk q => by obtain ⟨q0, qP, qK⟩ := q; exact ⟨q0, qP, va_K.moved (u := U) (U := U.calling g mk a) (Vm.Alike.refl U.vm) qK⟩, va_recv hK hP (ci := 14) (q := (RX12, TX12, 23)) (q0 := 0) rfl rfl, fun U hU hW => ⟨rfl, by rw [hU]; exact hPc, va_K.moved hW.alike hKc⟩⟩ rfl rfl hl.1 rfl (lv_room (Nat.le_of_ble_eq_true rfl)) dX12_factor_191 ⟨Nat.le_of_ble_eq_true rfl, Nat.le_of_ble_eq_true rfl⟩).run (fun hw_109 => ?_)
                rw [hQ]
                have hP9 := hP.sub (ws' := [(zo14irriiiiiirriirrrrlriiii m0 th aS aI im (nI a) (nI p_101) (nI E) 1 3 aB aT se dn aG aO aN aD bv aY rn kd nu tv), (zaI aS cS 901 fS)]) [0, 1] rfl
                have hD9 := hD.sub (ws' := [(zo14irriiiiiirriirrrrlriiii m0 th aS aI im (nI a) (nI p_101) (nI E) 1 3 aB aT se dn aG aO aN aD bv aY rn kd nu tv), (zaI aS cS 901 fS)]) [0, 1] (by decide) rfl
                have hK9 := hK.sub (tys' := [(cS, .int)]) [0] rfl
                exact W.vret hx hb hr (fun tQ htQ hWQ => ⟨⟨(fS, (nI p_101), 1), rfl, ⟨p_101, k, rfl, by omega, by omega, PF.rf, Or.inl rfl⟩, by rw [htQ]; exact hP9, va_K.moved hWQ.alike hK9, hD9⟩, hS.F htQ⟩) hS.2.2 dX12_factor_194
        · skip
          refine lv_iconst (v := 1) hx hb dX12_factor_125 (by decide) ?_
          refine lv_goto (tgt := 130) hx hb dX12_factor_126 (by decide) ?_
          refine va_put (D := (dC, dI)) (ci := 14) (v := .int 1) (ty := .boolean) (C := RX12) (T := TX12) (N := 23) hx hb hts kc_factor3_0 tyX12 tyX12_ok nmX12 hown hK hP hD hS 0 rfl rfl 7 (by decide) (hts (.fieldLink RX12 65 "MistHeapsModel" "isWrong" "Z") kc_factor3_1) (fun _ h9 => h9) rfl (by decide +kernel) rfl rfl (Nat.le_of_ble_eq_true rfl) dX12_factor_130 (fun H locs hP hD hS => ?_)
          have hP : va_P (dC, dI) vwCl [(zo14irriiiiiirriirrrrlriiii m0 th aS aI im (nI a) (nI (p0 + 1)) (nI E) 1 3 aB aT se dn aG aO aN aD bv aY rn kd nu tv), (zaI aS cS 901 fS)] H := hP
          have hD : va_D A [(zo14irriiiiiirriirrrrlriiii m0 th aS aI im (nI a) (nI (p0 + 1)) (nI E) 1 3 aB aT se dn aG aO aN aD bv aY rn kd nu tv), (zaI aS cS 901 fS)] := hD
          refine lv_aload_n hx hb dX12_factor_133 rfl (lv_at hl 2 rfl) ?_
          refine va_get (D := (dC, dI)) (ci := 14) (v := .int 1) (C := RX12) (T := TX12) (N := 23) hx hb hts kc_factor3_0 hown hK hP 0 rfl rfl 7 (by decide) (hts (.fieldLink RX12 65 "MistHeapsModel" "isWrong" "Z") kc_factor3_1) (fun _ h9 => h9) rfl dX12_factor_134 ?_
          refine lv_if_eq (tgt := 144) hx hb dX12_factor_137 (by decide) (fun c_110 => absurd c_110 (by decide)) (fun _ => ?_)
          refine lv_iconst (v := 0) hx hb dX12_factor_140 (by decide) ?_
          refine lv_goto (tgt := 150) hx hb dX12_factor_141 (by decide) ?_
          refine lv_istore_n (lv' := [(3, .int 0), (2, .int (nI j_34)), (1, .int r_2), (0, .ref m0)]) hx hb dX12_factor_150 rfl hl (by decide) rfl (fun ls hl => ?_)
          refine lv_aload_n hx hb dX12_factor_151 rfl (lv_at hl 3 rfl) ?_
          refine lv_aload_n hx hb dX12_factor_152 rfl (lv_at hl 3 rfl) ?_
          refine va_get (D := (dC, dI)) (ci := 14) (v := .int 1) (C := RX12) (T := TX12) (N := 23) hx hb hts kc_factor3_0 hown hK hP 0 rfl rfl 7 (by decide) (hts (.fieldLink RX12 65 "MistHeapsModel" "isWrong" "Z") kc_factor3_1) (fun _ h9 => h9) rfl dX12_factor_153 ?_
          refine lv_if_ne (tgt := 164) hx hb dX12_factor_156 (by decide) (fun _ => ?_) (fun c_111 => absurd c_111 (by decide))
          refine lv_iconst (v := 1) hx hb dX12_factor_164 (by decide) ?_
          refine lv_goto (tgt := 169) hx hb dX12_factor_165 (by decide) ?_
          refine va_put (D := (dC, dI)) (ci := 14) (v := .int 1) (ty := .boolean) (C := RX12) (T := TX12) (N := 23) hx hb hts kc_factor3_0 tyX12 tyX12_ok nmX12 hown hK hP hD hS 0 rfl rfl 7 (by decide) (hts (.fieldLink RX12 65 "MistHeapsModel" "isWrong" "Z") kc_factor3_1) (fun _ h9 => h9) rfl (by decide +kernel) rfl rfl (Nat.le_of_ble_eq_true rfl) dX12_factor_169 (fun H locs hP hD hS => ?_)
          have hP : va_P (dC, dI) vwCl [(zo14irriiiiiirriirrrrlriiii m0 th aS aI im (nI a) (nI (p0 + 1)) (nI E) 1 3 aB aT se dn aG aO aN aD bv aY rn kd nu tv), (zaI aS cS 901 fS)] H := hP
          have hD : va_D A [(zo14irriiiiiirriirrrrlriiii m0 th aS aI im (nI a) (nI (p0 + 1)) (nI E) 1 3 aB aT se dn aG aO aN aD bv aY rn kd nu tv), (zaI aS cS 901 fS)] := hD
          refine lv_aload_n hx hb dX12_factor_172 rfl (lv_at hl 3 rfl) ?_
          have hPc := hP.sub (ws' := [(zo14irriiiiiirriirrrrlriiii m0 th aS aI im (nI a) (nI (p0 + 1)) (nI E) 1 3 aB aT se dn aG aO aN aD bv aY rn kd nu tv), (zaI aS cS 901 fS)]) [0, 1] rfl
          have hDc := hD.sub (ws' := [(zo14irriiiiiirriirrrrlriiii m0 th aS aI im (nI a) (nI (p0 + 1)) (nI E) 1 3 aB aT se dn aG aO aN aD bv aY rn kd nu tv), (zaI aS cS 901 fS)]) [0, 1] (by decide) rfl
          have hKc := hK.sub (tys' := [(cS, .int)]) [0] rfl
          have hFc := va_free (wc := [(zo14irriiiiiirriirrrrlriiii m0 th aS aI im (nI a) (nI (p0 + 1)) (nI E) 1 3 aB aT se dn aG aO aN aD bv aY rn kd nu tv), (zaI aS cS 901 fS)]) hD hS hA [0, 1] rfl
          refine va_calli (va_runV (As := []) (rest := []) ⟨hx, hb, hml, hown, hts⟩ (c_figures l dC dI m0 aS aI aB aT aG aO aN aD aY th im (nI a) (nI (p0 + 1)) (nI E) 1 3 se dn rn kd nu tv bv cS fS a (p0 + 1) E H.size (by omega) (by omega) (by omega) (Or.inr rfl)) (cwV 0 hts gX12_factor_X12_figures rfl rfl rfl hd_yX12_figures ⟨Nat.le_of_ble_eq_true rfl, Nat.le_of_ble_eq_true rfl⟩) ⟨fun a U g mk q => by obtain ⟨q0, q1, qP, qK, qD⟩ := q; exact ⟨q0, q1, qP, va_K.moved (u := U) (U := U.calling g mk a) (Vm.Alike.refl U.vm) qK, qD⟩, va_recv hK hP (ci := 14) (q := (RX12, TX12, 23)) (q0 := 0) rfl rfl, fun U hU hW => ⟨rfl, by rw [hU], by rw [hU]; exact hPc, va_K.moved hW.alike hKc, hDc.weaken (fun _ _ _ _ => trivial)⟩⟩ rfl rfl hl.1 rfl (lv_room (Nat.le_of_ble_eq_true rfl)) dX12_factor_173 ⟨Nat.le_of_ble_eq_true rfl, Nat.le_of_ble_eq_true rfl⟩) hS (fun q _ h => hFc q h) hFc (fun r_112 u tC H1 locs htC hvm hw_113 hB hz1 hk1 hS => ?_)
          obtain ⟨sp9_114, wg9_115⟩ := u
          try dsimp only at hw_113 hB
          obtain ⟨hP1, hK1, hD1⟩ := hB
          rw [htC] at hP1
          have hK1 := va_K.moved hvm.symm hK1
          obtain ⟨hP, hD⟩ := va_join (wr := []) (w1 := [(zo14irriiiiiirriirrrrlriiii m0 th aS aI im (nI a) sp9_114 (nI E) wg9_115 3 aB aT se dn aG aO aN aD bv aY rn kd nu tv), (zaI aS cS 901 fS)]) hP hD [0, 1] [] rfl rfl (by decide) (by decide) hk1 hFc hP1 hD1
          have hK := (hK.sub (tys' := []) [] rfl).app hK1
          generalize H1 = H at hP hS ⊢
          have hP : va_P (dC, dI) vwCl [(zo14irriiiiiirriirrrrlriiii m0 th aS aI im (nI a) sp9_114 (nI E) wg9_115 3 aB aT se dn aG aO aN aD bv aY rn kd nu tv), (zaI aS cS 901 fS)] H := hP
          have hD : va_D A [(zo14irriiiiiirriirrrrlriiii m0 th aS aI im (nI a) sp9_114 (nI E) wg9_115 3 aB aT se dn aG aO aN aD bv aY rn kd nu tv), (zaI aS cS 901 fS)] := hD
          have hK : va_K (dC, dI) vwCl [(cS, .int)] s := hK
          obtain ⟨p_116, v_117, h_118, h_119, rfl, rfl, h_120, h_121, h_122⟩ := hw_113
          rcases h_121 with rfl | rfl
          · skip
            exact absurd (h_122 rfl).1 (by decide)
          · skip
            refine lv_istore (lv' := [(4, .int (nI v_117)), (3, .int 0), (2, .int (nI j_34)), (1, .int r_2), (0, .ref m0)]) hx hb dX12_factor_176 hl (by decide) rfl (fun ls hl => ?_)
            refine lv_aload_n hx hb dX12_factor_178 rfl (lv_at hl 4 rfl) ?_
            refine lv_iload_n hx hb dX12_factor_179 rfl (lv_at hl 2 rfl) ?_
            refine lv_bipush (v := 8) hx hb dX12_factor_180 (by decide) ?_
            refine lv_iload_n hx hb dX12_factor_182 rfl (lv_at hl 1 rfl) ?_
            refine lv_imul hx hb dX12_factor_183 ?_
            refine qi_as (y := 0) (by decide) ?_
            refine lv_iadd hx hb dX12_factor_184 ?_
            refine qi_as (y := nI (j_34 + 0)) (nI_add j_34 0) ?_
            refine lv_bipush (v := 32) hx hb dX12_factor_185 (by decide) ?_
            refine lv_iload hx hb dX12_factor_187 (lv_at hl 0 rfl) ?_
            refine lv_imul hx hb dX12_factor_189 ?_
            refine qi_as (y := nI (32 * v_117)) (pk_mul 32 v_117) ?_
            refine lv_iadd hx hb dX12_factor_190 ?_
            refine qi_as (y := nI ((j_34 + 0) + (32 * v_117))) (nI_add (j_34 + 0) (32 * v_117)) ?_
            have hPc := hP.sub (ws' := [(zo14irriiiiiirriirrrrlriiii m0 th aS aI im (nI a) (nI p_116) (nI E) 1 3 aB aT se dn aG aO aN aD bv aY rn kd nu tv)]) [0] rfl
            have hKc := hK.sub (tys' := []) [] rfl
            refine va_csv (va_runV (As := [.int (nI ((j_34 + 0) + (32 * v_117)))]) (rest := []) ⟨hx, hb, hml, hown, hts⟩ (c_emitsW l dC dI m0 aS aI aB aT aG aO aN aD aY th im (nI a) (nI p_116) (nI E) 1 3 se dn rn kd nu tv bv (nI ((j_34 + 0) + (32 * v_117)))) (cwV 1 hts gX12_factor_X12_emits rfl rfl rfl hd_yX12_emits ⟨Nat.le_of_ble_eq_true rfl, Nat.le_of_ble_eq_true rfl⟩) ⟨fun a U g mk q => by obtain ⟨q0, qP, qK⟩ := q; exact ⟨q0, qP, va_K.moved (u := U) (U := U.calling g mk a) (Vm.Alike.refl U.vm) qK⟩, va_recv hK hP (ci := 14) (q := (RX12, TX12, 23)) (q0 := 0) rfl rfl, fun U hU hW => ⟨rfl, by rw [hU]; exact hPc, va_K.moved hW.alike hKc⟩⟩ rfl rfl hl.1 rfl (lv_room (Nat.le_of_ble_eq_true rfl)) dX12_factor_191 ⟨Nat.le_of_ble_eq_true rfl, Nat.le_of_ble_eq_true rfl⟩).run (fun hw_124 => ?_)
            rw [hQ]
            have hP9 := hP.sub (ws' := [(zo14irriiiiiirriirrrrlriiii m0 th aS aI im (nI a) (nI p_116) (nI E) 1 3 aB aT se dn aG aO aN aD bv aY rn kd nu tv), (zaI aS cS 901 fS)]) [0, 1] rfl
            have hD9 := hD.sub (ws' := [(zo14irriiiiiirriirrrrlriiii m0 th aS aI im (nI a) (nI p_116) (nI E) 1 3 aB aT se dn aG aO aN aD bv aY rn kd nu tv), (zaI aS cS 901 fS)]) [0, 1] (by decide) rfl
            have hK9 := hK.sub (tys' := [(cS, .int)]) [0] rfl
            exact W.vret hx hb hr (fun tQ htQ hWQ => ⟨⟨(fS, (nI p_116), 1), rfl, ⟨p_116, k, rfl, by omega, by omega, PF.rf, Or.inl rfl⟩, by rw [htQ]; exact hP9, va_K.moved hWQ.alike hK9, hD9⟩, hS.F htQ⟩) hS.2.2 dX12_factor_194
    · skip
      subst c_30
      have hlt : p0 < E := hv_lt (f := fS) (by rw [← hw_3]; decide)
      refine lv_aload_n hx hb dX12_factor_25 rfl (lv_at hl 1 rfl) ?_
      refine lv_aload_n hx hb dX12_factor_26 rfl (lv_at hl 1 rfl) ?_
      refine va_get (D := (dC, dI)) (ci := 14) (v := .int 3) (C := RX12) (T := TX12) (N := 23) hx hb hts kc_factor3_0 hown hK hP 0 rfl rfl 8 (by decide) (hts (.fieldLink RX12 89 "MistHeapsModel" "open" "I") kc_factor3_2) (fun _ h9 => h9) rfl dX12_factor_27 ?_
      refine lv_iconst (v := 5) hx hb dX12_factor_30 (by decide) ?_
      refine lv_icmp_ne (tgt := 38) hx hb dX12_factor_31 (by decide) (fun _ => ?_) (fun c_125 => absurd c_125 (by decide))
      refine lv_iconst (v := 0) hx hb dX12_factor_38 (by decide) ?_
      refine va_put (D := (dC, dI)) (ci := 14) (v := .int 0) (ty := .boolean) (C := RX12) (T := TX12) (N := 23) hx hb hts kc_factor3_0 tyX12 tyX12_ok nmX12 hown hK hP hD hS 0 rfl rfl 7 (by decide) (hts (.fieldLink RX12 65 "MistHeapsModel" "isWrong" "Z") kc_factor3_1) (fun _ h9 => h9) rfl (by decide +kernel) rfl rfl (Nat.le_of_ble_eq_true rfl) dX12_factor_39 (fun H locs hP hD hS => ?_)
      have hP : va_P (dC, dI) vwCl [(zo14irriiiiiirriirrrrlriiii m0 th aS aI im (nI a) (nI p0) (nI E) 0 3 aB aT se dn aG aO aN aD bv aY rn kd nu tv), (zaI aS cS 901 fS)] H := hP
      have hD : va_D A [(zo14irriiiiiirriirrrrlriiii m0 th aS aI im (nI a) (nI p0) (nI E) 0 3 aB aT se dn aG aO aN aD bv aY rn kd nu tv), (zaI aS cS 901 fS)] := hD
      refine lv_aload_n hx hb dX12_factor_42 rfl (lv_at hl 1 rfl) ?_
      refine lv_dup hx hb dX12_factor_43 rfl ?_
      refine va_get (D := (dC, dI)) (ci := 14) (v := .int 3) (C := RX12) (T := TX12) (N := 23) hx hb hts kc_factor3_0 hown hK hP 0 rfl rfl 8 (by decide) (hts (.fieldLink RX12 89 "MistHeapsModel" "open" "I") kc_factor3_2) (fun _ h9 => h9) rfl dX12_factor_44 ?_
      refine lv_iconst (v := 1) hx hb dX12_factor_47 (by decide) ?_
      refine lv_iadd hx hb dX12_factor_48 ?_
      refine qi_as (y := 4) (by decide) ?_
      refine va_put (D := (dC, dI)) (ci := 14) (v := .int 4) (ty := .int) (C := RX12) (T := TX12) (N := 23) hx hb hts kc_factor3_0 tyX12 tyX12_ok nmX12 hown hK hP hD hS 0 rfl rfl 8 (by decide) (hts (.fieldLink RX12 89 "MistHeapsModel" "open" "I") kc_factor3_2) (fun _ h9 => h9) rfl (by decide +kernel) rfl rfl (Nat.le_of_ble_eq_true rfl) dX12_factor_49 (fun H locs hP hD hS => ?_)
      have hP : va_P (dC, dI) vwCl [(zo14irriiiiiirriirrrrlriiii m0 th aS aI im (nI a) (nI p0) (nI E) 0 4 aB aT se dn aG aO aN aD bv aY rn kd nu tv), (zaI aS cS 901 fS)] H := hP
      have hD : va_D A [(zo14irriiiiiirriirrrrlriiii m0 th aS aI im (nI a) (nI p0) (nI E) 0 4 aB aT se dn aG aO aN aD bv aY rn kd nu tv), (zaI aS cS 901 fS)] := hD
      refine lv_aload_n hx hb dX12_factor_52 rfl (lv_at hl 1 rfl) ?_
      refine lv_dup hx hb dX12_factor_53 rfl ?_
      refine va_get (D := (dC, dI)) (ci := 14) (v := .int (nI p0)) (C := RX12) (T := TX12) (N := 23) hx hb hts kc_factor3_0 hown hK hP 0 rfl rfl 5 (by decide) (hts (.fieldLink RX12 59 "MistHeapsModel" "spot" "I") kc_factor3_3) (fun _ h9 => h9) rfl dX12_factor_54 ?_
      refine lv_aload_n hx hb dX12_factor_57 rfl (lv_at hl 1 rfl) ?_
      refine va_get (D := (dC, dI)) (ci := 14) (v := .int 0) (C := RX12) (T := TX12) (N := 23) hx hb hts kc_factor3_0 hown hK hP 0 rfl rfl 7 (by decide) (hts (.fieldLink RX12 65 "MistHeapsModel" "isWrong" "Z") kc_factor3_1) (fun _ h9 => h9) rfl dX12_factor_58 ?_
      refine lv_if_eq (tgt := 68) hx hb dX12_factor_61 (by decide) (fun _ => ?_) (fun c_126 => absurd c_126 (by decide))
      refine lv_iconst (v := 1) hx hb dX12_factor_68 (by decide) ?_
      refine lv_iadd hx hb dX12_factor_69 ?_
      refine qi_as (y := nI (p0 + 1)) (nI_add p0 1) ?_
      refine va_put (D := (dC, dI)) (ci := 14) (v := .int (nI (p0 + 1))) (ty := .int) (C := RX12) (T := TX12) (N := 23) hx hb hts kc_factor3_0 tyX12 tyX12_ok nmX12 hown hK hP hD hS 0 rfl rfl 5 (by decide) (hts (.fieldLink RX12 59 "MistHeapsModel" "spot" "I") kc_factor3_3) (fun _ h9 => h9) rfl (by decide +kernel) rfl rfl (Nat.le_of_ble_eq_true rfl) dX12_factor_70 (fun H locs hP hD hS => ?_)
      have hP : va_P (dC, dI) vwCl [(zo14irriiiiiirriirrrrlriiii m0 th aS aI im (nI a) (nI (p0 + 1)) (nI E) 0 4 aB aT se dn aG aO aN aD bv aY rn kd nu tv), (zaI aS cS 901 fS)] H := hP
      have hD : va_D A [(zo14irriiiiiirriirrrrlriiii m0 th aS aI im (nI a) (nI (p0 + 1)) (nI E) 0 4 aB aT se dn aG aO aN aD bv aY rn kd nu tv), (zaI aS cS 901 fS)] := hD
      refine lv_iload_n hx hb dX12_factor_73 rfl (lv_at hl 0 rfl) ?_
      refine lv_bipush (v := 33) hx hb dX12_factor_74 (by decide) ?_
      refine lv_icmp_ne (tgt := 91) hx hb dX12_factor_76 (by decide) (fun _ => ?_) (fun c_127 => absurd c_127 (by decide))
      refine lv_aload_n hx hb dX12_factor_91 rfl (lv_at hl 1 rfl) ?_
      have hPc := hP.sub (ws' := [(zo14irriiiiiirriirrrrlriiii m0 th aS aI im (nI a) (nI (p0 + 1)) (nI E) 0 4 aB aT se dn aG aO aN aD bv aY rn kd nu tv), (zaI aS cS 901 fS)]) [0, 1] rfl
      have hDc := hD.sub (ws' := [(zo14irriiiiiirriirrrrlriiii m0 th aS aI im (nI a) (nI (p0 + 1)) (nI E) 0 4 aB aT se dn aG aO aN aD bv aY rn kd nu tv), (zaI aS cS 901 fS)]) [0, 1] (by decide) rfl
      have hKc := hK.sub (tys' := [(cS, .int)]) [0] rfl
      have hFc := va_free (wc := [(zo14irriiiiiirriirrrrlriiii m0 th aS aI im (nI a) (nI (p0 + 1)) (nI E) 0 4 aB aT se dn aG aO aN aD bv aY rn kd nu tv), (zaI aS cS 901 fS)]) hD hS hA [0, 1] rfl
      refine va_callv (va_runV (As := []) (rest := []) ⟨hx, hb, hml, hown, hts⟩ (c_some4 l dC dI sK sV m0 aS aI aB aT aG aO aN aD aY th im (nI a) (nI (p0 + 1)) (nI E) 0 4 se dn rn kd nu tv bv cS fS a (p0 + 1) E k d H.size ((gI).mono (by omega) (by omega))) (cwV 0 hts gX12_factor_X12_some rfl rfl rfl hd_yX12_some ⟨Nat.le_of_ble_eq_true rfl, Nat.le_of_ble_eq_true rfl⟩) ⟨fun a U g mk q => by obtain ⟨q0, q1, qP, qK, qD, qhE⟩ := q; exact ⟨q0, q1, qP, va_K.moved (u := U) (U := U.calling g mk a) (Vm.Alike.refl U.vm) qK, qD, qhE.same rfl rfl⟩, va_recv hK hP (ci := 14) (q := (RX12, TX12, 23)) (q0 := 0) rfl rfl, fun U hU hW => ⟨rfl, by rw [hU], by rw [hU]; exact hPc, va_K.moved hW.alike hKc, hDc.weaken (fun _ _ _ _ => trivial), hE.call hS hU hW (fun q h => hFc q h)⟩⟩ rfl rfl hl.1 rfl (lv_room (Nat.le_of_ble_eq_true rfl)) dX12_factor_92 ⟨Nat.le_of_ble_eq_true rfl, Nat.le_of_ble_eq_true rfl⟩) hS (fun q _ h => hFc q h) hFc (fun u tC H1 locs htC hvm hw_129 hB hz1 hk1 hS => ?_)
      obtain ⟨fS9_130, sp9_131, wg9_132⟩ := u
      try dsimp only at hw_129 hB
      obtain ⟨hP1, hK1, hD1⟩ := hB
      rw [htC] at hP1
      have hK1 := va_K.moved hvm.symm hK1
      obtain ⟨hP, hD⟩ := va_join (wr := []) (w1 := [(zo14irriiiiiirriirrrrlriiii m0 th aS aI im (nI a) sp9_131 (nI E) wg9_132 4 aB aT se dn aG aO aN aD bv aY rn kd nu tv), (zaI aS cS 901 fS9_130)]) hP hD [0, 1] [] rfl rfl (by decide) (by decide) hk1 hFc hP1 hD1
      have hK := (hK.sub (tys' := []) [] rfl).app hK1
      generalize H1 = H at hP hS ⊢
      have hP : va_P (dC, dI) vwCl [(zo14irriiiiiirriirrrrlriiii m0 th aS aI im (nI a) sp9_131 (nI E) wg9_132 4 aB aT se dn aG aO aN aD bv aY rn kd nu tv), (zaI aS cS 901 fS9_130)] H := hP
      have hD : va_D A [(zo14irriiiiiirriirrrrlriiii m0 th aS aI im (nI a) sp9_131 (nI E) wg9_132 4 aB aT se dn aG aO aN aD bv aY rn kd nu tv), (zaI aS cS 901 fS9_130)] := hD
      have hK : va_K (dC, dI) vwCl [(cS, .int)] s := hK
      obtain ⟨p_133, k_134, rfl, h_136, h_137, hF_138, q9⟩ := hw_129
      rcases q9 with rfl | ⟨rfl, h_139, hI_140, h_141⟩
      · skip
        refine lv_aload_n hx hb dX12_factor_95 rfl (lv_at hl 1 rfl) ?_
        refine lv_bipush (v := 41) hx hb dX12_factor_96 (by decide) ?_
        have hPc := hP.sub (ws' := [(zo14irriiiiiirriirrrrlriiii m0 th aS aI im (nI a) (nI p_133) (nI E) 1 4 aB aT se dn aG aO aN aD bv aY rn kd nu tv), (zaI aS cS 901 fS9_130)]) [0, 1] rfl
        have hDc := hD.sub (ws' := [(zo14irriiiiiirriirrrrlriiii m0 th aS aI im (nI a) (nI p_133) (nI E) 1 4 aB aT se dn aG aO aN aD bv aY rn kd nu tv), (zaI aS cS 901 fS9_130)]) [0, 1] (by decide) rfl
        have hKc := hK.sub (tys' := [(cS, .int)]) [0] rfl
        have hFc := va_free (wc := [(zo14irriiiiiirriirrrrlriiii m0 th aS aI im (nI a) (nI p_133) (nI E) 1 4 aB aT se dn aG aO aN aD bv aY rn kd nu tv), (zaI aS cS 901 fS9_130)]) hD hS hA [0, 1] rfl
        refine va_callv (va_runV (As := [.int 41]) (rest := []) ⟨hx, hb, hml, hown, hts⟩ (c_must l dC dI m0 aS aI aB aT aG aO aN aD aY th im (nI a) (nI p_133) (nI E) 1 4 se dn rn kd nu tv bv cS fS9_130 a p_133 E 41 H.size (by omega) (by omega) (by omega) (Or.inr rfl) (by decide)) (cwV 1 hts gX12_factor_X12_must rfl rfl rfl hd_yX12_must ⟨Nat.le_of_ble_eq_true rfl, Nat.le_of_ble_eq_true rfl⟩) ⟨fun a U g mk q => by obtain ⟨q0, q1, qP, qK, qD⟩ := q; exact ⟨q0, q1, qP, va_K.moved (u := U) (U := U.calling g mk a) (Vm.Alike.refl U.vm) qK, qD⟩, va_recv hK hP (ci := 14) (q := (RX12, TX12, 23)) (q0 := 0) rfl rfl, fun U hU hW => ⟨rfl, by rw [hU], by rw [hU]; exact hPc, va_K.moved hW.alike hKc, hDc.weaken (fun _ _ _ _ => trivial)⟩⟩ rfl rfl hl.1 rfl (lv_room (Nat.le_of_ble_eq_true rfl)) dX12_factor_98 ⟨Nat.le_of_ble_eq_true rfl, Nat.le_of_ble_eq_true rfl⟩) hS (fun q _ h => hFc q h) hFc (fun u tC H1 locs htC hvm hw_143 hB hz1 hk1 hS => ?_)
        obtain ⟨sp9_144, wg9_145⟩ := u
        try dsimp only at hw_143 hB
        obtain ⟨hP1, hK1, hD1⟩ := hB
        rw [htC] at hP1
        have hK1 := va_K.moved hvm.symm hK1
        obtain ⟨hP, hD⟩ := va_join (wr := []) (w1 := [(zo14irriiiiiirriirrrrlriiii m0 th aS aI im (nI a) sp9_144 (nI E) wg9_145 4 aB aT se dn aG aO aN aD bv aY rn kd nu tv), (zaI aS cS 901 fS9_130)]) hP hD [0, 1] [] rfl rfl (by decide) (by decide) hk1 hFc hP1 hD1
        have hK := (hK.sub (tys' := []) [] rfl).app hK1
        generalize H1 = H at hP hS ⊢
        have hP : va_P (dC, dI) vwCl [(zo14irriiiiiirriirrrrlriiii m0 th aS aI im (nI a) sp9_144 (nI E) wg9_145 4 aB aT se dn aG aO aN aD bv aY rn kd nu tv), (zaI aS cS 901 fS9_130)] H := hP
        have hD : va_D A [(zo14irriiiiiirriirrrrlriiii m0 th aS aI im (nI a) sp9_144 (nI E) wg9_145 4 aB aT se dn aG aO aN aD bv aY rn kd nu tv), (zaI aS cS 901 fS9_130)] := hD
        have hK : va_K (dC, dI) vwCl [(cS, .int)] s := hK
        obtain ⟨rfl, rfl⟩ : _ ∧ _ := by rcases hw_143 with q | ⟨_, q, _⟩; exact q; exact absurd q (by decide)
        refine lv_aload_n hx hb dX12_factor_101 rfl (lv_at hl 1 rfl) ?_
        refine lv_dup hx hb dX12_factor_102 rfl ?_
        refine va_get (D := (dC, dI)) (ci := 14) (v := .int 4) (C := RX12) (T := TX12) (N := 23) hx hb hts kc_factor3_0 hown hK hP 0 rfl rfl 8 (by decide) (hts (.fieldLink RX12 89 "MistHeapsModel" "open" "I") kc_factor3_2) (fun _ h9 => h9) rfl dX12_factor_103 ?_
        refine lv_iconst (v := 1) hx hb dX12_factor_106 (by decide) ?_
        refine lv_isub hx hb dX12_factor_107 ?_
        refine qi_as (y := 3) (by decide) ?_
        refine va_put (D := (dC, dI)) (ci := 14) (v := .int 3) (ty := .int) (C := RX12) (T := TX12) (N := 23) hx hb hts kc_factor3_0 tyX12 tyX12_ok nmX12 hown hK hP hD hS 0 rfl rfl 8 (by decide) (hts (.fieldLink RX12 89 "MistHeapsModel" "open" "I") kc_factor3_2) (fun _ h9 => h9) rfl (by decide +kernel) rfl rfl (Nat.le_of_ble_eq_true rfl) dX12_factor_108 (fun H locs hP hD hS => ?_)
        have hP : va_P (dC, dI) vwCl [(zo14irriiiiiirriirrrrlriiii m0 th aS aI im (nI a) (nI p_133) (nI E) 1 3 aB aT se dn aG aO aN aD bv aY rn kd nu tv), (zaI aS cS 901 fS9_130)] H := hP
        have hD : va_D A [(zo14irriiiiiirriirrrrlriiii m0 th aS aI im (nI a) (nI p_133) (nI E) 1 3 aB aT se dn aG aO aN aD bv aY rn kd nu tv), (zaI aS cS 901 fS9_130)] := hD
        rw [hQ]
        have hP9 := hP.sub (ws' := [(zo14irriiiiiirriirrrrlriiii m0 th aS aI im (nI a) (nI p_133) (nI E) 1 3 aB aT se dn aG aO aN aD bv aY rn kd nu tv), (zaI aS cS 901 fS9_130)]) [0, 1] rfl
        have hD9 := hD.sub (ws' := [(zo14irriiiiiirriirrrrlriiii m0 th aS aI im (nI a) (nI p_133) (nI E) 1 3 aB aT se dn aG aO aN aD bv aY rn kd nu tv), (zaI aS cS 901 fS9_130)]) [0, 1] (by decide) rfl
        have hK9 := hK.sub (tys' := [(cS, .int)]) [0] rfl
        exact W.vret hx hb hr (fun tQ htQ hWQ => ⟨⟨(fS9_130, (nI p_133), 1), rfl, ⟨p_133, k, rfl, by omega, by omega, (PF.rf).tr hF_138, Or.inl rfl⟩, by rw [htQ]; exact hP9, va_K.moved hWQ.alike hK9, hD9⟩, hS.F htQ⟩) hS.2.2 dX12_factor_111
      · skip
        have k5 := hI_140.2.2.2.2.1
        refine lv_aload_n hx hb dX12_factor_95 rfl (lv_at hl 1 rfl) ?_
        refine lv_bipush (v := 41) hx hb dX12_factor_96 (by decide) ?_
        have hPc := hP.sub (ws' := [(zo14irriiiiiirriirrrrlriiii m0 th aS aI im (nI a) (nI p_133) (nI E) 0 4 aB aT se dn aG aO aN aD bv aY rn kd nu tv), (zaI aS cS 901 fS9_130)]) [0, 1] rfl
        have hDc := hD.sub (ws' := [(zo14irriiiiiirriirrrrlriiii m0 th aS aI im (nI a) (nI p_133) (nI E) 0 4 aB aT se dn aG aO aN aD bv aY rn kd nu tv), (zaI aS cS 901 fS9_130)]) [0, 1] (by decide) rfl
        have hKc := hK.sub (tys' := [(cS, .int)]) [0] rfl
        have hFc := va_free (wc := [(zo14irriiiiiirriirrrrlriiii m0 th aS aI im (nI a) (nI p_133) (nI E) 0 4 aB aT se dn aG aO aN aD bv aY rn kd nu tv), (zaI aS cS 901 fS9_130)]) hD hS hA [0, 1] rfl
        refine va_callv (va_runV (As := [.int 41]) (rest := []) ⟨hx, hb, hml, hown, hts⟩ (c_must l dC dI m0 aS aI aB aT aG aO aN aD aY th im (nI a) (nI p_133) (nI E) 0 4 se dn rn kd nu tv bv cS fS9_130 a p_133 E 41 H.size (by omega) (by omega) (by omega) (Or.inl rfl) (by decide)) (cwV 1 hts gX12_factor_X12_must rfl rfl rfl hd_yX12_must ⟨Nat.le_of_ble_eq_true rfl, Nat.le_of_ble_eq_true rfl⟩) ⟨fun a U g mk q => by obtain ⟨q0, q1, qP, qK, qD⟩ := q; exact ⟨q0, q1, qP, va_K.moved (u := U) (U := U.calling g mk a) (Vm.Alike.refl U.vm) qK, qD⟩, va_recv hK hP (ci := 14) (q := (RX12, TX12, 23)) (q0 := 0) rfl rfl, fun U hU hW => ⟨rfl, by rw [hU], by rw [hU]; exact hPc, va_K.moved hW.alike hKc, hDc.weaken (fun _ _ _ _ => trivial)⟩⟩ rfl rfl hl.1 rfl (lv_room (Nat.le_of_ble_eq_true rfl)) dX12_factor_98 ⟨Nat.le_of_ble_eq_true rfl, Nat.le_of_ble_eq_true rfl⟩) hS (fun q _ h => hFc q h) hFc (fun u tC H1 locs htC hvm hw_147 hB hz1 hk1 hS => ?_)
        obtain ⟨sp9_148, wg9_149⟩ := u
        try dsimp only at hw_147 hB
        obtain ⟨hP1, hK1, hD1⟩ := hB
        rw [htC] at hP1
        have hK1 := va_K.moved hvm.symm hK1
        obtain ⟨hP, hD⟩ := va_join (wr := []) (w1 := [(zo14irriiiiiirriirrrrlriiii m0 th aS aI im (nI a) sp9_148 (nI E) wg9_149 4 aB aT se dn aG aO aN aD bv aY rn kd nu tv), (zaI aS cS 901 fS9_130)]) hP hD [0, 1] [] rfl rfl (by decide) (by decide) hk1 hFc hP1 hD1
        have hK := (hK.sub (tys' := []) [] rfl).app hK1
        generalize H1 = H at hP hS ⊢
        have hP : va_P (dC, dI) vwCl [(zo14irriiiiiirriirrrrlriiii m0 th aS aI im (nI a) sp9_148 (nI E) wg9_149 4 aB aT se dn aG aO aN aD bv aY rn kd nu tv), (zaI aS cS 901 fS9_130)] H := hP
        have hD : va_D A [(zo14irriiiiiirriirrrrlriiii m0 th aS aI im (nI a) sp9_148 (nI E) wg9_149 4 aB aT se dn aG aO aN aD bv aY rn kd nu tv), (zaI aS cS 901 fS9_130)] := hD
        have hK : va_K (dC, dI) vwCl [(cS, .int)] s := hK
        rcases hw_147 with ⟨rfl, rfl⟩ | ⟨rfl, h_151, h_152, rfl⟩
        · skip
          refine lv_aload_n hx hb dX12_factor_101 rfl (lv_at hl 1 rfl) ?_
          refine lv_dup hx hb dX12_factor_102 rfl ?_
          refine va_get (D := (dC, dI)) (ci := 14) (v := .int 4) (C := RX12) (T := TX12) (N := 23) hx hb hts kc_factor3_0 hown hK hP 0 rfl rfl 8 (by decide) (hts (.fieldLink RX12 89 "MistHeapsModel" "open" "I") kc_factor3_2) (fun _ h9 => h9) rfl dX12_factor_103 ?_
          refine lv_iconst (v := 1) hx hb dX12_factor_106 (by decide) ?_
          refine lv_isub hx hb dX12_factor_107 ?_
          refine qi_as (y := 3) (by decide) ?_
          refine va_put (D := (dC, dI)) (ci := 14) (v := .int 3) (ty := .int) (C := RX12) (T := TX12) (N := 23) hx hb hts kc_factor3_0 tyX12 tyX12_ok nmX12 hown hK hP hD hS 0 rfl rfl 8 (by decide) (hts (.fieldLink RX12 89 "MistHeapsModel" "open" "I") kc_factor3_2) (fun _ h9 => h9) rfl (by decide +kernel) rfl rfl (Nat.le_of_ble_eq_true rfl) dX12_factor_108 (fun H locs hP hD hS => ?_)
          have hP : va_P (dC, dI) vwCl [(zo14irriiiiiirriirrrrlriiii m0 th aS aI im (nI a) (nI p_133) (nI E) 1 3 aB aT se dn aG aO aN aD bv aY rn kd nu tv), (zaI aS cS 901 fS9_130)] H := hP
          have hD : va_D A [(zo14irriiiiiirriirrrrlriiii m0 th aS aI im (nI a) (nI p_133) (nI E) 1 3 aB aT se dn aG aO aN aD bv aY rn kd nu tv), (zaI aS cS 901 fS9_130)] := hD
          rw [hQ]
          have hP9 := hP.sub (ws' := [(zo14irriiiiiirriirrrrlriiii m0 th aS aI im (nI a) (nI p_133) (nI E) 1 3 aB aT se dn aG aO aN aD bv aY rn kd nu tv), (zaI aS cS 901 fS9_130)]) [0, 1] rfl
          have hD9 := hD.sub (ws' := [(zo14irriiiiiirriirrrrlriiii m0 th aS aI im (nI a) (nI p_133) (nI E) 1 3 aB aT se dn aG aO aN aD bv aY rn kd nu tv), (zaI aS cS 901 fS9_130)]) [0, 1] (by decide) rfl
          have hK9 := hK.sub (tys' := [(cS, .int)]) [0] rfl
          exact W.vret hx hb hr (fun tQ htQ hWQ => ⟨⟨(fS9_130, (nI p_133), 1), rfl, ⟨p_133, k, rfl, by omega, by omega, (PF.rf).tr hF_138, Or.inl rfl⟩, by rw [htQ]; exact hP9, va_K.moved hWQ.alike hK9, hD9⟩, hS.F htQ⟩) hS.2.2 dX12_factor_111
        · skip
          refine lv_aload_n hx hb dX12_factor_101 rfl (lv_at hl 1 rfl) ?_
          refine lv_dup hx hb dX12_factor_102 rfl ?_
          refine va_get (D := (dC, dI)) (ci := 14) (v := .int 4) (C := RX12) (T := TX12) (N := 23) hx hb hts kc_factor3_0 hown hK hP 0 rfl rfl 8 (by decide) (hts (.fieldLink RX12 89 "MistHeapsModel" "open" "I") kc_factor3_2) (fun _ h9 => h9) rfl dX12_factor_103 ?_
          refine lv_iconst (v := 1) hx hb dX12_factor_106 (by decide) ?_
          refine lv_isub hx hb dX12_factor_107 ?_
          refine qi_as (y := 3) (by decide) ?_
          refine va_put (D := (dC, dI)) (ci := 14) (v := .int 3) (ty := .int) (C := RX12) (T := TX12) (N := 23) hx hb hts kc_factor3_0 tyX12 tyX12_ok nmX12 hown hK hP hD hS 0 rfl rfl 8 (by decide) (hts (.fieldLink RX12 89 "MistHeapsModel" "open" "I") kc_factor3_2) (fun _ h9 => h9) rfl (by decide +kernel) rfl rfl (Nat.le_of_ble_eq_true rfl) dX12_factor_108 (fun H locs hP hD hS => ?_)
          have hP : va_P (dC, dI) vwCl [(zo14irriiiiiirriirrrrlriiii m0 th aS aI im (nI a) (nI (p_133 + 1)) (nI E) 0 3 aB aT se dn aG aO aN aD bv aY rn kd nu tv), (zaI aS cS 901 fS9_130)] H := hP
          have hD : va_D A [(zo14irriiiiiirriirrrrlriiii m0 th aS aI im (nI a) (nI (p_133 + 1)) (nI E) 0 3 aB aT se dn aG aO aN aD bv aY rn kd nu tv), (zaI aS cS 901 fS9_130)] := hD
          rw [hQ]
          have hP9 := hP.sub (ws' := [(zo14irriiiiiirriirrrrlriiii m0 th aS aI im (nI a) (nI (p_133 + 1)) (nI E) 0 3 aB aT se dn aG aO aN aD bv aY rn kd nu tv), (zaI aS cS 901 fS9_130)]) [0, 1] rfl
          have hD9 := hD.sub (ws' := [(zo14irriiiiiirriirrrrlriiii m0 th aS aI im (nI a) (nI (p_133 + 1)) (nI E) 0 3 aB aT se dn aG aO aN aD bv aY rn kd nu tv), (zaI aS cS 901 fS9_130)]) [0, 1] (by decide) rfl
          have hK9 := hK.sub (tys' := [(cS, .int)]) [0] rfl
          exact W.vret hx hb hr (fun tQ htQ hWQ => ⟨⟨(fS9_130, (nI (p_133 + 1)), 0), rfl, ⟨p_133 + 1, k_134, rfl, by omega, by omega, (PF.rf).tr hF_138, Or.inr ⟨rfl, by omega, (hI_140).mono (by omega) (by omega), by omega⟩⟩, by rw [htQ]; exact hP9, va_K.moved hWQ.alike hK9, hD9⟩, hS.F htQ⟩) hS.2.2 dX12_factor_111

theorem kc_every3_0 : ∀ w ∈ wsX120, w ∈ wsX12_every := fun w h => List.mem_cons_of_mem _ (gin_wsX120 w h)
theorem kc_every3_1 : (.fieldLink RX12 65 "MistHeapsModel" "isWrong" "Z" : Cond) ∈ wsX12_every := kc_of 1147 rfl rfl rfl
theorem kc_every3_2 : (.fieldLink RX12 59 "MistHeapsModel" "spot" "I" : Cond) ∈ wsX12_every := kc_of 1145 rfl rfl rfl
set_option maxHeartbeats 4000000 in
set_option maxRecDepth 100000 in
theorem c_every3 (l : Launch) (dC : Nat → ClassId) (dI : Nat → Nat → Nat) (sK sV : Nat → Nat) (m0 aS aI aB aT aG aO aN aD aY : Nat) (th im ac sp en wg op se dn rn kd nu tv : Int32) (bv : Int64) (cS : ClassId) (fS : Nat → Int32) (a p0 E k d : Nat) (sz : Nat) (gI : PI fS a k d p0 E) : Met l yX12_every wsX12_every ({ frames := 12, cells := 0, slots := 0, locals := 259 } : Room) (va_Pc [.ref m0] (fun U => U.heap.size = sz ∧ va_P (dC, dI) vwCl [(zo14irriiiiiirriirrrrlriiii m0 th aS aI im (nI a) (nI p0) (nI E) 0 3 aB aT se dn aG aO aN aD bv aY rn kd nu tv), (zaI aS cS 901 fS)] U.heap ∧ va_K (dC, dI) vwCl [(cS, .int)] U ∧ va_D (fun _ => True) [(zo14irriiiiiirriirrrrlriiii m0 th aS aI im (nI a) (nI p0) (nI E) 0 3 aB aT se dn aG aO aN aD bv aY rn kd nu tv), (zaI aS cS 901 fS)] ∧ Gs sK sV (va_A [(zo14irriiiiiirriirrrrlriiii m0 th aS aI im (nI a) (nI p0) (nI E) 0 3 aB aT se dn aG aO aN aD bv aY rn kd nu tv), (zaI aS cS 901 fS)] sz) U)) (va_Qv (fun (u : (Nat → Int32) × (Int32) × (Int32)) => match u with | (fS9, sp9, wg9) => ∃ p9 k9 : Nat, sp9 = nI p9 ∧ p0 ≤ p9 ∧ p9 ≤ E ∧ PF a fS fS9 ∧ (wg9 = 1 ∨ (wg9 = 0 ∧ p0 + 3 ≤ p9 ∧ PI fS9 a k9 (d + 1) p9 E ∧ k9 + p0 ≤ k + p9))) (fun (u : (Nat → Int32) × (Int32) × (Int32)) (t : State) => match u with | (fS9, sp9, wg9) => va_P (dC, dI) vwCl [(zo14irriiiiiirriirrrrlriiii m0 th aS aI im (nI a) sp9 (nI E) wg9 3 aB aT se dn aG aO aN aD bv aY rn kd nu tv), (zaI aS cS 901 fS9)] t.heap ∧ va_K (dC, dI) vwCl [(cS, .int)] t ∧ va_D (va_A [(zo14irriiiiiirriirrrrlriiii m0 th aS aI im (nI a) (nI p0) (nI E) 0 3 aB aT se dn aG aO aN aD bv aY rn kd nu tv), (zaI aS cS 901 fS)] sz) [(zo14irriiiiiirriirrrrlriiii m0 th aS aI im (nI a) sp9 (nI E) wg9 3 aB aT se dn aG aO aN aD bv aY rn kd nu tv), (zaI aS cS 901 fS9)]) (va_A [(zo14irriiiiiirriirrrrlriiii m0 th aS aI im (nI a) (nI p0) (nI E) 0 3 aB aT se dn aG aO aN aD bv aY rn kd nu tv), (zaI aS cS 901 fS)] sz)) 0 0 (va_A [(zo14irriiiiiirriirrrrlriiii m0 th aS aI im (nI a) (nI p0) (nI E) 0 3 aB aT se dn aG aO aN aD bv aY rn kd nu tv), (zaI aS cS 901 fS)] sz) := by
  refine met_ofQ (cc := cX12_every) (maxL := 1) (ret := none) (by decide) rfl ?_
  intro p e s m args below meth c s₁ Q B hml hv hQ
  obtain ⟨rfl, hsz, hP, hK, hD0, hE⟩ := hv
  have hx := B.exec
  have hb := B.bytes
  have hr := B.returns
  have hts := atoms_spec (ws := wsX12_every) B.pre
  have hown : s.vm.findClass RX12 = some m.cls := findClass_of_methodNamed B.named
  have hlocks := B.notSynchronized
  subst hsz
  have hD := hD0.self (sz := s.heap.size)
  generalize hAe : va_A [(zo14irriiiiiirriirrrrlriiii m0 th aS aI im (nI a) (nI p0) (nI E) 0 3 aB aT se dn aG aO aN aD bv aY rn kd nu tv), (zaI aS cS 901 fS)] s.heap.size = A at hD hQ hE ⊢
  have hA : ∀ q : Nat, s.heap.size ≤ q → A q := fun q h => by rw [← hAe]; exact Or.inr h
  have hS : va_S A s.heap s.heap [] := va_S.rf
  have hl := lv_entry [.ref m0] (n := 1) (Nat.le_of_ble_eq_true rfl)
  rw [lg_entry_eq]
  generalize (lg_sl [.ref m0] ++ List.replicate (1 - (lg_sl [.ref m0]).length) Slot.unset).toArray = ls at hl ⊢
  generalize hag : ([.ref m0] : List Value).toArray = args at hts hQ ⊢
  have hl : lv_has ls 1 [(0, .ref m0)] := hl
  obtain ⟨H, hH⟩ : ∃ H : Heap, H = s.heap := ⟨_, rfl⟩
  rw [← hH] at hP
  rw [← hH]
  have hS : va_S A s.heap H [] := by rw [hH]; exact hS
  obtain ⟨locs, hlo⟩ : ∃ L : List Loc, L = [] := ⟨_, rfl⟩
  rw [← hlo] at hS
  rw [← hlo]
  clear hH hlo
  obtain ⟨ga, gp, gE, zk, gkp, gd, gs⟩ := id gI
  refine lv_aload_n hx hb dX12_every_0 rfl (lv_at hl 0 rfl) ?_
  have hPc := hP.sub (ws' := [(zo14irriiiiiirriirrrrlriiii m0 th aS aI im (nI a) (nI p0) (nI E) 0 3 aB aT se dn aG aO aN aD bv aY rn kd nu tv), (zaI aS cS 901 fS)]) [0, 1] rfl
  have hDc := hD.sub (ws' := [(zo14irriiiiiirriirrrrlriiii m0 th aS aI im (nI a) (nI p0) (nI E) 0 3 aB aT se dn aG aO aN aD bv aY rn kd nu tv), (zaI aS cS 901 fS)]) [0, 1] (by decide) rfl
  have hKc := hK.sub (tys' := [(cS, .int)]) [0] rfl
  have hFc := va_free (wc := [(zo14irriiiiiirriirrrrlriiii m0 th aS aI im (nI a) (nI p0) (nI E) 0 3 aB aT se dn aG aO aN aD bv aY rn kd nu tv), (zaI aS cS 901 fS)]) hD hS hA [0, 1] rfl
  refine va_callv (va_runV (As := []) (rest := []) ⟨hx, hb, hml, hown, hts⟩ (c_factor3 l dC dI sK sV m0 aS aI aB aT aG aO aN aD aY th im (nI a) (nI p0) (nI E) 0 3 se dn rn kd nu tv bv cS fS a p0 E k d H.size ((gI).mono (by omega) (by omega))) (cwV 0 hts gX12_every_X12_factor rfl rfl rfl hd_yX12_factor ⟨Nat.le_of_ble_eq_true rfl, Nat.le_of_ble_eq_true rfl⟩) ⟨fun a U g mk q => by obtain ⟨q0, q1, qP, qK, qD, qhE⟩ := q; exact ⟨q0, q1, qP, va_K.moved (u := U) (U := U.calling g mk a) (Vm.Alike.refl U.vm) qK, qD, qhE.same rfl rfl⟩, va_recv hK hP (ci := 14) (q := (RX12, TX12, 23)) (q0 := 0) rfl rfl, fun U hU hW => ⟨rfl, by rw [hU], by rw [hU]; exact hPc, va_K.moved hW.alike hKc, hDc.weaken (fun _ _ _ _ => trivial), hE.call hS hU hW (fun q h => hFc q h)⟩⟩ rfl rfl hl.1 rfl (lv_room (Nat.le_of_ble_eq_true rfl)) dX12_every_1 ⟨Nat.le_of_ble_eq_true rfl, Nat.le_of_ble_eq_true rfl⟩) hS (fun q _ h => hFc q h) hFc (fun u tC H1 locs htC hvm hw_2 hB hz1 hk1 hS => ?_)
  obtain ⟨fS9_3, sp9_4, wg9_5⟩ := u
  try dsimp only at hw_2 hB
  obtain ⟨hP1, hK1, hD1⟩ := hB
  rw [htC] at hP1
  have hK1 := va_K.moved hvm.symm hK1
  obtain ⟨hP, hD⟩ := va_join (wr := []) (w1 := [(zo14irriiiiiirriirrrrlriiii m0 th aS aI im (nI a) sp9_4 (nI E) wg9_5 3 aB aT se dn aG aO aN aD bv aY rn kd nu tv), (zaI aS cS 901 fS9_3)]) hP hD [0, 1] [] rfl rfl (by decide) (by decide) hk1 hFc hP1 hD1
  have hK := (hK.sub (tys' := []) [] rfl).app hK1
  generalize H1 = H at hP hS ⊢
  have hP : va_P (dC, dI) vwCl [(zo14irriiiiiirriirrrrlriiii m0 th aS aI im (nI a) sp9_4 (nI E) wg9_5 3 aB aT se dn aG aO aN aD bv aY rn kd nu tv), (zaI aS cS 901 fS9_3)] H := hP
  have hD : va_D A [(zo14irriiiiiirriirrrrlriiii m0 th aS aI im (nI a) sp9_4 (nI E) wg9_5 3 aB aT se dn aG aO aN aD bv aY rn kd nu tv), (zaI aS cS 901 fS9_3)] := hD
  have hK : va_K (dC, dI) vwCl [(cS, .int)] s := hK
  obtain ⟨p_6, k_7, rfl, h_9, h_10, hF_11, q9⟩ := hw_2
  rcases q9 with rfl | ⟨rfl, h_12, hI_13, h_14⟩
  · skip
    have L4 : ∀ (nF : Nat) (p1 : Nat) (k1 : Nat) (w1 : Int32) (f1 : Nat → Int32), E - p1 < nF → (p0 ≤ p1 ∧ p1 ≤ E) → (PF a fS f1) → (w1 = 1 ∨ (w1 = 0 ∧ p0 + 3 ≤ p1 ∧ PI f1 a k1 (d + 1) p1 E ∧ k1 + p0 ≤ k + p1)) → ∀ (H : Heap) (locs : List Loc), va_K (dC, dI) vwCl [(cS, .int)] s → va_P (dC, dI) vwCl [(zo14irriiiiiirriirrrrlriiii m0 th aS aI im (nI a) (nI p1) (nI E) w1 3 aB aT se dn aG aO aN aD bv aY rn kd nu tv), (zaI aS cS 901 f1)] H → va_D A [(zo14irriiiiiirriirrrrlriiii m0 th aS aI im (nI a) (nI p1) (nI E) w1 3 aB aT se dn aG aO aN aD bv aY rn kd nu tv), (zaI aS cS 901 f1)] → va_S A s.heap H locs → ∀ (ls : Array Slot), lv_has ls 1 [(0, .ref m0)] → W p l e ({ frames := 12, cells := 0, slots := 0, locals := 259 } : Room) s m args below meth c H locs 0 0 Q (F0 m 4 ls []) := by
      intro nF
      induction nF with
      | zero => intro p1 k1 w1 f1 hm; exact absurd hm (Nat.not_lt_zero _)
      | succ nF ih4 =>
        intro p1 k1 w1 f1 hm h1 hF hw1 H locs hK hP hD hS ls hl
        obtain ⟨h1a, h1b⟩ := h1
        rcases hw1 with rfl | ⟨rfl, h3, hI, h4⟩
        · skip
          refine lv_aload_n hx hb dX12_every_4 rfl (lv_at hl 0 rfl) ?_
          refine va_get (D := (dC, dI)) (ci := 14) (v := .int 1) (C := RX12) (T := TX12) (N := 23) hx hb hts kc_every3_0 hown hK hP 0 rfl rfl 7 (by decide) (hts (.fieldLink RX12 65 "MistHeapsModel" "isWrong" "Z") kc_every3_1) (fun _ h9 => h9) rfl dX12_every_5 ?_
          refine lv_if_ne (tgt := 43) hx hb dX12_every_8 (by decide) (fun _ => ?_) (fun c_15 => absurd c_15 (by decide))
          rw [hQ]
          have hP9 := hP.sub (ws' := [(zo14irriiiiiirriirrrrlriiii m0 th aS aI im (nI a) (nI p1) (nI E) 1 3 aB aT se dn aG aO aN aD bv aY rn kd nu tv), (zaI aS cS 901 f1)]) [0, 1] rfl
          have hD9 := hD.sub (ws' := [(zo14irriiiiiirriirrrrlriiii m0 th aS aI im (nI a) (nI p1) (nI E) 1 3 aB aT se dn aG aO aN aD bv aY rn kd nu tv), (zaI aS cS 901 f1)]) [0, 1] (by decide) rfl
          have hK9 := hK.sub (tys' := [(cS, .int)]) [0] rfl
          exact W.vret hx hb hr (fun tQ htQ hWQ => ⟨⟨(f1, (nI p1), 1), rfl, ⟨p1, k, rfl, by omega, by omega, hF, Or.inl rfl⟩, by rw [htQ]; exact hP9, va_K.moved hWQ.alike hK9, hD9⟩, hS.F htQ⟩) hS.2.2 dX12_every_43
        · skip
          have k5 := hI.2.2.2.2.1
          refine lv_aload_n hx hb dX12_every_4 rfl (lv_at hl 0 rfl) ?_
          refine va_get (D := (dC, dI)) (ci := 14) (v := .int 0) (C := RX12) (T := TX12) (N := 23) hx hb hts kc_every3_0 hown hK hP 0 rfl rfl 7 (by decide) (hts (.fieldLink RX12 65 "MistHeapsModel" "isWrong" "Z") kc_every3_1) (fun _ h9 => h9) rfl dX12_every_5 ?_
          refine lv_if_ne (tgt := 43) hx hb dX12_every_8 (by decide) (fun c_16 => absurd c_16 (by decide)) (fun _ => ?_)
          refine lv_aload_n hx hb dX12_every_11 rfl (lv_at hl 0 rfl) ?_
          have hPc := hP.sub (ws' := [(zo14irriiiiiirriirrrrlriiii m0 th aS aI im (nI a) (nI p1) (nI E) 0 3 aB aT se dn aG aO aN aD bv aY rn kd nu tv), (zaI aS cS 901 f1)]) [0, 1] rfl
          have hKc := hK.sub (tys' := [(cS, .int)]) [0] rfl
          refine vp_callSi (va_runV (As := []) (rest := []) ⟨hx, hb, hml, hown, hts⟩ (c_here l dC dI m0 aS aI aB aT aG aO aN aD aY th im (nI a) (nI p1) (nI E) 0 3 se dn rn kd nu tv bv cS f1 a p1 E (by omega) (by omega) (by omega)) (cwV 0 hts gX12_every_X12_here rfl rfl rfl hd_yX12_here ⟨Nat.le_of_ble_eq_true rfl, Nat.le_of_ble_eq_true rfl⟩) ⟨fun a U g mk q => by obtain ⟨q0, qP, qK⟩ := q; exact ⟨q0, qP, va_K.moved (u := U) (U := U.calling g mk a) (Vm.Alike.refl U.vm) qK⟩, va_recv hK hP (ci := 14) (q := (RX12, TX12, 23)) (q0 := 0) rfl rfl, fun U hU hW => ⟨rfl, by rw [hU]; exact hPc, va_K.moved hW.alike hKc⟩⟩ rfl rfl hl.1 rfl (lv_room (Nat.le_of_ble_eq_true rfl)) dX12_every_12 ⟨Nat.le_of_ble_eq_true rfl, Nat.le_of_ble_eq_true rfl⟩).run (fun r_17 hw_18 => ?_)
          refine lv_bipush (v := 38) hx hb dX12_every_15 (by decide) ?_
          refine lv_icmp_ne (tgt := 43) hx hb dX12_every_17 (by decide) (fun c_19 => ?_) (fun c_19 => ?_)
          · skip
            rw [hQ]
            have hP9 := hP.sub (ws' := [(zo14irriiiiiirriirrrrlriiii m0 th aS aI im (nI a) (nI p1) (nI E) 0 3 aB aT se dn aG aO aN aD bv aY rn kd nu tv), (zaI aS cS 901 f1)]) [0, 1] rfl
            have hD9 := hD.sub (ws' := [(zo14irriiiiiirriirrrrlriiii m0 th aS aI im (nI a) (nI p1) (nI E) 0 3 aB aT se dn aG aO aN aD bv aY rn kd nu tv), (zaI aS cS 901 f1)]) [0, 1] (by decide) rfl
            have hK9 := hK.sub (tys' := [(cS, .int)]) [0] rfl
            exact W.vret hx hb hr (fun tQ htQ hWQ => ⟨⟨(f1, (nI p1), 0), rfl, ⟨p1, k1, rfl, by omega, by omega, hF, Or.inr ⟨rfl, by omega, hI, by omega⟩⟩, by rw [htQ]; exact hP9, va_K.moved hWQ.alike hK9, hD9⟩, hS.F htQ⟩) hS.2.2 dX12_every_43
          · skip
            have hlt : p1 < E := hv_lt (f := f1) (by rw [← hw_18, c_19]; decide)
            refine lv_aload_n hx hb dX12_every_20 rfl (lv_at hl 0 rfl) ?_
            refine lv_dup hx hb dX12_every_21 rfl ?_
            refine va_get (D := (dC, dI)) (ci := 14) (v := .int (nI p1)) (C := RX12) (T := TX12) (N := 23) hx hb hts kc_every3_0 hown hK hP 0 rfl rfl 5 (by decide) (hts (.fieldLink RX12 59 "MistHeapsModel" "spot" "I") kc_every3_2) (fun _ h9 => h9) rfl dX12_every_22 ?_
            refine lv_iconst (v := 1) hx hb dX12_every_25 (by decide) ?_
            refine lv_iadd hx hb dX12_every_26 ?_
            refine qi_as (y := nI (p1 + 1)) (nI_add p1 1) ?_
            refine va_put (D := (dC, dI)) (ci := 14) (v := .int (nI (p1 + 1))) (ty := .int) (C := RX12) (T := TX12) (N := 23) hx hb hts kc_every3_0 tyX12 tyX12_ok nmX12 hown hK hP hD hS 0 rfl rfl 5 (by decide) (hts (.fieldLink RX12 59 "MistHeapsModel" "spot" "I") kc_every3_2) (fun _ h9 => h9) rfl (by decide +kernel) rfl rfl (Nat.le_of_ble_eq_true rfl) dX12_every_27 (fun H locs hP hD hS => ?_)
            have hP : va_P (dC, dI) vwCl [(zo14irriiiiiirriirrrrlriiii m0 th aS aI im (nI a) (nI (p1 + 1)) (nI E) 0 3 aB aT se dn aG aO aN aD bv aY rn kd nu tv), (zaI aS cS 901 f1)] H := hP
            have hD : va_D A [(zo14irriiiiiirriirrrrlriiii m0 th aS aI im (nI a) (nI (p1 + 1)) (nI E) 0 3 aB aT se dn aG aO aN aD bv aY rn kd nu tv), (zaI aS cS 901 f1)] := hD
            refine lv_aload_n hx hb dX12_every_30 rfl (lv_at hl 0 rfl) ?_
            have hPc := hP.sub (ws' := [(zo14irriiiiiirriirrrrlriiii m0 th aS aI im (nI a) (nI (p1 + 1)) (nI E) 0 3 aB aT se dn aG aO aN aD bv aY rn kd nu tv), (zaI aS cS 901 f1)]) [0, 1] rfl
            have hDc := hD.sub (ws' := [(zo14irriiiiiirriirrrrlriiii m0 th aS aI im (nI a) (nI (p1 + 1)) (nI E) 0 3 aB aT se dn aG aO aN aD bv aY rn kd nu tv), (zaI aS cS 901 f1)]) [0, 1] (by decide) rfl
            have hKc := hK.sub (tys' := [(cS, .int)]) [0] rfl
            have hFc := va_free (wc := [(zo14irriiiiiirriirrrrlriiii m0 th aS aI im (nI a) (nI (p1 + 1)) (nI E) 0 3 aB aT se dn aG aO aN aD bv aY rn kd nu tv), (zaI aS cS 901 f1)]) hD hS hA [0, 1] rfl
            refine va_callv (va_runV (As := []) (rest := []) ⟨hx, hb, hml, hown, hts⟩ (c_factor3 l dC dI sK sV m0 aS aI aB aT aG aO aN aD aY th im (nI a) (nI (p1 + 1)) (nI E) 0 3 se dn rn kd nu tv bv cS f1 a (p1 + 1) E k1 (d + 1) H.size ((hI).mono (by omega) (by omega))) (cwV 0 hts gX12_every_X12_factor rfl rfl rfl hd_yX12_factor ⟨Nat.le_of_ble_eq_true rfl, Nat.le_of_ble_eq_true rfl⟩) ⟨fun a U g mk q => by obtain ⟨q0, q1, qP, qK, qD, qhE⟩ := q; exact ⟨q0, q1, qP, va_K.moved (u := U) (U := U.calling g mk a) (Vm.Alike.refl U.vm) qK, qD, qhE.same rfl rfl⟩, va_recv hK hP (ci := 14) (q := (RX12, TX12, 23)) (q0 := 0) rfl rfl, fun U hU hW => ⟨rfl, by rw [hU], by rw [hU]; exact hPc, va_K.moved hW.alike hKc, hDc.weaken (fun _ _ _ _ => trivial), hE.call hS hU hW (fun q h => hFc q h)⟩⟩ rfl rfl hl.1 rfl (lv_room (Nat.le_of_ble_eq_true rfl)) dX12_every_31 ⟨Nat.le_of_ble_eq_true rfl, Nat.le_of_ble_eq_true rfl⟩) hS (fun q _ h => hFc q h) hFc (fun u tC H1 locs htC hvm hw_21 hB hz1 hk1 hS => ?_)
            obtain ⟨fS9_22, sp9_23, wg9_24⟩ := u
            try dsimp only at hw_21 hB
            obtain ⟨hP1, hK1, hD1⟩ := hB
            rw [htC] at hP1
            have hK1 := va_K.moved hvm.symm hK1
            obtain ⟨hP, hD⟩ := va_join (wr := []) (w1 := [(zo14irriiiiiirriirrrrlriiii m0 th aS aI im (nI a) sp9_23 (nI E) wg9_24 3 aB aT se dn aG aO aN aD bv aY rn kd nu tv), (zaI aS cS 901 fS9_22)]) hP hD [0, 1] [] rfl rfl (by decide) (by decide) hk1 hFc hP1 hD1
            have hK := (hK.sub (tys' := []) [] rfl).app hK1
            generalize H1 = H at hP hS ⊢
            have hP : va_P (dC, dI) vwCl [(zo14irriiiiiirriirrrrlriiii m0 th aS aI im (nI a) sp9_23 (nI E) wg9_24 3 aB aT se dn aG aO aN aD bv aY rn kd nu tv), (zaI aS cS 901 fS9_22)] H := hP
            have hD : va_D A [(zo14irriiiiiirriirrrrlriiii m0 th aS aI im (nI a) sp9_23 (nI E) wg9_24 3 aB aT se dn aG aO aN aD bv aY rn kd nu tv), (zaI aS cS 901 fS9_22)] := hD
            have hK : va_K (dC, dI) vwCl [(cS, .int)] s := hK
            obtain ⟨p_25, k_26, rfl, h_28, h_29, hF_30, q9⟩ := hw_21
            rcases q9 with rfl | ⟨rfl, h_31, hI_32, h_33⟩
            · skip
              refine lv_aload_n hx hb dX12_every_34 rfl (lv_at hl 0 rfl) ?_
              refine lv_bipush (v := (-2)) hx hb dX12_every_35 (by decide) ?_
              have hPc := hP.sub (ws' := [(zo14irriiiiiirriirrrrlriiii m0 th aS aI im (nI a) (nI p_25) (nI E) 1 3 aB aT se dn aG aO aN aD bv aY rn kd nu tv)]) [0] rfl
              have hKc := hK.sub (tys' := []) [] rfl
              refine va_csv (va_runV (As := [.int (-2)]) (rest := []) ⟨hx, hb, hml, hown, hts⟩ (c_emitsW l dC dI m0 aS aI aB aT aG aO aN aD aY th im (nI a) (nI p_25) (nI E) 1 3 se dn rn kd nu tv bv (-2)) (cwV 1 hts gX12_every_X12_emits rfl rfl rfl hd_yX12_emits ⟨Nat.le_of_ble_eq_true rfl, Nat.le_of_ble_eq_true rfl⟩) ⟨fun a U g mk q => by obtain ⟨q0, qP, qK⟩ := q; exact ⟨q0, qP, va_K.moved (u := U) (U := U.calling g mk a) (Vm.Alike.refl U.vm) qK⟩, va_recv hK hP (ci := 14) (q := (RX12, TX12, 23)) (q0 := 0) rfl rfl, fun U hU hW => ⟨rfl, by rw [hU]; exact hPc, va_K.moved hW.alike hKc⟩⟩ rfl rfl hl.1 rfl (lv_room (Nat.le_of_ble_eq_true rfl)) dX12_every_37 ⟨Nat.le_of_ble_eq_true rfl, Nat.le_of_ble_eq_true rfl⟩).run (fun hw_35 => ?_)
              refine lv_goto (tgt := 4) hx hb dX12_every_40 (by decide) ?_
              exact ih4 (p_25) (k) (1) (fS9_22) (by omega) (by omega) ((hF).tr hF_30) (Or.inl rfl) _ _ (hK.sub [0] rfl) (hP.sub [0, 1] rfl) (hD.sub [0, 1] (by decide) rfl) hS ls (lv_sub hl [0] rfl)
            · skip
              have k5 := hI_32.2.2.2.2.1
              refine lv_aload_n hx hb dX12_every_34 rfl (lv_at hl 0 rfl) ?_
              refine lv_bipush (v := (-2)) hx hb dX12_every_35 (by decide) ?_
              have hPc := hP.sub (ws' := [(zo14irriiiiiirriirrrrlriiii m0 th aS aI im (nI a) (nI p_25) (nI E) 0 3 aB aT se dn aG aO aN aD bv aY rn kd nu tv), (zaI aS cS 901 fS9_22)]) [0, 1] rfl
              have hDc := hD.sub (ws' := [(zo14irriiiiiirriirrrrlriiii m0 th aS aI im (nI a) (nI p_25) (nI E) 0 3 aB aT se dn aG aO aN aD bv aY rn kd nu tv), (zaI aS cS 901 fS9_22)]) [0, 1] (by decide) rfl
              have hKc := hK.sub (tys' := [(cS, .int)]) [0] rfl
              have hFc := va_free (wc := [(zo14irriiiiiirriirrrrlriiii m0 th aS aI im (nI a) (nI p_25) (nI E) 0 3 aB aT se dn aG aO aN aD bv aY rn kd nu tv), (zaI aS cS 901 fS9_22)]) hD hS hA [0, 1] rfl
              refine va_callv (va_runV (As := [.int (-2)]) (rest := []) ⟨hx, hb, hml, hown, hts⟩ (c_emits l dC dI m0 aS aI aB aT aG aO aN aD aY th im (nI a) (nI p_25) (nI E) 0 3 se dn rn kd nu tv bv cS fS9_22 a k_26 (-2) H.size (ga) ((hI_32).2.2.2.1) (by have := (hI_32).2.2.2.2.1; omega)) (cwV 1 hts gX12_every_X12_emits rfl rfl rfl hd_yX12_emits ⟨Nat.le_of_ble_eq_true rfl, Nat.le_of_ble_eq_true rfl⟩) ⟨fun a U g mk q => by obtain ⟨q0, q1, qP, qK, qD⟩ := q; exact ⟨q0, q1, qP, va_K.moved (u := U) (U := U.calling g mk a) (Vm.Alike.refl U.vm) qK, qD⟩, va_recv hK hP (ci := 14) (q := (RX12, TX12, 23)) (q0 := 0) rfl rfl, fun U hU hW => ⟨rfl, by rw [hU], by rw [hU]; exact hPc, va_K.moved hW.alike hKc, hDc.weaken (fun _ _ _ _ => trivial)⟩⟩ rfl rfl hl.1 rfl (lv_room (Nat.le_of_ble_eq_true rfl)) dX12_every_37 ⟨Nat.le_of_ble_eq_true rfl, Nat.le_of_ble_eq_true rfl⟩) hS (fun q _ h => hFc q h) hFc (fun u tC H1 locs htC hvm hw_37 hB hz1 hk1 hS => ?_)
              obtain ⟨fS9_38, rfl⟩ : ∃ z, z = u := ⟨_, rfl⟩
              try dsimp only at hw_37 hB
              obtain ⟨hP1, hK1, hD1⟩ := hB
              rw [htC] at hP1
              have hK1 := va_K.moved hvm.symm hK1
              obtain ⟨hP, hD⟩ := va_join (wr := []) (w1 := [(zo14irriiiiiirriirrrrlriiii m0 th aS aI im (nI a) (nI p_25) (nI E) 0 3 aB aT se dn aG aO aN aD bv aY rn kd nu tv), (zaI aS cS 901 fS9_38)]) hP hD [0, 1] [] rfl rfl (by decide) (by decide) hk1 hFc hP1 hD1
              have hK := (hK.sub (tys' := []) [] rfl).app hK1
              generalize H1 = H at hP hS ⊢
              have hP : va_P (dC, dI) vwCl [(zo14irriiiiiirriirrrrlriiii m0 th aS aI im (nI a) (nI p_25) (nI E) 0 3 aB aT se dn aG aO aN aD bv aY rn kd nu tv), (zaI aS cS 901 fS9_38)] H := hP
              have hD : va_D A [(zo14irriiiiiirriirrrrlriiii m0 th aS aI im (nI a) (nI p_25) (nI E) 0 3 aB aT se dn aG aO aN aD bv aY rn kd nu tv), (zaI aS cS 901 fS9_38)] := hD
              have hK : va_K (dC, dI) vwCl [(cS, .int)] s := hK
              obtain rfl : fS9_38 = emt fS9_22 a k_26 (-2) := by rcases hw_37 with ⟨q, _⟩ | ⟨_, q⟩; exact absurd rfl q; exact q
              have hI_40 : PI (emt fS9_22 a k_26 (-2)) a (k_26 + 1) (((d + 1) + 1) - 1) p_25 E := ((hI_32).mono (by omega) (by omega)).em (by omega) (by omega) (stepd_both (by omega))
              have hF_41 : PF a fS (emt fS9_22 a k_26 (-2)) := ((hF).tr hF_30).tr (PF_emt (k := k_26) (x := (-2)) ga (by have := (hI_32).2.2.2.2.1; omega))
              refine lv_goto (tgt := 4) hx hb dX12_every_40 (by decide) ?_
              exact ih4 (p_25) ((k_26 + 1)) (0) (emt fS9_22 a k_26 (-2)) (by omega) (by omega) (hF_41) (Or.inr ⟨rfl, by omega, hI_40, by omega⟩) _ _ (hK.sub [0] rfl) (hP.sub [0, 1] rfl) (hD.sub [0, 1] (by decide) rfl) hS ls (lv_sub hl [0] rfl)
    exact L4 _ (p_6) (k) (1) (fS9_3) (Nat.lt_succ_self _) (by omega) ((PF.rf).tr hF_11) (Or.inl rfl) _ _ (hK.sub [0] rfl) (hP.sub [0, 1] rfl) (hD.sub [0, 1] (by decide) rfl) hS ls (lv_sub hl [0] rfl)
  · skip
    have k5 := hI_13.2.2.2.2.1
    have L4 : ∀ (nF : Nat) (p1 : Nat) (k1 : Nat) (w1 : Int32) (f1 : Nat → Int32), E - p1 < nF → (p0 ≤ p1 ∧ p1 ≤ E) → (PF a fS f1) → (w1 = 1 ∨ (w1 = 0 ∧ p0 + 3 ≤ p1 ∧ PI f1 a k1 (d + 1) p1 E ∧ k1 + p0 ≤ k + p1)) → ∀ (H : Heap) (locs : List Loc), va_K (dC, dI) vwCl [(cS, .int)] s → va_P (dC, dI) vwCl [(zo14irriiiiiirriirrrrlriiii m0 th aS aI im (nI a) (nI p1) (nI E) w1 3 aB aT se dn aG aO aN aD bv aY rn kd nu tv), (zaI aS cS 901 f1)] H → va_D A [(zo14irriiiiiirriirrrrlriiii m0 th aS aI im (nI a) (nI p1) (nI E) w1 3 aB aT se dn aG aO aN aD bv aY rn kd nu tv), (zaI aS cS 901 f1)] → va_S A s.heap H locs → ∀ (ls : Array Slot), lv_has ls 1 [(0, .ref m0)] → W p l e ({ frames := 12, cells := 0, slots := 0, locals := 259 } : Room) s m args below meth c H locs 0 0 Q (F0 m 4 ls []) := by
      intro nF
      induction nF with
      | zero => intro p1 k1 w1 f1 hm; exact absurd hm (Nat.not_lt_zero _)
      | succ nF ih4 =>
        intro p1 k1 w1 f1 hm h1 hF hw1 H locs hK hP hD hS ls hl
        obtain ⟨h1a, h1b⟩ := h1
        rcases hw1 with rfl | ⟨rfl, h3, hI, h4⟩
        · skip
          refine lv_aload_n hx hb dX12_every_4 rfl (lv_at hl 0 rfl) ?_
          refine va_get (D := (dC, dI)) (ci := 14) (v := .int 1) (C := RX12) (T := TX12) (N := 23) hx hb hts kc_every3_0 hown hK hP 0 rfl rfl 7 (by decide) (hts (.fieldLink RX12 65 "MistHeapsModel" "isWrong" "Z") kc_every3_1) (fun _ h9 => h9) rfl dX12_every_5 ?_
          refine lv_if_ne (tgt := 43) hx hb dX12_every_8 (by decide) (fun _ => ?_) (fun c_42 => absurd c_42 (by decide))
          rw [hQ]
          have hP9 := hP.sub (ws' := [(zo14irriiiiiirriirrrrlriiii m0 th aS aI im (nI a) (nI p1) (nI E) 1 3 aB aT se dn aG aO aN aD bv aY rn kd nu tv), (zaI aS cS 901 f1)]) [0, 1] rfl
          have hD9 := hD.sub (ws' := [(zo14irriiiiiirriirrrrlriiii m0 th aS aI im (nI a) (nI p1) (nI E) 1 3 aB aT se dn aG aO aN aD bv aY rn kd nu tv), (zaI aS cS 901 f1)]) [0, 1] (by decide) rfl
          have hK9 := hK.sub (tys' := [(cS, .int)]) [0] rfl
          exact W.vret hx hb hr (fun tQ htQ hWQ => ⟨⟨(f1, (nI p1), 1), rfl, ⟨p1, k, rfl, by omega, by omega, hF, Or.inl rfl⟩, by rw [htQ]; exact hP9, va_K.moved hWQ.alike hK9, hD9⟩, hS.F htQ⟩) hS.2.2 dX12_every_43
        · skip
          have k5 := hI.2.2.2.2.1
          refine lv_aload_n hx hb dX12_every_4 rfl (lv_at hl 0 rfl) ?_
          refine va_get (D := (dC, dI)) (ci := 14) (v := .int 0) (C := RX12) (T := TX12) (N := 23) hx hb hts kc_every3_0 hown hK hP 0 rfl rfl 7 (by decide) (hts (.fieldLink RX12 65 "MistHeapsModel" "isWrong" "Z") kc_every3_1) (fun _ h9 => h9) rfl dX12_every_5 ?_
          refine lv_if_ne (tgt := 43) hx hb dX12_every_8 (by decide) (fun c_43 => absurd c_43 (by decide)) (fun _ => ?_)
          refine lv_aload_n hx hb dX12_every_11 rfl (lv_at hl 0 rfl) ?_
          have hPc := hP.sub (ws' := [(zo14irriiiiiirriirrrrlriiii m0 th aS aI im (nI a) (nI p1) (nI E) 0 3 aB aT se dn aG aO aN aD bv aY rn kd nu tv), (zaI aS cS 901 f1)]) [0, 1] rfl
          have hKc := hK.sub (tys' := [(cS, .int)]) [0] rfl
          refine vp_callSi (va_runV (As := []) (rest := []) ⟨hx, hb, hml, hown, hts⟩ (c_here l dC dI m0 aS aI aB aT aG aO aN aD aY th im (nI a) (nI p1) (nI E) 0 3 se dn rn kd nu tv bv cS f1 a p1 E (by omega) (by omega) (by omega)) (cwV 0 hts gX12_every_X12_here rfl rfl rfl hd_yX12_here ⟨Nat.le_of_ble_eq_true rfl, Nat.le_of_ble_eq_true rfl⟩) ⟨fun a U g mk q => by obtain ⟨q0, qP, qK⟩ := q; exact ⟨q0, qP, va_K.moved (u := U) (U := U.calling g mk a) (Vm.Alike.refl U.vm) qK⟩, va_recv hK hP (ci := 14) (q := (RX12, TX12, 23)) (q0 := 0) rfl rfl, fun U hU hW => ⟨rfl, by rw [hU]; exact hPc, va_K.moved hW.alike hKc⟩⟩ rfl rfl hl.1 rfl (lv_room (Nat.le_of_ble_eq_true rfl)) dX12_every_12 ⟨Nat.le_of_ble_eq_true rfl, Nat.le_of_ble_eq_true rfl⟩).run (fun r_44 hw_45 => ?_)
          refine lv_bipush (v := 38) hx hb dX12_every_15 (by decide) ?_
          refine lv_icmp_ne (tgt := 43) hx hb dX12_every_17 (by decide) (fun c_46 => ?_) (fun c_46 => ?_)
          · skip
            rw [hQ]
            have hP9 := hP.sub (ws' := [(zo14irriiiiiirriirrrrlriiii m0 th aS aI im (nI a) (nI p1) (nI E) 0 3 aB aT se dn aG aO aN aD bv aY rn kd nu tv), (zaI aS cS 901 f1)]) [0, 1] rfl
            have hD9 := hD.sub (ws' := [(zo14irriiiiiirriirrrrlriiii m0 th aS aI im (nI a) (nI p1) (nI E) 0 3 aB aT se dn aG aO aN aD bv aY rn kd nu tv), (zaI aS cS 901 f1)]) [0, 1] (by decide) rfl
            have hK9 := hK.sub (tys' := [(cS, .int)]) [0] rfl
            exact W.vret hx hb hr (fun tQ htQ hWQ => ⟨⟨(f1, (nI p1), 0), rfl, ⟨p1, k1, rfl, by omega, by omega, hF, Or.inr ⟨rfl, by omega, hI, by omega⟩⟩, by rw [htQ]; exact hP9, va_K.moved hWQ.alike hK9, hD9⟩, hS.F htQ⟩) hS.2.2 dX12_every_43
          · skip
            have hlt : p1 < E := hv_lt (f := f1) (by rw [← hw_45, c_46]; decide)
            refine lv_aload_n hx hb dX12_every_20 rfl (lv_at hl 0 rfl) ?_
            refine lv_dup hx hb dX12_every_21 rfl ?_
            refine va_get (D := (dC, dI)) (ci := 14) (v := .int (nI p1)) (C := RX12) (T := TX12) (N := 23) hx hb hts kc_every3_0 hown hK hP 0 rfl rfl 5 (by decide) (hts (.fieldLink RX12 59 "MistHeapsModel" "spot" "I") kc_every3_2) (fun _ h9 => h9) rfl dX12_every_22 ?_
            refine lv_iconst (v := 1) hx hb dX12_every_25 (by decide) ?_
            refine lv_iadd hx hb dX12_every_26 ?_
            refine qi_as (y := nI (p1 + 1)) (nI_add p1 1) ?_
            refine va_put (D := (dC, dI)) (ci := 14) (v := .int (nI (p1 + 1))) (ty := .int) (C := RX12) (T := TX12) (N := 23) hx hb hts kc_every3_0 tyX12 tyX12_ok nmX12 hown hK hP hD hS 0 rfl rfl 5 (by decide) (hts (.fieldLink RX12 59 "MistHeapsModel" "spot" "I") kc_every3_2) (fun _ h9 => h9) rfl (by decide +kernel) rfl rfl (Nat.le_of_ble_eq_true rfl) dX12_every_27 (fun H locs hP hD hS => ?_)
            have hP : va_P (dC, dI) vwCl [(zo14irriiiiiirriirrrrlriiii m0 th aS aI im (nI a) (nI (p1 + 1)) (nI E) 0 3 aB aT se dn aG aO aN aD bv aY rn kd nu tv), (zaI aS cS 901 f1)] H := hP
            have hD : va_D A [(zo14irriiiiiirriirrrrlriiii m0 th aS aI im (nI a) (nI (p1 + 1)) (nI E) 0 3 aB aT se dn aG aO aN aD bv aY rn kd nu tv), (zaI aS cS 901 f1)] := hD
            refine lv_aload_n hx hb dX12_every_30 rfl (lv_at hl 0 rfl) ?_
            have hPc := hP.sub (ws' := [(zo14irriiiiiirriirrrrlriiii m0 th aS aI im (nI a) (nI (p1 + 1)) (nI E) 0 3 aB aT se dn aG aO aN aD bv aY rn kd nu tv), (zaI aS cS 901 f1)]) [0, 1] rfl
            have hDc := hD.sub (ws' := [(zo14irriiiiiirriirrrrlriiii m0 th aS aI im (nI a) (nI (p1 + 1)) (nI E) 0 3 aB aT se dn aG aO aN aD bv aY rn kd nu tv), (zaI aS cS 901 f1)]) [0, 1] (by decide) rfl
            have hKc := hK.sub (tys' := [(cS, .int)]) [0] rfl
            have hFc := va_free (wc := [(zo14irriiiiiirriirrrrlriiii m0 th aS aI im (nI a) (nI (p1 + 1)) (nI E) 0 3 aB aT se dn aG aO aN aD bv aY rn kd nu tv), (zaI aS cS 901 f1)]) hD hS hA [0, 1] rfl
            refine va_callv (va_runV (As := []) (rest := []) ⟨hx, hb, hml, hown, hts⟩ (c_factor3 l dC dI sK sV m0 aS aI aB aT aG aO aN aD aY th im (nI a) (nI (p1 + 1)) (nI E) 0 3 se dn rn kd nu tv bv cS f1 a (p1 + 1) E k1 (d + 1) H.size ((hI).mono (by omega) (by omega))) (cwV 0 hts gX12_every_X12_factor rfl rfl rfl hd_yX12_factor ⟨Nat.le_of_ble_eq_true rfl, Nat.le_of_ble_eq_true rfl⟩) ⟨fun a U g mk q => by obtain ⟨q0, q1, qP, qK, qD, qhE⟩ := q; exact ⟨q0, q1, qP, va_K.moved (u := U) (U := U.calling g mk a) (Vm.Alike.refl U.vm) qK, qD, qhE.same rfl rfl⟩, va_recv hK hP (ci := 14) (q := (RX12, TX12, 23)) (q0 := 0) rfl rfl, fun U hU hW => ⟨rfl, by rw [hU], by rw [hU]; exact hPc, va_K.moved hW.alike hKc, hDc.weaken (fun _ _ _ _ => trivial), hE.call hS hU hW (fun q h => hFc q h)⟩⟩ rfl rfl hl.1 rfl (lv_room (Nat.le_of_ble_eq_true rfl)) dX12_every_31 ⟨Nat.le_of_ble_eq_true rfl, Nat.le_of_ble_eq_true rfl⟩) hS (fun q _ h => hFc q h) hFc (fun u tC H1 locs htC hvm hw_48 hB hz1 hk1 hS => ?_)
            obtain ⟨fS9_49, sp9_50, wg9_51⟩ := u
            try dsimp only at hw_48 hB
            obtain ⟨hP1, hK1, hD1⟩ := hB
            rw [htC] at hP1
            have hK1 := va_K.moved hvm.symm hK1
            obtain ⟨hP, hD⟩ := va_join (wr := []) (w1 := [(zo14irriiiiiirriirrrrlriiii m0 th aS aI im (nI a) sp9_50 (nI E) wg9_51 3 aB aT se dn aG aO aN aD bv aY rn kd nu tv), (zaI aS cS 901 fS9_49)]) hP hD [0, 1] [] rfl rfl (by decide) (by decide) hk1 hFc hP1 hD1
            have hK := (hK.sub (tys' := []) [] rfl).app hK1
            generalize H1 = H at hP hS ⊢
            have hP : va_P (dC, dI) vwCl [(zo14irriiiiiirriirrrrlriiii m0 th aS aI im (nI a) sp9_50 (nI E) wg9_51 3 aB aT se dn aG aO aN aD bv aY rn kd nu tv), (zaI aS cS 901 fS9_49)] H := hP
            have hD : va_D A [(zo14irriiiiiirriirrrrlriiii m0 th aS aI im (nI a) sp9_50 (nI E) wg9_51 3 aB aT se dn aG aO aN aD bv aY rn kd nu tv), (zaI aS cS 901 fS9_49)] := hD
            have hK : va_K (dC, dI) vwCl [(cS, .int)] s := hK
            obtain ⟨p_52, k_53, rfl, h_55, h_56, hF_57, q9⟩ := hw_48
            rcases q9 with rfl | ⟨rfl, h_58, hI_59, h_60⟩
            · skip
              refine lv_aload_n hx hb dX12_every_34 rfl (lv_at hl 0 rfl) ?_
              refine lv_bipush (v := (-2)) hx hb dX12_every_35 (by decide) ?_
              have hPc := hP.sub (ws' := [(zo14irriiiiiirriirrrrlriiii m0 th aS aI im (nI a) (nI p_52) (nI E) 1 3 aB aT se dn aG aO aN aD bv aY rn kd nu tv)]) [0] rfl
              have hKc := hK.sub (tys' := []) [] rfl
              refine va_csv (va_runV (As := [.int (-2)]) (rest := []) ⟨hx, hb, hml, hown, hts⟩ (c_emitsW l dC dI m0 aS aI aB aT aG aO aN aD aY th im (nI a) (nI p_52) (nI E) 1 3 se dn rn kd nu tv bv (-2)) (cwV 1 hts gX12_every_X12_emits rfl rfl rfl hd_yX12_emits ⟨Nat.le_of_ble_eq_true rfl, Nat.le_of_ble_eq_true rfl⟩) ⟨fun a U g mk q => by obtain ⟨q0, qP, qK⟩ := q; exact ⟨q0, qP, va_K.moved (u := U) (U := U.calling g mk a) (Vm.Alike.refl U.vm) qK⟩, va_recv hK hP (ci := 14) (q := (RX12, TX12, 23)) (q0 := 0) rfl rfl, fun U hU hW => ⟨rfl, by rw [hU]; exact hPc, va_K.moved hW.alike hKc⟩⟩ rfl rfl hl.1 rfl (lv_room (Nat.le_of_ble_eq_true rfl)) dX12_every_37 ⟨Nat.le_of_ble_eq_true rfl, Nat.le_of_ble_eq_true rfl⟩).run (fun hw_62 => ?_)
              refine lv_goto (tgt := 4) hx hb dX12_every_40 (by decide) ?_
              exact ih4 (p_52) (k) (1) (fS9_49) (by omega) (by omega) ((hF).tr hF_57) (Or.inl rfl) _ _ (hK.sub [0] rfl) (hP.sub [0, 1] rfl) (hD.sub [0, 1] (by decide) rfl) hS ls (lv_sub hl [0] rfl)
            · skip
              have k5 := hI_59.2.2.2.2.1
              refine lv_aload_n hx hb dX12_every_34 rfl (lv_at hl 0 rfl) ?_
              refine lv_bipush (v := (-2)) hx hb dX12_every_35 (by decide) ?_
              have hPc := hP.sub (ws' := [(zo14irriiiiiirriirrrrlriiii m0 th aS aI im (nI a) (nI p_52) (nI E) 0 3 aB aT se dn aG aO aN aD bv aY rn kd nu tv), (zaI aS cS 901 fS9_49)]) [0, 1] rfl
              have hDc := hD.sub (ws' := [(zo14irriiiiiirriirrrrlriiii m0 th aS aI im (nI a) (nI p_52) (nI E) 0 3 aB aT se dn aG aO aN aD bv aY rn kd nu tv), (zaI aS cS 901 fS9_49)]) [0, 1] (by decide) rfl
              have hKc := hK.sub (tys' := [(cS, .int)]) [0] rfl
              have hFc := va_free (wc := [(zo14irriiiiiirriirrrrlriiii m0 th aS aI im (nI a) (nI p_52) (nI E) 0 3 aB aT se dn aG aO aN aD bv aY rn kd nu tv), (zaI aS cS 901 fS9_49)]) hD hS hA [0, 1] rfl
              refine va_callv (va_runV (As := [.int (-2)]) (rest := []) ⟨hx, hb, hml, hown, hts⟩ (c_emits l dC dI m0 aS aI aB aT aG aO aN aD aY th im (nI a) (nI p_52) (nI E) 0 3 se dn rn kd nu tv bv cS fS9_49 a k_53 (-2) H.size (ga) ((hI_59).2.2.2.1) (by have := (hI_59).2.2.2.2.1; omega)) (cwV 1 hts gX12_every_X12_emits rfl rfl rfl hd_yX12_emits ⟨Nat.le_of_ble_eq_true rfl, Nat.le_of_ble_eq_true rfl⟩) ⟨fun a U g mk q => by obtain ⟨q0, q1, qP, qK, qD⟩ := q; exact ⟨q0, q1, qP, va_K.moved (u := U) (U := U.calling g mk a) (Vm.Alike.refl U.vm) qK, qD⟩, va_recv hK hP (ci := 14) (q := (RX12, TX12, 23)) (q0 := 0) rfl rfl, fun U hU hW => ⟨rfl, by rw [hU], by rw [hU]; exact hPc, va_K.moved hW.alike hKc, hDc.weaken (fun _ _ _ _ => trivial)⟩⟩ rfl rfl hl.1 rfl (lv_room (Nat.le_of_ble_eq_true rfl)) dX12_every_37 ⟨Nat.le_of_ble_eq_true rfl, Nat.le_of_ble_eq_true rfl⟩) hS (fun q _ h => hFc q h) hFc (fun u tC H1 locs htC hvm hw_64 hB hz1 hk1 hS => ?_)
              obtain ⟨fS9_65, rfl⟩ : ∃ z, z = u := ⟨_, rfl⟩
              try dsimp only at hw_64 hB
              obtain ⟨hP1, hK1, hD1⟩ := hB
              rw [htC] at hP1
              have hK1 := va_K.moved hvm.symm hK1
              obtain ⟨hP, hD⟩ := va_join (wr := []) (w1 := [(zo14irriiiiiirriirrrrlriiii m0 th aS aI im (nI a) (nI p_52) (nI E) 0 3 aB aT se dn aG aO aN aD bv aY rn kd nu tv), (zaI aS cS 901 fS9_65)]) hP hD [0, 1] [] rfl rfl (by decide) (by decide) hk1 hFc hP1 hD1
              have hK := (hK.sub (tys' := []) [] rfl).app hK1
              generalize H1 = H at hP hS ⊢
              have hP : va_P (dC, dI) vwCl [(zo14irriiiiiirriirrrrlriiii m0 th aS aI im (nI a) (nI p_52) (nI E) 0 3 aB aT se dn aG aO aN aD bv aY rn kd nu tv), (zaI aS cS 901 fS9_65)] H := hP
              have hD : va_D A [(zo14irriiiiiirriirrrrlriiii m0 th aS aI im (nI a) (nI p_52) (nI E) 0 3 aB aT se dn aG aO aN aD bv aY rn kd nu tv), (zaI aS cS 901 fS9_65)] := hD
              have hK : va_K (dC, dI) vwCl [(cS, .int)] s := hK
              obtain rfl : fS9_65 = emt fS9_49 a k_53 (-2) := by rcases hw_64 with ⟨q, _⟩ | ⟨_, q⟩; exact absurd rfl q; exact q
              have hI_67 : PI (emt fS9_49 a k_53 (-2)) a (k_53 + 1) (((d + 1) + 1) - 1) p_52 E := ((hI_59).mono (by omega) (by omega)).em (by omega) (by omega) (stepd_both (by omega))
              have hF_68 : PF a fS (emt fS9_49 a k_53 (-2)) := ((hF).tr hF_57).tr (PF_emt (k := k_53) (x := (-2)) ga (by have := (hI_59).2.2.2.2.1; omega))
              refine lv_goto (tgt := 4) hx hb dX12_every_40 (by decide) ?_
              exact ih4 (p_52) ((k_53 + 1)) (0) (emt fS9_49 a k_53 (-2)) (by omega) (by omega) (hF_68) (Or.inr ⟨rfl, by omega, hI_67, by omega⟩) _ _ (hK.sub [0] rfl) (hP.sub [0, 1] rfl) (hD.sub [0, 1] (by decide) rfl) hS ls (lv_sub hl [0] rfl)
    exact L4 _ (p_6) (k_7) (0) (fS9_3) (Nat.lt_succ_self _) (by omega) ((PF.rf).tr hF_11) (Or.inr ⟨rfl, by omega, hI_13, by omega⟩) _ _ (hK.sub [0] rfl) (hP.sub [0, 1] rfl) (hD.sub [0, 1] (by decide) rfl) hS ls (lv_sub hl [0] rfl)

theorem kc_some3_0 : ∀ w ∈ wsX120, w ∈ wsX12_some := fun w h => List.mem_cons_of_mem _ (gin_wsX120 w h)
theorem kc_some3_1 : (.fieldLink RX12 65 "MistHeapsModel" "isWrong" "Z" : Cond) ∈ wsX12_some := kc_of 1147 rfl rfl rfl
theorem kc_some3_2 : (.fieldLink RX12 59 "MistHeapsModel" "spot" "I" : Cond) ∈ wsX12_some := kc_of 1145 rfl rfl rfl
set_option maxHeartbeats 4000000 in
set_option maxRecDepth 100000 in
theorem c_some3 (l : Launch) (dC : Nat → ClassId) (dI : Nat → Nat → Nat) (sK sV : Nat → Nat) (m0 aS aI aB aT aG aO aN aD aY : Nat) (th im ac sp en wg op se dn rn kd nu tv : Int32) (bv : Int64) (cS : ClassId) (fS : Nat → Int32) (a p0 E k d : Nat) (sz : Nat) (gI : PI fS a k d p0 E) : Met l yX12_some wsX12_some ({ frames := 13, cells := 0, slots := 0, locals := 279 } : Room) (va_Pc [.ref m0] (fun U => U.heap.size = sz ∧ va_P (dC, dI) vwCl [(zo14irriiiiiirriirrrrlriiii m0 th aS aI im (nI a) (nI p0) (nI E) 0 3 aB aT se dn aG aO aN aD bv aY rn kd nu tv), (zaI aS cS 901 fS)] U.heap ∧ va_K (dC, dI) vwCl [(cS, .int)] U ∧ va_D (fun _ => True) [(zo14irriiiiiirriirrrrlriiii m0 th aS aI im (nI a) (nI p0) (nI E) 0 3 aB aT se dn aG aO aN aD bv aY rn kd nu tv), (zaI aS cS 901 fS)] ∧ Gs sK sV (va_A [(zo14irriiiiiirriirrrrlriiii m0 th aS aI im (nI a) (nI p0) (nI E) 0 3 aB aT se dn aG aO aN aD bv aY rn kd nu tv), (zaI aS cS 901 fS)] sz) U)) (va_Qv (fun (u : (Nat → Int32) × (Int32) × (Int32)) => match u with | (fS9, sp9, wg9) => ∃ p9 k9 : Nat, sp9 = nI p9 ∧ p0 ≤ p9 ∧ p9 ≤ E ∧ PF a fS fS9 ∧ (wg9 = 1 ∨ (wg9 = 0 ∧ p0 + 3 ≤ p9 ∧ PI fS9 a k9 (d + 1) p9 E ∧ k9 + p0 ≤ k + p9))) (fun (u : (Nat → Int32) × (Int32) × (Int32)) (t : State) => match u with | (fS9, sp9, wg9) => va_P (dC, dI) vwCl [(zo14irriiiiiirriirrrrlriiii m0 th aS aI im (nI a) sp9 (nI E) wg9 3 aB aT se dn aG aO aN aD bv aY rn kd nu tv), (zaI aS cS 901 fS9)] t.heap ∧ va_K (dC, dI) vwCl [(cS, .int)] t ∧ va_D (va_A [(zo14irriiiiiirriirrrrlriiii m0 th aS aI im (nI a) (nI p0) (nI E) 0 3 aB aT se dn aG aO aN aD bv aY rn kd nu tv), (zaI aS cS 901 fS)] sz) [(zo14irriiiiiirriirrrrlriiii m0 th aS aI im (nI a) sp9 (nI E) wg9 3 aB aT se dn aG aO aN aD bv aY rn kd nu tv), (zaI aS cS 901 fS9)]) (va_A [(zo14irriiiiiirriirrrrlriiii m0 th aS aI im (nI a) (nI p0) (nI E) 0 3 aB aT se dn aG aO aN aD bv aY rn kd nu tv), (zaI aS cS 901 fS)] sz)) 0 0 (va_A [(zo14irriiiiiirriirrrrlriiii m0 th aS aI im (nI a) (nI p0) (nI E) 0 3 aB aT se dn aG aO aN aD bv aY rn kd nu tv), (zaI aS cS 901 fS)] sz) := by
  refine met_ofQ (cc := cX12_some) (maxL := 1) (ret := none) (by decide) rfl ?_
  intro p e s m args below meth c s₁ Q B hml hv hQ
  obtain ⟨rfl, hsz, hP, hK, hD0, hE⟩ := hv
  have hx := B.exec
  have hb := B.bytes
  have hr := B.returns
  have hts := atoms_spec (ws := wsX12_some) B.pre
  have hown : s.vm.findClass RX12 = some m.cls := findClass_of_methodNamed B.named
  have hlocks := B.notSynchronized
  subst hsz
  have hD := hD0.self (sz := s.heap.size)
  generalize hAe : va_A [(zo14irriiiiiirriirrrrlriiii m0 th aS aI im (nI a) (nI p0) (nI E) 0 3 aB aT se dn aG aO aN aD bv aY rn kd nu tv), (zaI aS cS 901 fS)] s.heap.size = A at hD hQ hE ⊢
  have hA : ∀ q : Nat, s.heap.size ≤ q → A q := fun q h => by rw [← hAe]; exact Or.inr h
  have hS : va_S A s.heap s.heap [] := va_S.rf
  have hl := lv_entry [.ref m0] (n := 1) (Nat.le_of_ble_eq_true rfl)
  rw [lg_entry_eq]
  generalize (lg_sl [.ref m0] ++ List.replicate (1 - (lg_sl [.ref m0]).length) Slot.unset).toArray = ls at hl ⊢
  generalize hag : ([.ref m0] : List Value).toArray = args at hts hQ ⊢
  have hl : lv_has ls 1 [(0, .ref m0)] := hl
  obtain ⟨H, hH⟩ : ∃ H : Heap, H = s.heap := ⟨_, rfl⟩
  rw [← hH] at hP
  rw [← hH]
  have hS : va_S A s.heap H [] := by rw [hH]; exact hS
  obtain ⟨locs, hlo⟩ : ∃ L : List Loc, L = [] := ⟨_, rfl⟩
  rw [← hlo] at hS
  rw [← hlo]
  clear hH hlo
  obtain ⟨ga, gp, gE, zk, gkp, gd, gs⟩ := id gI
  refine lv_aload_n hx hb dX12_some_0 rfl (lv_at hl 0 rfl) ?_
  have hPc := hP.sub (ws' := [(zo14irriiiiiirriirrrrlriiii m0 th aS aI im (nI a) (nI p0) (nI E) 0 3 aB aT se dn aG aO aN aD bv aY rn kd nu tv), (zaI aS cS 901 fS)]) [0, 1] rfl
  have hDc := hD.sub (ws' := [(zo14irriiiiiirriirrrrlriiii m0 th aS aI im (nI a) (nI p0) (nI E) 0 3 aB aT se dn aG aO aN aD bv aY rn kd nu tv), (zaI aS cS 901 fS)]) [0, 1] (by decide) rfl
  have hKc := hK.sub (tys' := [(cS, .int)]) [0] rfl
  have hFc := va_free (wc := [(zo14irriiiiiirriirrrrlriiii m0 th aS aI im (nI a) (nI p0) (nI E) 0 3 aB aT se dn aG aO aN aD bv aY rn kd nu tv), (zaI aS cS 901 fS)]) hD hS hA [0, 1] rfl
  refine va_callv (va_runV (As := []) (rest := []) ⟨hx, hb, hml, hown, hts⟩ (c_every3 l dC dI sK sV m0 aS aI aB aT aG aO aN aD aY th im (nI a) (nI p0) (nI E) 0 3 se dn rn kd nu tv bv cS fS a p0 E k d H.size ((gI).mono (by omega) (by omega))) (cwV 0 hts gX12_some_X12_every rfl rfl rfl hd_yX12_every ⟨Nat.le_of_ble_eq_true rfl, Nat.le_of_ble_eq_true rfl⟩) ⟨fun a U g mk q => by obtain ⟨q0, q1, qP, qK, qD, qhE⟩ := q; exact ⟨q0, q1, qP, va_K.moved (u := U) (U := U.calling g mk a) (Vm.Alike.refl U.vm) qK, qD, qhE.same rfl rfl⟩, va_recv hK hP (ci := 14) (q := (RX12, TX12, 23)) (q0 := 0) rfl rfl, fun U hU hW => ⟨rfl, by rw [hU], by rw [hU]; exact hPc, va_K.moved hW.alike hKc, hDc.weaken (fun _ _ _ _ => trivial), hE.call hS hU hW (fun q h => hFc q h)⟩⟩ rfl rfl hl.1 rfl (lv_room (Nat.le_of_ble_eq_true rfl)) dX12_some_1 ⟨Nat.le_of_ble_eq_true rfl, Nat.le_of_ble_eq_true rfl⟩) hS (fun q _ h => hFc q h) hFc (fun u tC H1 locs htC hvm hw_2 hB hz1 hk1 hS => ?_)
  obtain ⟨fS9_3, sp9_4, wg9_5⟩ := u
  try dsimp only at hw_2 hB
  obtain ⟨hP1, hK1, hD1⟩ := hB
  rw [htC] at hP1
  have hK1 := va_K.moved hvm.symm hK1
  obtain ⟨hP, hD⟩ := va_join (wr := []) (w1 := [(zo14irriiiiiirriirrrrlriiii m0 th aS aI im (nI a) sp9_4 (nI E) wg9_5 3 aB aT se dn aG aO aN aD bv aY rn kd nu tv), (zaI aS cS 901 fS9_3)]) hP hD [0, 1] [] rfl rfl (by decide) (by decide) hk1 hFc hP1 hD1
  have hK := (hK.sub (tys' := []) [] rfl).app hK1
  generalize H1 = H at hP hS ⊢
  have hP : va_P (dC, dI) vwCl [(zo14irriiiiiirriirrrrlriiii m0 th aS aI im (nI a) sp9_4 (nI E) wg9_5 3 aB aT se dn aG aO aN aD bv aY rn kd nu tv), (zaI aS cS 901 fS9_3)] H := hP
  have hD : va_D A [(zo14irriiiiiirriirrrrlriiii m0 th aS aI im (nI a) sp9_4 (nI E) wg9_5 3 aB aT se dn aG aO aN aD bv aY rn kd nu tv), (zaI aS cS 901 fS9_3)] := hD
  have hK : va_K (dC, dI) vwCl [(cS, .int)] s := hK
  obtain ⟨p_6, k_7, rfl, h_9, h_10, hF_11, q9⟩ := hw_2
  rcases q9 with rfl | ⟨rfl, h_12, hI_13, h_14⟩
  · skip
    have L4 : ∀ (nF : Nat) (p1 : Nat) (k1 : Nat) (w1 : Int32) (f1 : Nat → Int32), E - p1 < nF → (p0 ≤ p1 ∧ p1 ≤ E) → (PF a fS f1) → (w1 = 1 ∨ (w1 = 0 ∧ p0 + 3 ≤ p1 ∧ PI f1 a k1 (d + 1) p1 E ∧ k1 + p0 ≤ k + p1)) → ∀ (H : Heap) (locs : List Loc), va_K (dC, dI) vwCl [(cS, .int)] s → va_P (dC, dI) vwCl [(zo14irriiiiiirriirrrrlriiii m0 th aS aI im (nI a) (nI p1) (nI E) w1 3 aB aT se dn aG aO aN aD bv aY rn kd nu tv), (zaI aS cS 901 f1)] H → va_D A [(zo14irriiiiiirriirrrrlriiii m0 th aS aI im (nI a) (nI p1) (nI E) w1 3 aB aT se dn aG aO aN aD bv aY rn kd nu tv), (zaI aS cS 901 f1)] → va_S A s.heap H locs → ∀ (ls : Array Slot), lv_has ls 1 [(0, .ref m0)] → W p l e ({ frames := 13, cells := 0, slots := 0, locals := 279 } : Room) s m args below meth c H locs 0 0 Q (F0 m 4 ls []) := by
      intro nF
      induction nF with
      | zero => intro p1 k1 w1 f1 hm; exact absurd hm (Nat.not_lt_zero _)
      | succ nF ih4 =>
        intro p1 k1 w1 f1 hm h1 hF hw1 H locs hK hP hD hS ls hl
        obtain ⟨h1a, h1b⟩ := h1
        rcases hw1 with rfl | ⟨rfl, h3, hI, h4⟩
        · skip
          refine lv_aload_n hx hb dX12_some_4 rfl (lv_at hl 0 rfl) ?_
          refine va_get (D := (dC, dI)) (ci := 14) (v := .int 1) (C := RX12) (T := TX12) (N := 23) hx hb hts kc_some3_0 hown hK hP 0 rfl rfl 7 (by decide) (hts (.fieldLink RX12 65 "MistHeapsModel" "isWrong" "Z") kc_some3_1) (fun _ h9 => h9) rfl dX12_some_5 ?_
          refine lv_if_ne (tgt := 43) hx hb dX12_some_8 (by decide) (fun _ => ?_) (fun c_15 => absurd c_15 (by decide))
          rw [hQ]
          have hP9 := hP.sub (ws' := [(zo14irriiiiiirriirrrrlriiii m0 th aS aI im (nI a) (nI p1) (nI E) 1 3 aB aT se dn aG aO aN aD bv aY rn kd nu tv), (zaI aS cS 901 f1)]) [0, 1] rfl
          have hD9 := hD.sub (ws' := [(zo14irriiiiiirriirrrrlriiii m0 th aS aI im (nI a) (nI p1) (nI E) 1 3 aB aT se dn aG aO aN aD bv aY rn kd nu tv), (zaI aS cS 901 f1)]) [0, 1] (by decide) rfl
          have hK9 := hK.sub (tys' := [(cS, .int)]) [0] rfl
          exact W.vret hx hb hr (fun tQ htQ hWQ => ⟨⟨(f1, (nI p1), 1), rfl, ⟨p1, k, rfl, by omega, by omega, hF, Or.inl rfl⟩, by rw [htQ]; exact hP9, va_K.moved hWQ.alike hK9, hD9⟩, hS.F htQ⟩) hS.2.2 dX12_some_43
        · skip
          have k5 := hI.2.2.2.2.1
          refine lv_aload_n hx hb dX12_some_4 rfl (lv_at hl 0 rfl) ?_
          refine va_get (D := (dC, dI)) (ci := 14) (v := .int 0) (C := RX12) (T := TX12) (N := 23) hx hb hts kc_some3_0 hown hK hP 0 rfl rfl 7 (by decide) (hts (.fieldLink RX12 65 "MistHeapsModel" "isWrong" "Z") kc_some3_1) (fun _ h9 => h9) rfl dX12_some_5 ?_
          refine lv_if_ne (tgt := 43) hx hb dX12_some_8 (by decide) (fun c_16 => absurd c_16 (by decide)) (fun _ => ?_)
          refine lv_aload_n hx hb dX12_some_11 rfl (lv_at hl 0 rfl) ?_
          have hPc := hP.sub (ws' := [(zo14irriiiiiirriirrrrlriiii m0 th aS aI im (nI a) (nI p1) (nI E) 0 3 aB aT se dn aG aO aN aD bv aY rn kd nu tv), (zaI aS cS 901 f1)]) [0, 1] rfl
          have hKc := hK.sub (tys' := [(cS, .int)]) [0] rfl
          refine vp_callSi (va_runV (As := []) (rest := []) ⟨hx, hb, hml, hown, hts⟩ (c_here l dC dI m0 aS aI aB aT aG aO aN aD aY th im (nI a) (nI p1) (nI E) 0 3 se dn rn kd nu tv bv cS f1 a p1 E (by omega) (by omega) (by omega)) (cwV 0 hts gX12_some_X12_here rfl rfl rfl hd_yX12_here ⟨Nat.le_of_ble_eq_true rfl, Nat.le_of_ble_eq_true rfl⟩) ⟨fun a U g mk q => by obtain ⟨q0, qP, qK⟩ := q; exact ⟨q0, qP, va_K.moved (u := U) (U := U.calling g mk a) (Vm.Alike.refl U.vm) qK⟩, va_recv hK hP (ci := 14) (q := (RX12, TX12, 23)) (q0 := 0) rfl rfl, fun U hU hW => ⟨rfl, by rw [hU]; exact hPc, va_K.moved hW.alike hKc⟩⟩ rfl rfl hl.1 rfl (lv_room (Nat.le_of_ble_eq_true rfl)) dX12_some_12 ⟨Nat.le_of_ble_eq_true rfl, Nat.le_of_ble_eq_true rfl⟩).run (fun r_17 hw_18 => ?_)
          refine lv_bipush (v := 124) hx hb dX12_some_15 (by decide) ?_
          refine lv_icmp_ne (tgt := 43) hx hb dX12_some_17 (by decide) (fun c_19 => ?_) (fun c_19 => ?_)
          · skip
            rw [hQ]
            have hP9 := hP.sub (ws' := [(zo14irriiiiiirriirrrrlriiii m0 th aS aI im (nI a) (nI p1) (nI E) 0 3 aB aT se dn aG aO aN aD bv aY rn kd nu tv), (zaI aS cS 901 f1)]) [0, 1] rfl
            have hD9 := hD.sub (ws' := [(zo14irriiiiiirriirrrrlriiii m0 th aS aI im (nI a) (nI p1) (nI E) 0 3 aB aT se dn aG aO aN aD bv aY rn kd nu tv), (zaI aS cS 901 f1)]) [0, 1] (by decide) rfl
            have hK9 := hK.sub (tys' := [(cS, .int)]) [0] rfl
            exact W.vret hx hb hr (fun tQ htQ hWQ => ⟨⟨(f1, (nI p1), 0), rfl, ⟨p1, k1, rfl, by omega, by omega, hF, Or.inr ⟨rfl, by omega, hI, by omega⟩⟩, by rw [htQ]; exact hP9, va_K.moved hWQ.alike hK9, hD9⟩, hS.F htQ⟩) hS.2.2 dX12_some_43
          · skip
            have hlt : p1 < E := hv_lt (f := f1) (by rw [← hw_18, c_19]; decide)
            refine lv_aload_n hx hb dX12_some_20 rfl (lv_at hl 0 rfl) ?_
            refine lv_dup hx hb dX12_some_21 rfl ?_
            refine va_get (D := (dC, dI)) (ci := 14) (v := .int (nI p1)) (C := RX12) (T := TX12) (N := 23) hx hb hts kc_some3_0 hown hK hP 0 rfl rfl 5 (by decide) (hts (.fieldLink RX12 59 "MistHeapsModel" "spot" "I") kc_some3_2) (fun _ h9 => h9) rfl dX12_some_22 ?_
            refine lv_iconst (v := 1) hx hb dX12_some_25 (by decide) ?_
            refine lv_iadd hx hb dX12_some_26 ?_
            refine qi_as (y := nI (p1 + 1)) (nI_add p1 1) ?_
            refine va_put (D := (dC, dI)) (ci := 14) (v := .int (nI (p1 + 1))) (ty := .int) (C := RX12) (T := TX12) (N := 23) hx hb hts kc_some3_0 tyX12 tyX12_ok nmX12 hown hK hP hD hS 0 rfl rfl 5 (by decide) (hts (.fieldLink RX12 59 "MistHeapsModel" "spot" "I") kc_some3_2) (fun _ h9 => h9) rfl (by decide +kernel) rfl rfl (Nat.le_of_ble_eq_true rfl) dX12_some_27 (fun H locs hP hD hS => ?_)
            have hP : va_P (dC, dI) vwCl [(zo14irriiiiiirriirrrrlriiii m0 th aS aI im (nI a) (nI (p1 + 1)) (nI E) 0 3 aB aT se dn aG aO aN aD bv aY rn kd nu tv), (zaI aS cS 901 f1)] H := hP
            have hD : va_D A [(zo14irriiiiiirriirrrrlriiii m0 th aS aI im (nI a) (nI (p1 + 1)) (nI E) 0 3 aB aT se dn aG aO aN aD bv aY rn kd nu tv), (zaI aS cS 901 f1)] := hD
            refine lv_aload_n hx hb dX12_some_30 rfl (lv_at hl 0 rfl) ?_
            have hPc := hP.sub (ws' := [(zo14irriiiiiirriirrrrlriiii m0 th aS aI im (nI a) (nI (p1 + 1)) (nI E) 0 3 aB aT se dn aG aO aN aD bv aY rn kd nu tv), (zaI aS cS 901 f1)]) [0, 1] rfl
            have hDc := hD.sub (ws' := [(zo14irriiiiiirriirrrrlriiii m0 th aS aI im (nI a) (nI (p1 + 1)) (nI E) 0 3 aB aT se dn aG aO aN aD bv aY rn kd nu tv), (zaI aS cS 901 f1)]) [0, 1] (by decide) rfl
            have hKc := hK.sub (tys' := [(cS, .int)]) [0] rfl
            have hFc := va_free (wc := [(zo14irriiiiiirriirrrrlriiii m0 th aS aI im (nI a) (nI (p1 + 1)) (nI E) 0 3 aB aT se dn aG aO aN aD bv aY rn kd nu tv), (zaI aS cS 901 f1)]) hD hS hA [0, 1] rfl
            refine va_callv (va_runV (As := []) (rest := []) ⟨hx, hb, hml, hown, hts⟩ (c_every3 l dC dI sK sV m0 aS aI aB aT aG aO aN aD aY th im (nI a) (nI (p1 + 1)) (nI E) 0 3 se dn rn kd nu tv bv cS f1 a (p1 + 1) E k1 (d + 1) H.size ((hI).mono (by omega) (by omega))) (cwV 0 hts gX12_some_X12_every rfl rfl rfl hd_yX12_every ⟨Nat.le_of_ble_eq_true rfl, Nat.le_of_ble_eq_true rfl⟩) ⟨fun a U g mk q => by obtain ⟨q0, q1, qP, qK, qD, qhE⟩ := q; exact ⟨q0, q1, qP, va_K.moved (u := U) (U := U.calling g mk a) (Vm.Alike.refl U.vm) qK, qD, qhE.same rfl rfl⟩, va_recv hK hP (ci := 14) (q := (RX12, TX12, 23)) (q0 := 0) rfl rfl, fun U hU hW => ⟨rfl, by rw [hU], by rw [hU]; exact hPc, va_K.moved hW.alike hKc, hDc.weaken (fun _ _ _ _ => trivial), hE.call hS hU hW (fun q h => hFc q h)⟩⟩ rfl rfl hl.1 rfl (lv_room (Nat.le_of_ble_eq_true rfl)) dX12_some_31 ⟨Nat.le_of_ble_eq_true rfl, Nat.le_of_ble_eq_true rfl⟩) hS (fun q _ h => hFc q h) hFc (fun u tC H1 locs htC hvm hw_21 hB hz1 hk1 hS => ?_)
            obtain ⟨fS9_22, sp9_23, wg9_24⟩ := u
            try dsimp only at hw_21 hB
            obtain ⟨hP1, hK1, hD1⟩ := hB
            rw [htC] at hP1
            have hK1 := va_K.moved hvm.symm hK1
            obtain ⟨hP, hD⟩ := va_join (wr := []) (w1 := [(zo14irriiiiiirriirrrrlriiii m0 th aS aI im (nI a) sp9_23 (nI E) wg9_24 3 aB aT se dn aG aO aN aD bv aY rn kd nu tv), (zaI aS cS 901 fS9_22)]) hP hD [0, 1] [] rfl rfl (by decide) (by decide) hk1 hFc hP1 hD1
            have hK := (hK.sub (tys' := []) [] rfl).app hK1
            generalize H1 = H at hP hS ⊢
            have hP : va_P (dC, dI) vwCl [(zo14irriiiiiirriirrrrlriiii m0 th aS aI im (nI a) sp9_23 (nI E) wg9_24 3 aB aT se dn aG aO aN aD bv aY rn kd nu tv), (zaI aS cS 901 fS9_22)] H := hP
            have hD : va_D A [(zo14irriiiiiirriirrrrlriiii m0 th aS aI im (nI a) sp9_23 (nI E) wg9_24 3 aB aT se dn aG aO aN aD bv aY rn kd nu tv), (zaI aS cS 901 fS9_22)] := hD
            have hK : va_K (dC, dI) vwCl [(cS, .int)] s := hK
            obtain ⟨p_25, k_26, rfl, h_28, h_29, hF_30, q9⟩ := hw_21
            rcases q9 with rfl | ⟨rfl, h_31, hI_32, h_33⟩
            · skip
              refine lv_aload_n hx hb dX12_some_34 rfl (lv_at hl 0 rfl) ?_
              refine lv_bipush (v := (-3)) hx hb dX12_some_35 (by decide) ?_
              have hPc := hP.sub (ws' := [(zo14irriiiiiirriirrrrlriiii m0 th aS aI im (nI a) (nI p_25) (nI E) 1 3 aB aT se dn aG aO aN aD bv aY rn kd nu tv)]) [0] rfl
              have hKc := hK.sub (tys' := []) [] rfl
              refine va_csv (va_runV (As := [.int (-3)]) (rest := []) ⟨hx, hb, hml, hown, hts⟩ (c_emitsW l dC dI m0 aS aI aB aT aG aO aN aD aY th im (nI a) (nI p_25) (nI E) 1 3 se dn rn kd nu tv bv (-3)) (cwV 1 hts gX12_some_X12_emits rfl rfl rfl hd_yX12_emits ⟨Nat.le_of_ble_eq_true rfl, Nat.le_of_ble_eq_true rfl⟩) ⟨fun a U g mk q => by obtain ⟨q0, qP, qK⟩ := q; exact ⟨q0, qP, va_K.moved (u := U) (U := U.calling g mk a) (Vm.Alike.refl U.vm) qK⟩, va_recv hK hP (ci := 14) (q := (RX12, TX12, 23)) (q0 := 0) rfl rfl, fun U hU hW => ⟨rfl, by rw [hU]; exact hPc, va_K.moved hW.alike hKc⟩⟩ rfl rfl hl.1 rfl (lv_room (Nat.le_of_ble_eq_true rfl)) dX12_some_37 ⟨Nat.le_of_ble_eq_true rfl, Nat.le_of_ble_eq_true rfl⟩).run (fun hw_35 => ?_)
              refine lv_goto (tgt := 4) hx hb dX12_some_40 (by decide) ?_
              exact ih4 (p_25) (k) (1) (fS9_22) (by omega) (by omega) ((hF).tr hF_30) (Or.inl rfl) _ _ (hK.sub [0] rfl) (hP.sub [0, 1] rfl) (hD.sub [0, 1] (by decide) rfl) hS ls (lv_sub hl [0] rfl)
            · skip
              have k5 := hI_32.2.2.2.2.1
              refine lv_aload_n hx hb dX12_some_34 rfl (lv_at hl 0 rfl) ?_
              refine lv_bipush (v := (-3)) hx hb dX12_some_35 (by decide) ?_
              have hPc := hP.sub (ws' := [(zo14irriiiiiirriirrrrlriiii m0 th aS aI im (nI a) (nI p_25) (nI E) 0 3 aB aT se dn aG aO aN aD bv aY rn kd nu tv), (zaI aS cS 901 fS9_22)]) [0, 1] rfl
              have hDc := hD.sub (ws' := [(zo14irriiiiiirriirrrrlriiii m0 th aS aI im (nI a) (nI p_25) (nI E) 0 3 aB aT se dn aG aO aN aD bv aY rn kd nu tv), (zaI aS cS 901 fS9_22)]) [0, 1] (by decide) rfl
              have hKc := hK.sub (tys' := [(cS, .int)]) [0] rfl
              have hFc := va_free (wc := [(zo14irriiiiiirriirrrrlriiii m0 th aS aI im (nI a) (nI p_25) (nI E) 0 3 aB aT se dn aG aO aN aD bv aY rn kd nu tv), (zaI aS cS 901 fS9_22)]) hD hS hA [0, 1] rfl
              refine va_callv (va_runV (As := [.int (-3)]) (rest := []) ⟨hx, hb, hml, hown, hts⟩ (c_emits l dC dI m0 aS aI aB aT aG aO aN aD aY th im (nI a) (nI p_25) (nI E) 0 3 se dn rn kd nu tv bv cS fS9_22 a k_26 (-3) H.size (ga) ((hI_32).2.2.2.1) (by have := (hI_32).2.2.2.2.1; omega)) (cwV 1 hts gX12_some_X12_emits rfl rfl rfl hd_yX12_emits ⟨Nat.le_of_ble_eq_true rfl, Nat.le_of_ble_eq_true rfl⟩) ⟨fun a U g mk q => by obtain ⟨q0, q1, qP, qK, qD⟩ := q; exact ⟨q0, q1, qP, va_K.moved (u := U) (U := U.calling g mk a) (Vm.Alike.refl U.vm) qK, qD⟩, va_recv hK hP (ci := 14) (q := (RX12, TX12, 23)) (q0 := 0) rfl rfl, fun U hU hW => ⟨rfl, by rw [hU], by rw [hU]; exact hPc, va_K.moved hW.alike hKc, hDc.weaken (fun _ _ _ _ => trivial)⟩⟩ rfl rfl hl.1 rfl (lv_room (Nat.le_of_ble_eq_true rfl)) dX12_some_37 ⟨Nat.le_of_ble_eq_true rfl, Nat.le_of_ble_eq_true rfl⟩) hS (fun q _ h => hFc q h) hFc (fun u tC H1 locs htC hvm hw_37 hB hz1 hk1 hS => ?_)
              obtain ⟨fS9_38, rfl⟩ : ∃ z, z = u := ⟨_, rfl⟩
              try dsimp only at hw_37 hB
              obtain ⟨hP1, hK1, hD1⟩ := hB
              rw [htC] at hP1
              have hK1 := va_K.moved hvm.symm hK1
              obtain ⟨hP, hD⟩ := va_join (wr := []) (w1 := [(zo14irriiiiiirriirrrrlriiii m0 th aS aI im (nI a) (nI p_25) (nI E) 0 3 aB aT se dn aG aO aN aD bv aY rn kd nu tv), (zaI aS cS 901 fS9_38)]) hP hD [0, 1] [] rfl rfl (by decide) (by decide) hk1 hFc hP1 hD1
              have hK := (hK.sub (tys' := []) [] rfl).app hK1
              generalize H1 = H at hP hS ⊢
              have hP : va_P (dC, dI) vwCl [(zo14irriiiiiirriirrrrlriiii m0 th aS aI im (nI a) (nI p_25) (nI E) 0 3 aB aT se dn aG aO aN aD bv aY rn kd nu tv), (zaI aS cS 901 fS9_38)] H := hP
              have hD : va_D A [(zo14irriiiiiirriirrrrlriiii m0 th aS aI im (nI a) (nI p_25) (nI E) 0 3 aB aT se dn aG aO aN aD bv aY rn kd nu tv), (zaI aS cS 901 fS9_38)] := hD
              have hK : va_K (dC, dI) vwCl [(cS, .int)] s := hK
              obtain rfl : fS9_38 = emt fS9_22 a k_26 (-3) := by rcases hw_37 with ⟨q, _⟩ | ⟨_, q⟩; exact absurd rfl q; exact q
              have hI_40 : PI (emt fS9_22 a k_26 (-3)) a (k_26 + 1) (((d + 1) + 1) - 1) p_25 E := ((hI_32).mono (by omega) (by omega)).em (by omega) (by omega) (stepd_either (by omega))
              have hF_41 : PF a fS (emt fS9_22 a k_26 (-3)) := ((hF).tr hF_30).tr (PF_emt (k := k_26) (x := (-3)) ga (by have := (hI_32).2.2.2.2.1; omega))
              refine lv_goto (tgt := 4) hx hb dX12_some_40 (by decide) ?_
              exact ih4 (p_25) ((k_26 + 1)) (0) (emt fS9_22 a k_26 (-3)) (by omega) (by omega) (hF_41) (Or.inr ⟨rfl, by omega, hI_40, by omega⟩) _ _ (hK.sub [0] rfl) (hP.sub [0, 1] rfl) (hD.sub [0, 1] (by decide) rfl) hS ls (lv_sub hl [0] rfl)
    exact L4 _ (p_6) (k) (1) (fS9_3) (Nat.lt_succ_self _) (by omega) ((PF.rf).tr hF_11) (Or.inl rfl) _ _ (hK.sub [0] rfl) (hP.sub [0, 1] rfl) (hD.sub [0, 1] (by decide) rfl) hS ls (lv_sub hl [0] rfl)
  · skip
    have k5 := hI_13.2.2.2.2.1
    have L4 : ∀ (nF : Nat) (p1 : Nat) (k1 : Nat) (w1 : Int32) (f1 : Nat → Int32), E - p1 < nF → (p0 ≤ p1 ∧ p1 ≤ E) → (PF a fS f1) → (w1 = 1 ∨ (w1 = 0 ∧ p0 + 3 ≤ p1 ∧ PI f1 a k1 (d + 1) p1 E ∧ k1 + p0 ≤ k + p1)) → ∀ (H : Heap) (locs : List Loc), va_K (dC, dI) vwCl [(cS, .int)] s → va_P (dC, dI) vwCl [(zo14irriiiiiirriirrrrlriiii m0 th aS aI im (nI a) (nI p1) (nI E) w1 3 aB aT se dn aG aO aN aD bv aY rn kd nu tv), (zaI aS cS 901 f1)] H → va_D A [(zo14irriiiiiirriirrrrlriiii m0 th aS aI im (nI a) (nI p1) (nI E) w1 3 aB aT se dn aG aO aN aD bv aY rn kd nu tv), (zaI aS cS 901 f1)] → va_S A s.heap H locs → ∀ (ls : Array Slot), lv_has ls 1 [(0, .ref m0)] → W p l e ({ frames := 13, cells := 0, slots := 0, locals := 279 } : Room) s m args below meth c H locs 0 0 Q (F0 m 4 ls []) := by
      intro nF
      induction nF with
      | zero => intro p1 k1 w1 f1 hm; exact absurd hm (Nat.not_lt_zero _)
      | succ nF ih4 =>
        intro p1 k1 w1 f1 hm h1 hF hw1 H locs hK hP hD hS ls hl
        obtain ⟨h1a, h1b⟩ := h1
        rcases hw1 with rfl | ⟨rfl, h3, hI, h4⟩
        · skip
          refine lv_aload_n hx hb dX12_some_4 rfl (lv_at hl 0 rfl) ?_
          refine va_get (D := (dC, dI)) (ci := 14) (v := .int 1) (C := RX12) (T := TX12) (N := 23) hx hb hts kc_some3_0 hown hK hP 0 rfl rfl 7 (by decide) (hts (.fieldLink RX12 65 "MistHeapsModel" "isWrong" "Z") kc_some3_1) (fun _ h9 => h9) rfl dX12_some_5 ?_
          refine lv_if_ne (tgt := 43) hx hb dX12_some_8 (by decide) (fun _ => ?_) (fun c_42 => absurd c_42 (by decide))
          rw [hQ]
          have hP9 := hP.sub (ws' := [(zo14irriiiiiirriirrrrlriiii m0 th aS aI im (nI a) (nI p1) (nI E) 1 3 aB aT se dn aG aO aN aD bv aY rn kd nu tv), (zaI aS cS 901 f1)]) [0, 1] rfl
          have hD9 := hD.sub (ws' := [(zo14irriiiiiirriirrrrlriiii m0 th aS aI im (nI a) (nI p1) (nI E) 1 3 aB aT se dn aG aO aN aD bv aY rn kd nu tv), (zaI aS cS 901 f1)]) [0, 1] (by decide) rfl
          have hK9 := hK.sub (tys' := [(cS, .int)]) [0] rfl
          exact W.vret hx hb hr (fun tQ htQ hWQ => ⟨⟨(f1, (nI p1), 1), rfl, ⟨p1, k, rfl, by omega, by omega, hF, Or.inl rfl⟩, by rw [htQ]; exact hP9, va_K.moved hWQ.alike hK9, hD9⟩, hS.F htQ⟩) hS.2.2 dX12_some_43
        · skip
          have k5 := hI.2.2.2.2.1
          refine lv_aload_n hx hb dX12_some_4 rfl (lv_at hl 0 rfl) ?_
          refine va_get (D := (dC, dI)) (ci := 14) (v := .int 0) (C := RX12) (T := TX12) (N := 23) hx hb hts kc_some3_0 hown hK hP 0 rfl rfl 7 (by decide) (hts (.fieldLink RX12 65 "MistHeapsModel" "isWrong" "Z") kc_some3_1) (fun _ h9 => h9) rfl dX12_some_5 ?_
          refine lv_if_ne (tgt := 43) hx hb dX12_some_8 (by decide) (fun c_43 => absurd c_43 (by decide)) (fun _ => ?_)
          refine lv_aload_n hx hb dX12_some_11 rfl (lv_at hl 0 rfl) ?_
          have hPc := hP.sub (ws' := [(zo14irriiiiiirriirrrrlriiii m0 th aS aI im (nI a) (nI p1) (nI E) 0 3 aB aT se dn aG aO aN aD bv aY rn kd nu tv), (zaI aS cS 901 f1)]) [0, 1] rfl
          have hKc := hK.sub (tys' := [(cS, .int)]) [0] rfl
          refine vp_callSi (va_runV (As := []) (rest := []) ⟨hx, hb, hml, hown, hts⟩ (c_here l dC dI m0 aS aI aB aT aG aO aN aD aY th im (nI a) (nI p1) (nI E) 0 3 se dn rn kd nu tv bv cS f1 a p1 E (by omega) (by omega) (by omega)) (cwV 0 hts gX12_some_X12_here rfl rfl rfl hd_yX12_here ⟨Nat.le_of_ble_eq_true rfl, Nat.le_of_ble_eq_true rfl⟩) ⟨fun a U g mk q => by obtain ⟨q0, qP, qK⟩ := q; exact ⟨q0, qP, va_K.moved (u := U) (U := U.calling g mk a) (Vm.Alike.refl U.vm) qK⟩, va_recv hK hP (ci := 14) (q := (RX12, TX12, 23)) (q0 := 0) rfl rfl, fun U hU hW => ⟨rfl, by rw [hU]; exact hPc, va_K.moved hW.alike hKc⟩⟩ rfl rfl hl.1 rfl (lv_room (Nat.le_of_ble_eq_true rfl)) dX12_some_12 ⟨Nat.le_of_ble_eq_true rfl, Nat.le_of_ble_eq_true rfl⟩).run (fun r_44 hw_45 => ?_)
          refine lv_bipush (v := 124) hx hb dX12_some_15 (by decide) ?_
          refine lv_icmp_ne (tgt := 43) hx hb dX12_some_17 (by decide) (fun c_46 => ?_) (fun c_46 => ?_)
          · skip
            rw [hQ]
            have hP9 := hP.sub (ws' := [(zo14irriiiiiirriirrrrlriiii m0 th aS aI im (nI a) (nI p1) (nI E) 0 3 aB aT se dn aG aO aN aD bv aY rn kd nu tv), (zaI aS cS 901 f1)]) [0, 1] rfl
            have hD9 := hD.sub (ws' := [(zo14irriiiiiirriirrrrlriiii m0 th aS aI im (nI a) (nI p1) (nI E) 0 3 aB aT se dn aG aO aN aD bv aY rn kd nu tv), (zaI aS cS 901 f1)]) [0, 1] (by decide) rfl
            have hK9 := hK.sub (tys' := [(cS, .int)]) [0] rfl
            exact W.vret hx hb hr (fun tQ htQ hWQ => ⟨⟨(f1, (nI p1), 0), rfl, ⟨p1, k1, rfl, by omega, by omega, hF, Or.inr ⟨rfl, by omega, hI, by omega⟩⟩, by rw [htQ]; exact hP9, va_K.moved hWQ.alike hK9, hD9⟩, hS.F htQ⟩) hS.2.2 dX12_some_43
          · skip
            have hlt : p1 < E := hv_lt (f := f1) (by rw [← hw_45, c_46]; decide)
            refine lv_aload_n hx hb dX12_some_20 rfl (lv_at hl 0 rfl) ?_
            refine lv_dup hx hb dX12_some_21 rfl ?_
            refine va_get (D := (dC, dI)) (ci := 14) (v := .int (nI p1)) (C := RX12) (T := TX12) (N := 23) hx hb hts kc_some3_0 hown hK hP 0 rfl rfl 5 (by decide) (hts (.fieldLink RX12 59 "MistHeapsModel" "spot" "I") kc_some3_2) (fun _ h9 => h9) rfl dX12_some_22 ?_
            refine lv_iconst (v := 1) hx hb dX12_some_25 (by decide) ?_
            refine lv_iadd hx hb dX12_some_26 ?_
            refine qi_as (y := nI (p1 + 1)) (nI_add p1 1) ?_
            refine va_put (D := (dC, dI)) (ci := 14) (v := .int (nI (p1 + 1))) (ty := .int) (C := RX12) (T := TX12) (N := 23) hx hb hts kc_some3_0 tyX12 tyX12_ok nmX12 hown hK hP hD hS 0 rfl rfl 5 (by decide) (hts (.fieldLink RX12 59 "MistHeapsModel" "spot" "I") kc_some3_2) (fun _ h9 => h9) rfl (by decide +kernel) rfl rfl (Nat.le_of_ble_eq_true rfl) dX12_some_27 (fun H locs hP hD hS => ?_)
            have hP : va_P (dC, dI) vwCl [(zo14irriiiiiirriirrrrlriiii m0 th aS aI im (nI a) (nI (p1 + 1)) (nI E) 0 3 aB aT se dn aG aO aN aD bv aY rn kd nu tv), (zaI aS cS 901 f1)] H := hP
            have hD : va_D A [(zo14irriiiiiirriirrrrlriiii m0 th aS aI im (nI a) (nI (p1 + 1)) (nI E) 0 3 aB aT se dn aG aO aN aD bv aY rn kd nu tv), (zaI aS cS 901 f1)] := hD
            refine lv_aload_n hx hb dX12_some_30 rfl (lv_at hl 0 rfl) ?_
            have hPc := hP.sub (ws' := [(zo14irriiiiiirriirrrrlriiii m0 th aS aI im (nI a) (nI (p1 + 1)) (nI E) 0 3 aB aT se dn aG aO aN aD bv aY rn kd nu tv), (zaI aS cS 901 f1)]) [0, 1] rfl
            have hDc := hD.sub (ws' := [(zo14irriiiiiirriirrrrlriiii m0 th aS aI im (nI a) (nI (p1 + 1)) (nI E) 0 3 aB aT se dn aG aO aN aD bv aY rn kd nu tv), (zaI aS cS 901 f1)]) [0, 1] (by decide) rfl
            have hKc := hK.sub (tys' := [(cS, .int)]) [0] rfl
            have hFc := va_free (wc := [(zo14irriiiiiirriirrrrlriiii m0 th aS aI im (nI a) (nI (p1 + 1)) (nI E) 0 3 aB aT se dn aG aO aN aD bv aY rn kd nu tv), (zaI aS cS 901 f1)]) hD hS hA [0, 1] rfl
            refine va_callv (va_runV (As := []) (rest := []) ⟨hx, hb, hml, hown, hts⟩ (c_every3 l dC dI sK sV m0 aS aI aB aT aG aO aN aD aY th im (nI a) (nI (p1 + 1)) (nI E) 0 3 se dn rn kd nu tv bv cS f1 a (p1 + 1) E k1 (d + 1) H.size ((hI).mono (by omega) (by omega))) (cwV 0 hts gX12_some_X12_every rfl rfl rfl hd_yX12_every ⟨Nat.le_of_ble_eq_true rfl, Nat.le_of_ble_eq_true rfl⟩) ⟨fun a U g mk q => by obtain ⟨q0, q1, qP, qK, qD, qhE⟩ := q; exact ⟨q0, q1, qP, va_K.moved (u := U) (U := U.calling g mk a) (Vm.Alike.refl U.vm) qK, qD, qhE.same rfl rfl⟩, va_recv hK hP (ci := 14) (q := (RX12, TX12, 23)) (q0 := 0) rfl rfl, fun U hU hW => ⟨rfl, by rw [hU], by rw [hU]; exact hPc, va_K.moved hW.alike hKc, hDc.weaken (fun _ _ _ _ => trivial), hE.call hS hU hW (fun q h => hFc q h)⟩⟩ rfl rfl hl.1 rfl (lv_room (Nat.le_of_ble_eq_true rfl)) dX12_some_31 ⟨Nat.le_of_ble_eq_true rfl, Nat.le_of_ble_eq_true rfl⟩) hS (fun q _ h => hFc q h) hFc (fun u tC H1 locs htC hvm hw_48 hB hz1 hk1 hS => ?_)
            obtain ⟨fS9_49, sp9_50, wg9_51⟩ := u
            try dsimp only at hw_48 hB
            obtain ⟨hP1, hK1, hD1⟩ := hB
            rw [htC] at hP1
            have hK1 := va_K.moved hvm.symm hK1
            obtain ⟨hP, hD⟩ := va_join (wr := []) (w1 := [(zo14irriiiiiirriirrrrlriiii m0 th aS aI im (nI a) sp9_50 (nI E) wg9_51 3 aB aT se dn aG aO aN aD bv aY rn kd nu tv), (zaI aS cS 901 fS9_49)]) hP hD [0, 1] [] rfl rfl (by decide) (by decide) hk1 hFc hP1 hD1
            have hK := (hK.sub (tys' := []) [] rfl).app hK1
            generalize H1 = H at hP hS ⊢
            have hP : va_P (dC, dI) vwCl [(zo14irriiiiiirriirrrrlriiii m0 th aS aI im (nI a) sp9_50 (nI E) wg9_51 3 aB aT se dn aG aO aN aD bv aY rn kd nu tv), (zaI aS cS 901 fS9_49)] H := hP
            have hD : va_D A [(zo14irriiiiiirriirrrrlriiii m0 th aS aI im (nI a) sp9_50 (nI E) wg9_51 3 aB aT se dn aG aO aN aD bv aY rn kd nu tv), (zaI aS cS 901 fS9_49)] := hD
            have hK : va_K (dC, dI) vwCl [(cS, .int)] s := hK
            obtain ⟨p_52, k_53, rfl, h_55, h_56, hF_57, q9⟩ := hw_48
            rcases q9 with rfl | ⟨rfl, h_58, hI_59, h_60⟩
            · skip
              refine lv_aload_n hx hb dX12_some_34 rfl (lv_at hl 0 rfl) ?_
              refine lv_bipush (v := (-3)) hx hb dX12_some_35 (by decide) ?_
              have hPc := hP.sub (ws' := [(zo14irriiiiiirriirrrrlriiii m0 th aS aI im (nI a) (nI p_52) (nI E) 1 3 aB aT se dn aG aO aN aD bv aY rn kd nu tv)]) [0] rfl
              have hKc := hK.sub (tys' := []) [] rfl
              refine va_csv (va_runV (As := [.int (-3)]) (rest := []) ⟨hx, hb, hml, hown, hts⟩ (c_emitsW l dC dI m0 aS aI aB aT aG aO aN aD aY th im (nI a) (nI p_52) (nI E) 1 3 se dn rn kd nu tv bv (-3)) (cwV 1 hts gX12_some_X12_emits rfl rfl rfl hd_yX12_emits ⟨Nat.le_of_ble_eq_true rfl, Nat.le_of_ble_eq_true rfl⟩) ⟨fun a U g mk q => by obtain ⟨q0, qP, qK⟩ := q; exact ⟨q0, qP, va_K.moved (u := U) (U := U.calling g mk a) (Vm.Alike.refl U.vm) qK⟩, va_recv hK hP (ci := 14) (q := (RX12, TX12, 23)) (q0 := 0) rfl rfl, fun U hU hW => ⟨rfl, by rw [hU]; exact hPc, va_K.moved hW.alike hKc⟩⟩ rfl rfl hl.1 rfl (lv_room (Nat.le_of_ble_eq_true rfl)) dX12_some_37 ⟨Nat.le_of_ble_eq_true rfl, Nat.le_of_ble_eq_true rfl⟩).run (fun hw_62 => ?_)
              refine lv_goto (tgt := 4) hx hb dX12_some_40 (by decide) ?_
              exact ih4 (p_52) (k) (1) (fS9_49) (by omega) (by omega) ((hF).tr hF_57) (Or.inl rfl) _ _ (hK.sub [0] rfl) (hP.sub [0, 1] rfl) (hD.sub [0, 1] (by decide) rfl) hS ls (lv_sub hl [0] rfl)
            · skip
              have k5 := hI_59.2.2.2.2.1
              refine lv_aload_n hx hb dX12_some_34 rfl (lv_at hl 0 rfl) ?_
              refine lv_bipush (v := (-3)) hx hb dX12_some_35 (by decide) ?_
              have hPc := hP.sub (ws' := [(zo14irriiiiiirriirrrrlriiii m0 th aS aI im (nI a) (nI p_52) (nI E) 0 3 aB aT se dn aG aO aN aD bv aY rn kd nu tv), (zaI aS cS 901 fS9_49)]) [0, 1] rfl
              have hDc := hD.sub (ws' := [(zo14irriiiiiirriirrrrlriiii m0 th aS aI im (nI a) (nI p_52) (nI E) 0 3 aB aT se dn aG aO aN aD bv aY rn kd nu tv), (zaI aS cS 901 fS9_49)]) [0, 1] (by decide) rfl
              have hKc := hK.sub (tys' := [(cS, .int)]) [0] rfl
              have hFc := va_free (wc := [(zo14irriiiiiirriirrrrlriiii m0 th aS aI im (nI a) (nI p_52) (nI E) 0 3 aB aT se dn aG aO aN aD bv aY rn kd nu tv), (zaI aS cS 901 fS9_49)]) hD hS hA [0, 1] rfl
              refine va_callv (va_runV (As := [.int (-3)]) (rest := []) ⟨hx, hb, hml, hown, hts⟩ (c_emits l dC dI m0 aS aI aB aT aG aO aN aD aY th im (nI a) (nI p_52) (nI E) 0 3 se dn rn kd nu tv bv cS fS9_49 a k_53 (-3) H.size (ga) ((hI_59).2.2.2.1) (by have := (hI_59).2.2.2.2.1; omega)) (cwV 1 hts gX12_some_X12_emits rfl rfl rfl hd_yX12_emits ⟨Nat.le_of_ble_eq_true rfl, Nat.le_of_ble_eq_true rfl⟩) ⟨fun a U g mk q => by obtain ⟨q0, q1, qP, qK, qD⟩ := q; exact ⟨q0, q1, qP, va_K.moved (u := U) (U := U.calling g mk a) (Vm.Alike.refl U.vm) qK, qD⟩, va_recv hK hP (ci := 14) (q := (RX12, TX12, 23)) (q0 := 0) rfl rfl, fun U hU hW => ⟨rfl, by rw [hU], by rw [hU]; exact hPc, va_K.moved hW.alike hKc, hDc.weaken (fun _ _ _ _ => trivial)⟩⟩ rfl rfl hl.1 rfl (lv_room (Nat.le_of_ble_eq_true rfl)) dX12_some_37 ⟨Nat.le_of_ble_eq_true rfl, Nat.le_of_ble_eq_true rfl⟩) hS (fun q _ h => hFc q h) hFc (fun u tC H1 locs htC hvm hw_64 hB hz1 hk1 hS => ?_)
              obtain ⟨fS9_65, rfl⟩ : ∃ z, z = u := ⟨_, rfl⟩
              try dsimp only at hw_64 hB
              obtain ⟨hP1, hK1, hD1⟩ := hB
              rw [htC] at hP1
              have hK1 := va_K.moved hvm.symm hK1
              obtain ⟨hP, hD⟩ := va_join (wr := []) (w1 := [(zo14irriiiiiirriirrrrlriiii m0 th aS aI im (nI a) (nI p_52) (nI E) 0 3 aB aT se dn aG aO aN aD bv aY rn kd nu tv), (zaI aS cS 901 fS9_65)]) hP hD [0, 1] [] rfl rfl (by decide) (by decide) hk1 hFc hP1 hD1
              have hK := (hK.sub (tys' := []) [] rfl).app hK1
              generalize H1 = H at hP hS ⊢
              have hP : va_P (dC, dI) vwCl [(zo14irriiiiiirriirrrrlriiii m0 th aS aI im (nI a) (nI p_52) (nI E) 0 3 aB aT se dn aG aO aN aD bv aY rn kd nu tv), (zaI aS cS 901 fS9_65)] H := hP
              have hD : va_D A [(zo14irriiiiiirriirrrrlriiii m0 th aS aI im (nI a) (nI p_52) (nI E) 0 3 aB aT se dn aG aO aN aD bv aY rn kd nu tv), (zaI aS cS 901 fS9_65)] := hD
              have hK : va_K (dC, dI) vwCl [(cS, .int)] s := hK
              obtain rfl : fS9_65 = emt fS9_49 a k_53 (-3) := by rcases hw_64 with ⟨q, _⟩ | ⟨_, q⟩; exact absurd rfl q; exact q
              have hI_67 : PI (emt fS9_49 a k_53 (-3)) a (k_53 + 1) (((d + 1) + 1) - 1) p_52 E := ((hI_59).mono (by omega) (by omega)).em (by omega) (by omega) (stepd_either (by omega))
              have hF_68 : PF a fS (emt fS9_49 a k_53 (-3)) := ((hF).tr hF_57).tr (PF_emt (k := k_53) (x := (-3)) ga (by have := (hI_59).2.2.2.2.1; omega))
              refine lv_goto (tgt := 4) hx hb dX12_some_40 (by decide) ?_
              exact ih4 (p_52) ((k_53 + 1)) (0) (emt fS9_49 a k_53 (-3)) (by omega) (by omega) (hF_68) (Or.inr ⟨rfl, by omega, hI_67, by omega⟩) _ _ (hK.sub [0] rfl) (hP.sub [0, 1] rfl) (hD.sub [0, 1] (by decide) rfl) hS ls (lv_sub hl [0] rfl)
    exact L4 _ (p_6) (k_7) (0) (fS9_3) (Nat.lt_succ_self _) (by omega) ((PF.rf).tr hF_11) (Or.inr ⟨rfl, by omega, hI_13, by omega⟩) _ _ (hK.sub [0] rfl) (hP.sub [0, 1] rfl) (hD.sub [0, 1] (by decide) rfl) hS ls (lv_sub hl [0] rfl)
end mg12b
section mg12b

theorem kc_factor2_0 : ∀ w ∈ wsX120, w ∈ wsX12_factor := fun w h => List.mem_cons_of_mem _ (gin_wsX120 w h)
theorem kc_factor2_1 : (.fieldLink RX12 65 "MistHeapsModel" "isWrong" "Z" : Cond) ∈ wsX12_factor := kc_of 1147 rfl rfl rfl
theorem kc_factor2_2 : (.fieldLink RX12 89 "MistHeapsModel" "open" "I" : Cond) ∈ wsX12_factor := kc_of 1148 rfl rfl rfl
theorem kc_factor2_3 : (.fieldLink RX12 59 "MistHeapsModel" "spot" "I" : Cond) ∈ wsX12_factor := kc_of 1145 rfl rfl rfl
set_option maxHeartbeats 4000000 in
set_option maxRecDepth 100000 in
theorem c_factor2 (l : Launch) (dC : Nat → ClassId) (dI : Nat → Nat → Nat) (sK sV : Nat → Nat) (m0 aS aI aB aT aG aO aN aD aY : Nat) (th im ac sp en wg op se dn rn kd nu tv : Int32) (bv : Int64) (cS : ClassId) (fS : Nat → Int32) (a p0 E k d : Nat) (sz : Nat) (gI : PI fS a k d p0 E) : Met l yX12_factor wsX12_factor ({ frames := 14, cells := 0, slots := 0, locals := 299 } : Room) (va_Pc [.ref m0] (fun U => U.heap.size = sz ∧ va_P (dC, dI) vwCl [(zo14irriiiiiirriirrrrlriiii m0 th aS aI im (nI a) (nI p0) (nI E) 0 2 aB aT se dn aG aO aN aD bv aY rn kd nu tv), (zaI aS cS 901 fS)] U.heap ∧ va_K (dC, dI) vwCl [(cS, .int)] U ∧ va_D (fun _ => True) [(zo14irriiiiiirriirrrrlriiii m0 th aS aI im (nI a) (nI p0) (nI E) 0 2 aB aT se dn aG aO aN aD bv aY rn kd nu tv), (zaI aS cS 901 fS)] ∧ Gs sK sV (va_A [(zo14irriiiiiirriirrrrlriiii m0 th aS aI im (nI a) (nI p0) (nI E) 0 2 aB aT se dn aG aO aN aD bv aY rn kd nu tv), (zaI aS cS 901 fS)] sz) U)) (va_Qv (fun (u : (Nat → Int32) × (Int32) × (Int32)) => match u with | (fS9, sp9, wg9) => ∃ p9 k9 : Nat, sp9 = nI p9 ∧ p0 ≤ p9 ∧ p9 ≤ E ∧ PF a fS fS9 ∧ (wg9 = 1 ∨ (wg9 = 0 ∧ p0 + 3 ≤ p9 ∧ PI fS9 a k9 (d + 1) p9 E ∧ k9 + p0 ≤ k + p9))) (fun (u : (Nat → Int32) × (Int32) × (Int32)) (t : State) => match u with | (fS9, sp9, wg9) => va_P (dC, dI) vwCl [(zo14irriiiiiirriirrrrlriiii m0 th aS aI im (nI a) sp9 (nI E) wg9 2 aB aT se dn aG aO aN aD bv aY rn kd nu tv), (zaI aS cS 901 fS9)] t.heap ∧ va_K (dC, dI) vwCl [(cS, .int)] t ∧ va_D (va_A [(zo14irriiiiiirriirrrrlriiii m0 th aS aI im (nI a) (nI p0) (nI E) 0 2 aB aT se dn aG aO aN aD bv aY rn kd nu tv), (zaI aS cS 901 fS)] sz) [(zo14irriiiiiirriirrrrlriiii m0 th aS aI im (nI a) sp9 (nI E) wg9 2 aB aT se dn aG aO aN aD bv aY rn kd nu tv), (zaI aS cS 901 fS9)]) (va_A [(zo14irriiiiiirriirrrrlriiii m0 th aS aI im (nI a) (nI p0) (nI E) 0 2 aB aT se dn aG aO aN aD bv aY rn kd nu tv), (zaI aS cS 901 fS)] sz)) 0 0 (va_A [(zo14irriiiiiirriirrrrlriiii m0 th aS aI im (nI a) (nI p0) (nI E) 0 2 aB aT se dn aG aO aN aD bv aY rn kd nu tv), (zaI aS cS 901 fS)] sz) := by
  refine met_ofQ (cc := cX12_factor) (maxL := 5) (ret := none) (by decide) rfl ?_
  intro p e s m args below meth c s₁ Q B hml hv hQ
  obtain ⟨rfl, hsz, hP, hK, hD0, hE⟩ := hv
  have hx := B.exec
  have hb := B.bytes
  have hr := B.returns
  have hts := atoms_spec (ws := wsX12_factor) B.pre
  have hown : s.vm.findClass RX12 = some m.cls := findClass_of_methodNamed B.named
  have hlocks := B.notSynchronized
  subst hsz
  have hD := hD0.self (sz := s.heap.size)
  generalize hAe : va_A [(zo14irriiiiiirriirrrrlriiii m0 th aS aI im (nI a) (nI p0) (nI E) 0 2 aB aT se dn aG aO aN aD bv aY rn kd nu tv), (zaI aS cS 901 fS)] s.heap.size = A at hD hQ hE ⊢
  have hA : ∀ q : Nat, s.heap.size ≤ q → A q := fun q h => by rw [← hAe]; exact Or.inr h
  have hS : va_S A s.heap s.heap [] := va_S.rf
  have hl := lv_entry [.ref m0] (n := 5) (Nat.le_of_ble_eq_true rfl)
  rw [lg_entry_eq]
  generalize (lg_sl [.ref m0] ++ List.replicate (5 - (lg_sl [.ref m0]).length) Slot.unset).toArray = ls at hl ⊢
  generalize hag : ([.ref m0] : List Value).toArray = args at hts hQ ⊢
  have hl : lv_has ls 5 [(0, .ref m0)] := hl
  obtain ⟨H, hH⟩ : ∃ H : Heap, H = s.heap := ⟨_, rfl⟩
  rw [← hH] at hP
  rw [← hH]
  have hS : va_S A s.heap H [] := by rw [hH]; exact hS
  obtain ⟨locs, hlo⟩ : ∃ L : List Loc, L = [] := ⟨_, rfl⟩
  rw [← hlo] at hS
  rw [← hlo]
  clear hH hlo
  obtain ⟨ga, gp, gE, zk, gkp, gd, gs⟩ := id gI
  refine lv_aload_n hx hb dX12_factor_0 rfl (lv_at hl 0 rfl) ?_
  refine va_get (D := (dC, dI)) (ci := 14) (v := .int 0) (C := RX12) (T := TX12) (N := 23) hx hb hts kc_factor2_0 hown hK hP 0 rfl rfl 7 (by decide) (hts (.fieldLink RX12 65 "MistHeapsModel" "isWrong" "Z") kc_factor2_1) (fun _ h9 => h9) rfl dX12_factor_1 ?_
  refine lv_if_eq (tgt := 8) hx hb dX12_factor_4 (by decide) (fun _ => ?_) (fun c_1 => absurd c_1 (by decide))
  refine lv_aload_n hx hb dX12_factor_8 rfl (lv_at hl 0 rfl) ?_
  have hPc := hP.sub (ws' := [(zo14irriiiiiirriirrrrlriiii m0 th aS aI im (nI a) (nI p0) (nI E) 0 2 aB aT se dn aG aO aN aD bv aY rn kd nu tv), (zaI aS cS 901 fS)]) [0, 1] rfl
  have hKc := hK.sub (tys' := [(cS, .int)]) [0] rfl
  refine vp_callSi (va_runV (As := []) (rest := []) ⟨hx, hb, hml, hown, hts⟩ (c_here l dC dI m0 aS aI aB aT aG aO aN aD aY th im (nI a) (nI p0) (nI E) 0 2 se dn rn kd nu tv bv cS fS a p0 E (by omega) (by omega) (by omega)) (cwV 0 hts gX12_factor_X12_here rfl rfl rfl hd_yX12_here ⟨Nat.le_of_ble_eq_true rfl, Nat.le_of_ble_eq_true rfl⟩) ⟨fun a U g mk q => by obtain ⟨q0, qP, qK⟩ := q; exact ⟨q0, qP, va_K.moved (u := U) (U := U.calling g mk a) (Vm.Alike.refl U.vm) qK⟩, va_recv hK hP (ci := 14) (q := (RX12, TX12, 23)) (q0 := 0) rfl rfl, fun U hU hW => ⟨rfl, by rw [hU]; exact hPc, va_K.moved hW.alike hKc⟩⟩ rfl rfl hl.1 rfl (lv_room (Nat.le_of_ble_eq_true rfl)) dX12_factor_9 ⟨Nat.le_of_ble_eq_true rfl, Nat.le_of_ble_eq_true rfl⟩).run (fun r_2 hw_3 => ?_)
  refine lv_istore_n (lv' := [(1, .int r_2), (0, .ref m0)]) hx hb dX12_factor_12 rfl hl (by decide) rfl (fun ls hl => ?_)
  refine lv_iload_n hx hb dX12_factor_13 rfl (lv_at hl 0 rfl) ?_
  refine lv_bipush (v := 33) hx hb dX12_factor_14 (by decide) ?_
  refine lv_icmp_eq (tgt := 25) hx hb dX12_factor_16 (by decide) (fun c_4 => ?_) (fun c_4 => ?_)
  · skip
    subst c_4
    have hlt : p0 < E := hv_lt (f := fS) (by rw [← hw_3]; decide)
    refine lv_aload_n hx hb dX12_factor_25 rfl (lv_at hl 1 rfl) ?_
    refine lv_aload_n hx hb dX12_factor_26 rfl (lv_at hl 1 rfl) ?_
    refine va_get (D := (dC, dI)) (ci := 14) (v := .int 2) (C := RX12) (T := TX12) (N := 23) hx hb hts kc_factor2_0 hown hK hP 0 rfl rfl 8 (by decide) (hts (.fieldLink RX12 89 "MistHeapsModel" "open" "I") kc_factor2_2) (fun _ h9 => h9) rfl dX12_factor_27 ?_
    refine lv_iconst (v := 5) hx hb dX12_factor_30 (by decide) ?_
    refine lv_icmp_ne (tgt := 38) hx hb dX12_factor_31 (by decide) (fun _ => ?_) (fun c_5 => absurd c_5 (by decide))
    refine lv_iconst (v := 0) hx hb dX12_factor_38 (by decide) ?_
    refine va_put (D := (dC, dI)) (ci := 14) (v := .int 0) (ty := .boolean) (C := RX12) (T := TX12) (N := 23) hx hb hts kc_factor2_0 tyX12 tyX12_ok nmX12 hown hK hP hD hS 0 rfl rfl 7 (by decide) (hts (.fieldLink RX12 65 "MistHeapsModel" "isWrong" "Z") kc_factor2_1) (fun _ h9 => h9) rfl (by decide +kernel) rfl rfl (Nat.le_of_ble_eq_true rfl) dX12_factor_39 (fun H locs hP hD hS => ?_)
    have hP : va_P (dC, dI) vwCl [(zo14irriiiiiirriirrrrlriiii m0 th aS aI im (nI a) (nI p0) (nI E) 0 2 aB aT se dn aG aO aN aD bv aY rn kd nu tv), (zaI aS cS 901 fS)] H := hP
    have hD : va_D A [(zo14irriiiiiirriirrrrlriiii m0 th aS aI im (nI a) (nI p0) (nI E) 0 2 aB aT se dn aG aO aN aD bv aY rn kd nu tv), (zaI aS cS 901 fS)] := hD
    refine lv_aload_n hx hb dX12_factor_42 rfl (lv_at hl 1 rfl) ?_
    refine lv_dup hx hb dX12_factor_43 rfl ?_
    refine va_get (D := (dC, dI)) (ci := 14) (v := .int 2) (C := RX12) (T := TX12) (N := 23) hx hb hts kc_factor2_0 hown hK hP 0 rfl rfl 8 (by decide) (hts (.fieldLink RX12 89 "MistHeapsModel" "open" "I") kc_factor2_2) (fun _ h9 => h9) rfl dX12_factor_44 ?_
    refine lv_iconst (v := 1) hx hb dX12_factor_47 (by decide) ?_
    refine lv_iadd hx hb dX12_factor_48 ?_
    refine qi_as (y := 3) (by decide) ?_
    refine va_put (D := (dC, dI)) (ci := 14) (v := .int 3) (ty := .int) (C := RX12) (T := TX12) (N := 23) hx hb hts kc_factor2_0 tyX12 tyX12_ok nmX12 hown hK hP hD hS 0 rfl rfl 8 (by decide) (hts (.fieldLink RX12 89 "MistHeapsModel" "open" "I") kc_factor2_2) (fun _ h9 => h9) rfl (by decide +kernel) rfl rfl (Nat.le_of_ble_eq_true rfl) dX12_factor_49 (fun H locs hP hD hS => ?_)
    have hP : va_P (dC, dI) vwCl [(zo14irriiiiiirriirrrrlriiii m0 th aS aI im (nI a) (nI p0) (nI E) 0 3 aB aT se dn aG aO aN aD bv aY rn kd nu tv), (zaI aS cS 901 fS)] H := hP
    have hD : va_D A [(zo14irriiiiiirriirrrrlriiii m0 th aS aI im (nI a) (nI p0) (nI E) 0 3 aB aT se dn aG aO aN aD bv aY rn kd nu tv), (zaI aS cS 901 fS)] := hD
    refine lv_aload_n hx hb dX12_factor_52 rfl (lv_at hl 1 rfl) ?_
    refine lv_dup hx hb dX12_factor_53 rfl ?_
    refine va_get (D := (dC, dI)) (ci := 14) (v := .int (nI p0)) (C := RX12) (T := TX12) (N := 23) hx hb hts kc_factor2_0 hown hK hP 0 rfl rfl 5 (by decide) (hts (.fieldLink RX12 59 "MistHeapsModel" "spot" "I") kc_factor2_3) (fun _ h9 => h9) rfl dX12_factor_54 ?_
    refine lv_aload_n hx hb dX12_factor_57 rfl (lv_at hl 1 rfl) ?_
    refine va_get (D := (dC, dI)) (ci := 14) (v := .int 0) (C := RX12) (T := TX12) (N := 23) hx hb hts kc_factor2_0 hown hK hP 0 rfl rfl 7 (by decide) (hts (.fieldLink RX12 65 "MistHeapsModel" "isWrong" "Z") kc_factor2_1) (fun _ h9 => h9) rfl dX12_factor_58 ?_
    refine lv_if_eq (tgt := 68) hx hb dX12_factor_61 (by decide) (fun _ => ?_) (fun c_6 => absurd c_6 (by decide))
    refine lv_iconst (v := 1) hx hb dX12_factor_68 (by decide) ?_
    refine lv_iadd hx hb dX12_factor_69 ?_
    refine qi_as (y := nI (p0 + 1)) (nI_add p0 1) ?_
    refine va_put (D := (dC, dI)) (ci := 14) (v := .int (nI (p0 + 1))) (ty := .int) (C := RX12) (T := TX12) (N := 23) hx hb hts kc_factor2_0 tyX12 tyX12_ok nmX12 hown hK hP hD hS 0 rfl rfl 5 (by decide) (hts (.fieldLink RX12 59 "MistHeapsModel" "spot" "I") kc_factor2_3) (fun _ h9 => h9) rfl (by decide +kernel) rfl rfl (Nat.le_of_ble_eq_true rfl) dX12_factor_70 (fun H locs hP hD hS => ?_)
    have hP : va_P (dC, dI) vwCl [(zo14irriiiiiirriirrrrlriiii m0 th aS aI im (nI a) (nI (p0 + 1)) (nI E) 0 3 aB aT se dn aG aO aN aD bv aY rn kd nu tv), (zaI aS cS 901 fS)] H := hP
    have hD : va_D A [(zo14irriiiiiirriirrrrlriiii m0 th aS aI im (nI a) (nI (p0 + 1)) (nI E) 0 3 aB aT se dn aG aO aN aD bv aY rn kd nu tv), (zaI aS cS 901 fS)] := hD
    refine lv_iload_n hx hb dX12_factor_73 rfl (lv_at hl 0 rfl) ?_
    refine lv_bipush (v := 33) hx hb dX12_factor_74 (by decide) ?_
    refine lv_icmp_ne (tgt := 91) hx hb dX12_factor_76 (by decide) (fun c_7 => absurd c_7 (by decide)) (fun _ => ?_)
    refine lv_aload_n hx hb dX12_factor_79 rfl (lv_at hl 1 rfl) ?_
    have hPc := hP.sub (ws' := [(zo14irriiiiiirriirrrrlriiii m0 th aS aI im (nI a) (nI (p0 + 1)) (nI E) 0 3 aB aT se dn aG aO aN aD bv aY rn kd nu tv), (zaI aS cS 901 fS)]) [0, 1] rfl
    have hDc := hD.sub (ws' := [(zo14irriiiiiirriirrrrlriiii m0 th aS aI im (nI a) (nI (p0 + 1)) (nI E) 0 3 aB aT se dn aG aO aN aD bv aY rn kd nu tv), (zaI aS cS 901 fS)]) [0, 1] (by decide) rfl
    have hKc := hK.sub (tys' := [(cS, .int)]) [0] rfl
    have hFc := va_free (wc := [(zo14irriiiiiirriirrrrlriiii m0 th aS aI im (nI a) (nI (p0 + 1)) (nI E) 0 3 aB aT se dn aG aO aN aD bv aY rn kd nu tv), (zaI aS cS 901 fS)]) hD hS hA [0, 1] rfl
    refine va_callv (va_runV (As := []) (rest := []) ⟨hx, hb, hml, hown, hts⟩ (c_factor3 l dC dI sK sV m0 aS aI aB aT aG aO aN aD aY th im (nI a) (nI (p0 + 1)) (nI E) 0 3 se dn rn kd nu tv bv cS fS a (p0 + 1) E k d H.size ((gI).mono (by omega) (by omega))) (cwV 0 hts gX12_factor_X12_factor rfl rfl rfl hd_yX12_factor ⟨Nat.le_of_ble_eq_true rfl, Nat.le_of_ble_eq_true rfl⟩) ⟨fun a U g mk q => by obtain ⟨q0, q1, qP, qK, qD, qhE⟩ := q; exact ⟨q0, q1, qP, va_K.moved (u := U) (U := U.calling g mk a) (Vm.Alike.refl U.vm) qK, qD, qhE.same rfl rfl⟩, va_recv hK hP (ci := 14) (q := (RX12, TX12, 23)) (q0 := 0) rfl rfl, fun U hU hW => ⟨rfl, by rw [hU], by rw [hU]; exact hPc, va_K.moved hW.alike hKc, hDc.weaken (fun _ _ _ _ => trivial), hE.call hS hU hW (fun q h => hFc q h)⟩⟩ rfl rfl hl.1 rfl (lv_room (Nat.le_of_ble_eq_true rfl)) dX12_factor_80 ⟨Nat.le_of_ble_eq_true rfl, Nat.le_of_ble_eq_true rfl⟩) hS (fun q _ h => hFc q h) hFc (fun u tC H1 locs htC hvm hw_9 hB hz1 hk1 hS => ?_)
    obtain ⟨fS9_10, sp9_11, wg9_12⟩ := u
    try dsimp only at hw_9 hB
    obtain ⟨hP1, hK1, hD1⟩ := hB
    rw [htC] at hP1
    have hK1 := va_K.moved hvm.symm hK1
    obtain ⟨hP, hD⟩ := va_join (wr := []) (w1 := [(zo14irriiiiiirriirrrrlriiii m0 th aS aI im (nI a) sp9_11 (nI E) wg9_12 3 aB aT se dn aG aO aN aD bv aY rn kd nu tv), (zaI aS cS 901 fS9_10)]) hP hD [0, 1] [] rfl rfl (by decide) (by decide) hk1 hFc hP1 hD1
    have hK := (hK.sub (tys' := []) [] rfl).app hK1
    generalize H1 = H at hP hS ⊢
    have hP : va_P (dC, dI) vwCl [(zo14irriiiiiirriirrrrlriiii m0 th aS aI im (nI a) sp9_11 (nI E) wg9_12 3 aB aT se dn aG aO aN aD bv aY rn kd nu tv), (zaI aS cS 901 fS9_10)] H := hP
    have hD : va_D A [(zo14irriiiiiirriirrrrlriiii m0 th aS aI im (nI a) sp9_11 (nI E) wg9_12 3 aB aT se dn aG aO aN aD bv aY rn kd nu tv), (zaI aS cS 901 fS9_10)] := hD
    have hK : va_K (dC, dI) vwCl [(cS, .int)] s := hK
    obtain ⟨p_13, k_14, rfl, h_16, h_17, hF_18, q9⟩ := hw_9
    rcases q9 with rfl | ⟨rfl, h_19, hI_20, h_21⟩
    · skip
      refine lv_aload_n hx hb dX12_factor_83 rfl (lv_at hl 1 rfl) ?_
      refine lv_iconst (v := (-1)) hx hb dX12_factor_84 (by decide) ?_
      have hPc := hP.sub (ws' := [(zo14irriiiiiirriirrrrlriiii m0 th aS aI im (nI a) (nI p_13) (nI E) 1 3 aB aT se dn aG aO aN aD bv aY rn kd nu tv)]) [0] rfl
      have hKc := hK.sub (tys' := []) [] rfl
      refine va_csv (va_runV (As := [.int (-1)]) (rest := []) ⟨hx, hb, hml, hown, hts⟩ (c_emitsW l dC dI m0 aS aI aB aT aG aO aN aD aY th im (nI a) (nI p_13) (nI E) 1 3 se dn rn kd nu tv bv (-1)) (cwV 1 hts gX12_factor_X12_emits rfl rfl rfl hd_yX12_emits ⟨Nat.le_of_ble_eq_true rfl, Nat.le_of_ble_eq_true rfl⟩) ⟨fun a U g mk q => by obtain ⟨q0, qP, qK⟩ := q; exact ⟨q0, qP, va_K.moved (u := U) (U := U.calling g mk a) (Vm.Alike.refl U.vm) qK⟩, va_recv hK hP (ci := 14) (q := (RX12, TX12, 23)) (q0 := 0) rfl rfl, fun U hU hW => ⟨rfl, by rw [hU]; exact hPc, va_K.moved hW.alike hKc⟩⟩ rfl rfl hl.1 rfl (lv_room (Nat.le_of_ble_eq_true rfl)) dX12_factor_85 ⟨Nat.le_of_ble_eq_true rfl, Nat.le_of_ble_eq_true rfl⟩).run (fun hw_23 => ?_)
      refine lv_goto (tgt := 101) hx hb dX12_factor_88 (by decide) ?_
      refine lv_aload_n hx hb dX12_factor_101 rfl (lv_at hl 1 rfl) ?_
      refine lv_dup hx hb dX12_factor_102 rfl ?_
      refine va_get (D := (dC, dI)) (ci := 14) (v := .int 3) (C := RX12) (T := TX12) (N := 23) hx hb hts kc_factor2_0 hown hK hP 0 rfl rfl 8 (by decide) (hts (.fieldLink RX12 89 "MistHeapsModel" "open" "I") kc_factor2_2) (fun _ h9 => h9) rfl dX12_factor_103 ?_
      refine lv_iconst (v := 1) hx hb dX12_factor_106 (by decide) ?_
      refine lv_isub hx hb dX12_factor_107 ?_
      refine qi_as (y := 2) (by decide) ?_
      refine va_put (D := (dC, dI)) (ci := 14) (v := .int 2) (ty := .int) (C := RX12) (T := TX12) (N := 23) hx hb hts kc_factor2_0 tyX12 tyX12_ok nmX12 hown hK hP hD hS 0 rfl rfl 8 (by decide) (hts (.fieldLink RX12 89 "MistHeapsModel" "open" "I") kc_factor2_2) (fun _ h9 => h9) rfl (by decide +kernel) rfl rfl (Nat.le_of_ble_eq_true rfl) dX12_factor_108 (fun H locs hP hD hS => ?_)
      have hP : va_P (dC, dI) vwCl [(zo14irriiiiiirriirrrrlriiii m0 th aS aI im (nI a) (nI p_13) (nI E) 1 2 aB aT se dn aG aO aN aD bv aY rn kd nu tv), (zaI aS cS 901 fS9_10)] H := hP
      have hD : va_D A [(zo14irriiiiiirriirrrrlriiii m0 th aS aI im (nI a) (nI p_13) (nI E) 1 2 aB aT se dn aG aO aN aD bv aY rn kd nu tv), (zaI aS cS 901 fS9_10)] := hD
      rw [hQ]
      have hP9 := hP.sub (ws' := [(zo14irriiiiiirriirrrrlriiii m0 th aS aI im (nI a) (nI p_13) (nI E) 1 2 aB aT se dn aG aO aN aD bv aY rn kd nu tv), (zaI aS cS 901 fS9_10)]) [0, 1] rfl
      have hD9 := hD.sub (ws' := [(zo14irriiiiiirriirrrrlriiii m0 th aS aI im (nI a) (nI p_13) (nI E) 1 2 aB aT se dn aG aO aN aD bv aY rn kd nu tv), (zaI aS cS 901 fS9_10)]) [0, 1] (by decide) rfl
      have hK9 := hK.sub (tys' := [(cS, .int)]) [0] rfl
      exact W.vret hx hb hr (fun tQ htQ hWQ => ⟨⟨(fS9_10, (nI p_13), 1), rfl, ⟨p_13, k, rfl, by omega, by omega, (PF.rf).tr hF_18, Or.inl rfl⟩, by rw [htQ]; exact hP9, va_K.moved hWQ.alike hK9, hD9⟩, hS.F htQ⟩) hS.2.2 dX12_factor_111
    · skip
      have k5 := hI_20.2.2.2.2.1
      refine lv_aload_n hx hb dX12_factor_83 rfl (lv_at hl 1 rfl) ?_
      refine lv_iconst (v := (-1)) hx hb dX12_factor_84 (by decide) ?_
      have hPc := hP.sub (ws' := [(zo14irriiiiiirriirrrrlriiii m0 th aS aI im (nI a) (nI p_13) (nI E) 0 3 aB aT se dn aG aO aN aD bv aY rn kd nu tv), (zaI aS cS 901 fS9_10)]) [0, 1] rfl
      have hDc := hD.sub (ws' := [(zo14irriiiiiirriirrrrlriiii m0 th aS aI im (nI a) (nI p_13) (nI E) 0 3 aB aT se dn aG aO aN aD bv aY rn kd nu tv), (zaI aS cS 901 fS9_10)]) [0, 1] (by decide) rfl
      have hKc := hK.sub (tys' := [(cS, .int)]) [0] rfl
      have hFc := va_free (wc := [(zo14irriiiiiirriirrrrlriiii m0 th aS aI im (nI a) (nI p_13) (nI E) 0 3 aB aT se dn aG aO aN aD bv aY rn kd nu tv), (zaI aS cS 901 fS9_10)]) hD hS hA [0, 1] rfl
      refine va_callv (va_runV (As := [.int (-1)]) (rest := []) ⟨hx, hb, hml, hown, hts⟩ (c_emits l dC dI m0 aS aI aB aT aG aO aN aD aY th im (nI a) (nI p_13) (nI E) 0 3 se dn rn kd nu tv bv cS fS9_10 a k_14 (-1) H.size (ga) ((hI_20).2.2.2.1) (by have := (hI_20).2.2.2.2.1; omega)) (cwV 1 hts gX12_factor_X12_emits rfl rfl rfl hd_yX12_emits ⟨Nat.le_of_ble_eq_true rfl, Nat.le_of_ble_eq_true rfl⟩) ⟨fun a U g mk q => by obtain ⟨q0, q1, qP, qK, qD⟩ := q; exact ⟨q0, q1, qP, va_K.moved (u := U) (U := U.calling g mk a) (Vm.Alike.refl U.vm) qK, qD⟩, va_recv hK hP (ci := 14) (q := (RX12, TX12, 23)) (q0 := 0) rfl rfl, fun U hU hW => ⟨rfl, by rw [hU], by rw [hU]; exact hPc, va_K.moved hW.alike hKc, hDc.weaken (fun _ _ _ _ => trivial)⟩⟩ rfl rfl hl.1 rfl (lv_room (Nat.le_of_ble_eq_true rfl)) dX12_factor_85 ⟨Nat.le_of_ble_eq_true rfl, Nat.le_of_ble_eq_true rfl⟩) hS (fun q _ h => hFc q h) hFc (fun u tC H1 locs htC hvm hw_25 hB hz1 hk1 hS => ?_)
      obtain ⟨fS9_26, rfl⟩ : ∃ z, z = u := ⟨_, rfl⟩
      try dsimp only at hw_25 hB
      obtain ⟨hP1, hK1, hD1⟩ := hB
      rw [htC] at hP1
      have hK1 := va_K.moved hvm.symm hK1
      obtain ⟨hP, hD⟩ := va_join (wr := []) (w1 := [(zo14irriiiiiirriirrrrlriiii m0 th aS aI im (nI a) (nI p_13) (nI E) 0 3 aB aT se dn aG aO aN aD bv aY rn kd nu tv), (zaI aS cS 901 fS9_26)]) hP hD [0, 1] [] rfl rfl (by decide) (by decide) hk1 hFc hP1 hD1
      have hK := (hK.sub (tys' := []) [] rfl).app hK1
      generalize H1 = H at hP hS ⊢
      have hP : va_P (dC, dI) vwCl [(zo14irriiiiiirriirrrrlriiii m0 th aS aI im (nI a) (nI p_13) (nI E) 0 3 aB aT se dn aG aO aN aD bv aY rn kd nu tv), (zaI aS cS 901 fS9_26)] H := hP
      have hD : va_D A [(zo14irriiiiiirriirrrrlriiii m0 th aS aI im (nI a) (nI p_13) (nI E) 0 3 aB aT se dn aG aO aN aD bv aY rn kd nu tv), (zaI aS cS 901 fS9_26)] := hD
      have hK : va_K (dC, dI) vwCl [(cS, .int)] s := hK
      obtain rfl : fS9_26 = emt fS9_10 a k_14 (-1) := by rcases hw_25 with ⟨q, _⟩ | ⟨_, q⟩; exact absurd rfl q; exact q
      have hI_28 : PI (emt fS9_10 a k_14 (-1)) a (k_14 + 1) (d + 1) p_13 E := ((hI_20).mono (by omega) (by omega)).em (by omega) (by omega) (stepd_not (by omega))
      have hF_29 : PF a fS (emt fS9_10 a k_14 (-1)) := ((PF.rf).tr hF_18).tr (PF_emt (k := k_14) (x := (-1)) ga (by have := (hI_20).2.2.2.2.1; omega))
      refine lv_goto (tgt := 101) hx hb dX12_factor_88 (by decide) ?_
      refine lv_aload_n hx hb dX12_factor_101 rfl (lv_at hl 1 rfl) ?_
      refine lv_dup hx hb dX12_factor_102 rfl ?_
      refine va_get (D := (dC, dI)) (ci := 14) (v := .int 3) (C := RX12) (T := TX12) (N := 23) hx hb hts kc_factor2_0 hown hK hP 0 rfl rfl 8 (by decide) (hts (.fieldLink RX12 89 "MistHeapsModel" "open" "I") kc_factor2_2) (fun _ h9 => h9) rfl dX12_factor_103 ?_
      refine lv_iconst (v := 1) hx hb dX12_factor_106 (by decide) ?_
      refine lv_isub hx hb dX12_factor_107 ?_
      refine qi_as (y := 2) (by decide) ?_
      refine va_put (D := (dC, dI)) (ci := 14) (v := .int 2) (ty := .int) (C := RX12) (T := TX12) (N := 23) hx hb hts kc_factor2_0 tyX12 tyX12_ok nmX12 hown hK hP hD hS 0 rfl rfl 8 (by decide) (hts (.fieldLink RX12 89 "MistHeapsModel" "open" "I") kc_factor2_2) (fun _ h9 => h9) rfl (by decide +kernel) rfl rfl (Nat.le_of_ble_eq_true rfl) dX12_factor_108 (fun H locs hP hD hS => ?_)
      have hP : va_P (dC, dI) vwCl [(zo14irriiiiiirriirrrrlriiii m0 th aS aI im (nI a) (nI p_13) (nI E) 0 2 aB aT se dn aG aO aN aD bv aY rn kd nu tv), (zaI aS cS 901 (emt fS9_10 a k_14 (-1)))] H := hP
      have hD : va_D A [(zo14irriiiiiirriirrrrlriiii m0 th aS aI im (nI a) (nI p_13) (nI E) 0 2 aB aT se dn aG aO aN aD bv aY rn kd nu tv), (zaI aS cS 901 (emt fS9_10 a k_14 (-1)))] := hD
      rw [hQ]
      have hP9 := hP.sub (ws' := [(zo14irriiiiiirriirrrrlriiii m0 th aS aI im (nI a) (nI p_13) (nI E) 0 2 aB aT se dn aG aO aN aD bv aY rn kd nu tv), (zaI aS cS 901 (emt fS9_10 a k_14 (-1)))]) [0, 1] rfl
      have hD9 := hD.sub (ws' := [(zo14irriiiiiirriirrrrlriiii m0 th aS aI im (nI a) (nI p_13) (nI E) 0 2 aB aT se dn aG aO aN aD bv aY rn kd nu tv), (zaI aS cS 901 (emt fS9_10 a k_14 (-1)))]) [0, 1] (by decide) rfl
      have hK9 := hK.sub (tys' := [(cS, .int)]) [0] rfl
      exact W.vret hx hb hr (fun tQ htQ hWQ => ⟨⟨((emt fS9_10 a k_14 (-1)), (nI p_13), 0), rfl, ⟨p_13, (k_14 + 1), rfl, by omega, by omega, hF_29, Or.inr ⟨rfl, by omega, (hI_28).mono (by omega) (by omega), by omega⟩⟩, by rw [htQ]; exact hP9, va_K.moved hWQ.alike hK9, hD9⟩, hS.F htQ⟩) hS.2.2 dX12_factor_111
  · skip
    refine lv_iload_n hx hb dX12_factor_19 rfl (lv_at hl 0 rfl) ?_
    refine lv_bipush (v := 40) hx hb dX12_factor_20 (by decide) ?_
    refine lv_icmp_ne (tgt := 112) hx hb dX12_factor_22 (by decide) (fun c_30 => ?_) (fun c_30 => ?_)
    · skip
      refine lv_aload_n hx hb dX12_factor_112 rfl (lv_at hl 1 rfl) ?_
      refine va_ldcS hx hb hown (show vk_R RX12 101 "hkrcms" (sK 6) s from hE.1 6 (by decide)) dX12_factor_113 ?_
      have hPc := hP.sub (ws' := [(zo14irriiiiiirriirrrrlriiii m0 th aS aI im (nI a) (nI p0) (nI E) 0 2 aB aT se dn aG aO aN aD bv aY rn kd nu tv), (zaI aS cS 901 fS)]) [0, 1] rfl
      have hDc := hD.sub (ws' := [(zo14irriiiiiirriirrrrlriiii m0 th aS aI im (nI a) (nI p0) (nI E) 0 2 aB aT se dn aG aO aN aD bv aY rn kd nu tv), (zaI aS cS 901 fS)]) [0, 1] (by decide) rfl
      have hKc := hK.sub (tys' := [(cS, .int)]) [0] rfl
      have hFc := va_free (wc := [(zo14irriiiiiirriirrrrlriiii m0 th aS aI im (nI a) (nI p0) (nI E) 0 2 aB aT se dn aG aO aN aD bv aY rn kd nu tv), (zaI aS cS 901 fS)]) hD hS hA [0, 1] rfl
      refine va_calli (va_runV (As := [.ref (sK 6)]) (rest := []) ⟨hx, hb, hml, hown, hts⟩ (c_among l dC dI sK sV m0 aS aI aB aT aG aO aN aD aY th im (nI a) (nI p0) (nI E) 0 2 se dn rn kd nu tv bv cS fS a p0 E 6 H.size (by omega) (by omega) (by omega) (by decide)) (cwV 1 hts gX12_factor_X12_among rfl rfl rfl hd_yX12_among ⟨Nat.le_of_ble_eq_true rfl, Nat.le_of_ble_eq_true rfl⟩) ⟨fun a U g mk q => by obtain ⟨q0, q1, qP, qK, qD, qhE⟩ := q; exact ⟨q0, q1, qP, va_K.moved (u := U) (U := U.calling g mk a) (Vm.Alike.refl U.vm) qK, qD, qhE.same rfl rfl⟩, va_recv hK hP (ci := 14) (q := (RX12, TX12, 23)) (q0 := 0) rfl rfl, fun U hU hW => ⟨rfl, by rw [hU], by rw [hU]; exact hPc, va_K.moved hW.alike hKc, hDc.weaken (fun _ _ _ _ => trivial), hE.call hS hU hW (fun q h => hFc q h)⟩⟩ rfl rfl hl.1 rfl (lv_room (Nat.le_of_ble_eq_true rfl)) dX12_factor_115 ⟨Nat.le_of_ble_eq_true rfl, Nat.le_of_ble_eq_true rfl⟩) hS (fun q _ h => hFc q h) hFc (fun r_31 u tC H1 locs htC hvm hw_32 hB hz1 hk1 hS => ?_)
      obtain ⟨sp9_33, rfl⟩ : ∃ z, z = u := ⟨_, rfl⟩
      try dsimp only at hw_32 hB
      obtain ⟨hP1, hK1, hD1⟩ := hB
      rw [htC] at hP1
      have hK1 := va_K.moved hvm.symm hK1
      obtain ⟨hP, hD⟩ := va_join (wr := []) (w1 := [(zo14irriiiiiirriirrrrlriiii m0 th aS aI im (nI a) sp9_33 (nI E) 0 2 aB aT se dn aG aO aN aD bv aY rn kd nu tv), (zaI aS cS 901 fS)]) hP hD [0, 1] [] rfl rfl (by decide) (by decide) hk1 hFc hP1 hD1
      have hK := (hK.sub (tys' := []) [] rfl).app hK1
      generalize H1 = H at hP hS ⊢
      have hP : va_P (dC, dI) vwCl [(zo14irriiiiiirriirrrrlriiii m0 th aS aI im (nI a) sp9_33 (nI E) 0 2 aB aT se dn aG aO aN aD bv aY rn kd nu tv), (zaI aS cS 901 fS)] H := hP
      have hD : va_D A [(zo14irriiiiiirriirrrrlriiii m0 th aS aI im (nI a) sp9_33 (nI E) 0 2 aB aT se dn aG aO aN aD bv aY rn kd nu tv), (zaI aS cS 901 fS)] := hD
      have hK : va_K (dC, dI) vwCl [(cS, .int)] s := hK
      rcases hw_32 with ⟨rfl, rfl⟩ | ⟨j_34, hj_35, rfl, h_36, rfl⟩
      · skip
        refine lv_istore_n (lv' := [(2, .int (-1)), (1, .int r_2), (0, .ref m0)]) hx hb dX12_factor_118 rfl hl (by decide) rfl (fun ls hl => ?_)
        refine lv_aload_n hx hb dX12_factor_119 rfl (lv_at hl 2 rfl) ?_
        refine lv_iload_n hx hb dX12_factor_120 rfl (lv_at hl 0 rfl) ?_
        refine lv_iconst (v := (-1)) hx hb dX12_factor_121 (by decide) ?_
        refine lv_icmp_ne (tgt := 129) hx hb dX12_factor_122 (by decide) (fun c_37 => absurd c_37 (by decide)) (fun _ => ?_)
        refine lv_iconst (v := 1) hx hb dX12_factor_125 (by decide) ?_
        refine lv_goto (tgt := 130) hx hb dX12_factor_126 (by decide) ?_
        refine va_put (D := (dC, dI)) (ci := 14) (v := .int 1) (ty := .boolean) (C := RX12) (T := TX12) (N := 23) hx hb hts kc_factor2_0 tyX12 tyX12_ok nmX12 hown hK hP hD hS 0 rfl rfl 7 (by decide) (hts (.fieldLink RX12 65 "MistHeapsModel" "isWrong" "Z") kc_factor2_1) (fun _ h9 => h9) rfl (by decide +kernel) rfl rfl (Nat.le_of_ble_eq_true rfl) dX12_factor_130 (fun H locs hP hD hS => ?_)
        have hP : va_P (dC, dI) vwCl [(zo14irriiiiiirriirrrrlriiii m0 th aS aI im (nI a) (nI p0) (nI E) 1 2 aB aT se dn aG aO aN aD bv aY rn kd nu tv), (zaI aS cS 901 fS)] H := hP
        have hD : va_D A [(zo14irriiiiiirriirrrrlriiii m0 th aS aI im (nI a) (nI p0) (nI E) 1 2 aB aT se dn aG aO aN aD bv aY rn kd nu tv), (zaI aS cS 901 fS)] := hD
        refine lv_aload_n hx hb dX12_factor_133 rfl (lv_at hl 2 rfl) ?_
        refine va_get (D := (dC, dI)) (ci := 14) (v := .int 1) (C := RX12) (T := TX12) (N := 23) hx hb hts kc_factor2_0 hown hK hP 0 rfl rfl 7 (by decide) (hts (.fieldLink RX12 65 "MistHeapsModel" "isWrong" "Z") kc_factor2_1) (fun _ h9 => h9) rfl dX12_factor_134 ?_
        refine lv_if_eq (tgt := 144) hx hb dX12_factor_137 (by decide) (fun c_38 => absurd c_38 (by decide)) (fun _ => ?_)
        refine lv_iconst (v := 0) hx hb dX12_factor_140 (by decide) ?_
        refine lv_goto (tgt := 150) hx hb dX12_factor_141 (by decide) ?_
        refine lv_istore_n (lv' := [(3, .int 0), (2, .int (-1)), (1, .int r_2), (0, .ref m0)]) hx hb dX12_factor_150 rfl hl (by decide) rfl (fun ls hl => ?_)
        refine lv_aload_n hx hb dX12_factor_151 rfl (lv_at hl 3 rfl) ?_
        refine lv_aload_n hx hb dX12_factor_152 rfl (lv_at hl 3 rfl) ?_
        refine va_get (D := (dC, dI)) (ci := 14) (v := .int 1) (C := RX12) (T := TX12) (N := 23) hx hb hts kc_factor2_0 hown hK hP 0 rfl rfl 7 (by decide) (hts (.fieldLink RX12 65 "MistHeapsModel" "isWrong" "Z") kc_factor2_1) (fun _ h9 => h9) rfl dX12_factor_153 ?_
        refine lv_if_ne (tgt := 164) hx hb dX12_factor_156 (by decide) (fun _ => ?_) (fun c_39 => absurd c_39 (by decide))
        refine lv_iconst (v := 1) hx hb dX12_factor_164 (by decide) ?_
        refine lv_goto (tgt := 169) hx hb dX12_factor_165 (by decide) ?_
        refine va_put (D := (dC, dI)) (ci := 14) (v := .int 1) (ty := .boolean) (C := RX12) (T := TX12) (N := 23) hx hb hts kc_factor2_0 tyX12 tyX12_ok nmX12 hown hK hP hD hS 0 rfl rfl 7 (by decide) (hts (.fieldLink RX12 65 "MistHeapsModel" "isWrong" "Z") kc_factor2_1) (fun _ h9 => h9) rfl (by decide +kernel) rfl rfl (Nat.le_of_ble_eq_true rfl) dX12_factor_169 (fun H locs hP hD hS => ?_)
        have hP : va_P (dC, dI) vwCl [(zo14irriiiiiirriirrrrlriiii m0 th aS aI im (nI a) (nI p0) (nI E) 1 2 aB aT se dn aG aO aN aD bv aY rn kd nu tv), (zaI aS cS 901 fS)] H := hP
        have hD : va_D A [(zo14irriiiiiirriirrrrlriiii m0 th aS aI im (nI a) (nI p0) (nI E) 1 2 aB aT se dn aG aO aN aD bv aY rn kd nu tv), (zaI aS cS 901 fS)] := hD
        refine lv_aload_n hx hb dX12_factor_172 rfl (lv_at hl 3 rfl) ?_
        have hPc := hP.sub (ws' := [(zo14irriiiiiirriirrrrlriiii m0 th aS aI im (nI a) (nI p0) (nI E) 1 2 aB aT se dn aG aO aN aD bv aY rn kd nu tv), (zaI aS cS 901 fS)]) [0, 1] rfl
        have hDc := hD.sub (ws' := [(zo14irriiiiiirriirrrrlriiii m0 th aS aI im (nI a) (nI p0) (nI E) 1 2 aB aT se dn aG aO aN aD bv aY rn kd nu tv), (zaI aS cS 901 fS)]) [0, 1] (by decide) rfl
        have hKc := hK.sub (tys' := [(cS, .int)]) [0] rfl
        have hFc := va_free (wc := [(zo14irriiiiiirriirrrrlriiii m0 th aS aI im (nI a) (nI p0) (nI E) 1 2 aB aT se dn aG aO aN aD bv aY rn kd nu tv), (zaI aS cS 901 fS)]) hD hS hA [0, 1] rfl
        refine va_calli (va_runV (As := []) (rest := []) ⟨hx, hb, hml, hown, hts⟩ (c_figures l dC dI m0 aS aI aB aT aG aO aN aD aY th im (nI a) (nI p0) (nI E) 1 2 se dn rn kd nu tv bv cS fS a p0 E H.size (by omega) (by omega) (by omega) (Or.inr rfl)) (cwV 0 hts gX12_factor_X12_figures rfl rfl rfl hd_yX12_figures ⟨Nat.le_of_ble_eq_true rfl, Nat.le_of_ble_eq_true rfl⟩) ⟨fun a U g mk q => by obtain ⟨q0, q1, qP, qK, qD⟩ := q; exact ⟨q0, q1, qP, va_K.moved (u := U) (U := U.calling g mk a) (Vm.Alike.refl U.vm) qK, qD⟩, va_recv hK hP (ci := 14) (q := (RX12, TX12, 23)) (q0 := 0) rfl rfl, fun U hU hW => ⟨rfl, by rw [hU], by rw [hU]; exact hPc, va_K.moved hW.alike hKc, hDc.weaken (fun _ _ _ _ => trivial)⟩⟩ rfl rfl hl.1 rfl (lv_room (Nat.le_of_ble_eq_true rfl)) dX12_factor_173 ⟨Nat.le_of_ble_eq_true rfl, Nat.le_of_ble_eq_true rfl⟩) hS (fun q _ h => hFc q h) hFc (fun r_40 u tC H1 locs htC hvm hw_41 hB hz1 hk1 hS => ?_)
        obtain ⟨sp9_42, wg9_43⟩ := u
        try dsimp only at hw_41 hB
        obtain ⟨hP1, hK1, hD1⟩ := hB
        rw [htC] at hP1
        have hK1 := va_K.moved hvm.symm hK1
        obtain ⟨hP, hD⟩ := va_join (wr := []) (w1 := [(zo14irriiiiiirriirrrrlriiii m0 th aS aI im (nI a) sp9_42 (nI E) wg9_43 2 aB aT se dn aG aO aN aD bv aY rn kd nu tv), (zaI aS cS 901 fS)]) hP hD [0, 1] [] rfl rfl (by decide) (by decide) hk1 hFc hP1 hD1
        have hK := (hK.sub (tys' := []) [] rfl).app hK1
        generalize H1 = H at hP hS ⊢
        have hP : va_P (dC, dI) vwCl [(zo14irriiiiiirriirrrrlriiii m0 th aS aI im (nI a) sp9_42 (nI E) wg9_43 2 aB aT se dn aG aO aN aD bv aY rn kd nu tv), (zaI aS cS 901 fS)] H := hP
        have hD : va_D A [(zo14irriiiiiirriirrrrlriiii m0 th aS aI im (nI a) sp9_42 (nI E) wg9_43 2 aB aT se dn aG aO aN aD bv aY rn kd nu tv), (zaI aS cS 901 fS)] := hD
        have hK : va_K (dC, dI) vwCl [(cS, .int)] s := hK
        obtain ⟨p_44, v_45, h_46, h_47, rfl, rfl, h_48, h_49, h_50⟩ := hw_41
        rcases h_49 with rfl | rfl
        · skip
          exact absurd (h_50 rfl).1 (by decide)
        · skip
          refine lv_istore (lv' := [(4, .int (nI v_45)), (3, .int 0), (2, .int (-1)), (1, .int r_2), (0, .ref m0)]) hx hb dX12_factor_176 hl (by decide) rfl (fun ls hl => ?_)
          refine lv_aload_n hx hb dX12_factor_178 rfl (lv_at hl 4 rfl) ?_
          refine lv_iload_n hx hb dX12_factor_179 rfl (lv_at hl 2 rfl) ?_
          refine lv_bipush (v := 8) hx hb dX12_factor_180 (by decide) ?_
          refine lv_iload_n hx hb dX12_factor_182 rfl (lv_at hl 1 rfl) ?_
          refine lv_imul hx hb dX12_factor_183 ?_
          refine qi_as (y := 0) (by decide) ?_
          refine lv_iadd hx hb dX12_factor_184 ?_
          refine qi_as (y := (-1)) (by decide) ?_
          refine lv_bipush (v := 32) hx hb dX12_factor_185 (by decide) ?_
          refine lv_iload hx hb dX12_factor_187 (lv_at hl 0 rfl) ?_
          refine lv_imul hx hb dX12_factor_189 ?_
          refine qi_as (y := nI (32 * v_45)) (pk_mul 32 v_45) ?_
          refine lv_iadd hx hb dX12_factor_190 ?_
          have hPc := hP.sub (ws' := [(zo14irriiiiiirriirrrrlriiii m0 th aS aI im (nI a) (nI p_44) (nI E) 1 2 aB aT se dn aG aO aN aD bv aY rn kd nu tv)]) [0] rfl
          have hKc := hK.sub (tys' := []) [] rfl
          refine va_csv (va_runV (As := [.int ((-1) + (nI (32 * v_45)))]) (rest := []) ⟨hx, hb, hml, hown, hts⟩ (c_emitsW l dC dI m0 aS aI aB aT aG aO aN aD aY th im (nI a) (nI p_44) (nI E) 1 2 se dn rn kd nu tv bv ((-1) + (nI (32 * v_45)))) (cwV 1 hts gX12_factor_X12_emits rfl rfl rfl hd_yX12_emits ⟨Nat.le_of_ble_eq_true rfl, Nat.le_of_ble_eq_true rfl⟩) ⟨fun a U g mk q => by obtain ⟨q0, qP, qK⟩ := q; exact ⟨q0, qP, va_K.moved (u := U) (U := U.calling g mk a) (Vm.Alike.refl U.vm) qK⟩, va_recv hK hP (ci := 14) (q := (RX12, TX12, 23)) (q0 := 0) rfl rfl, fun U hU hW => ⟨rfl, by rw [hU]; exact hPc, va_K.moved hW.alike hKc⟩⟩ rfl rfl hl.1 rfl (lv_room (Nat.le_of_ble_eq_true rfl)) dX12_factor_191 ⟨Nat.le_of_ble_eq_true rfl, Nat.le_of_ble_eq_true rfl⟩).run (fun hw_52 => ?_)
          rw [hQ]
          have hP9 := hP.sub (ws' := [(zo14irriiiiiirriirrrrlriiii m0 th aS aI im (nI a) (nI p_44) (nI E) 1 2 aB aT se dn aG aO aN aD bv aY rn kd nu tv), (zaI aS cS 901 fS)]) [0, 1] rfl
          have hD9 := hD.sub (ws' := [(zo14irriiiiiirriirrrrlriiii m0 th aS aI im (nI a) (nI p_44) (nI E) 1 2 aB aT se dn aG aO aN aD bv aY rn kd nu tv), (zaI aS cS 901 fS)]) [0, 1] (by decide) rfl
          have hK9 := hK.sub (tys' := [(cS, .int)]) [0] rfl
          exact W.vret hx hb hr (fun tQ htQ hWQ => ⟨⟨(fS, (nI p_44), 1), rfl, ⟨p_44, k, rfl, by omega, by omega, PF.rf, Or.inl rfl⟩, by rw [htQ]; exact hP9, va_K.moved hWQ.alike hK9, hD9⟩, hS.F htQ⟩) hS.2.2 dX12_factor_194
      · skip
        have hj_35 : j_34 < 6 := hj_35
        refine lv_istore_n (lv' := [(2, .int (nI j_34)), (1, .int r_2), (0, .ref m0)]) hx hb dX12_factor_118 rfl hl (by decide) rfl (fun ls hl => ?_)
        refine lv_aload_n hx hb dX12_factor_119 rfl (lv_at hl 2 rfl) ?_
        refine lv_iload_n hx hb dX12_factor_120 rfl (lv_at hl 0 rfl) ?_
        refine lv_iconst (v := (-1)) hx hb dX12_factor_121 (by decide) ?_
        refine lv_icmp_ne (tgt := 129) hx hb dX12_factor_122 (by decide) (fun c_53 => ?_) (fun c_53 => ?_)
        · skip
          refine lv_iconst (v := 0) hx hb dX12_factor_129 (by decide) ?_
          refine va_put (D := (dC, dI)) (ci := 14) (v := .int 0) (ty := .boolean) (C := RX12) (T := TX12) (N := 23) hx hb hts kc_factor2_0 tyX12 tyX12_ok nmX12 hown hK hP hD hS 0 rfl rfl 7 (by decide) (hts (.fieldLink RX12 65 "MistHeapsModel" "isWrong" "Z") kc_factor2_1) (fun _ h9 => h9) rfl (by decide +kernel) rfl rfl (Nat.le_of_ble_eq_true rfl) dX12_factor_130 (fun H locs hP hD hS => ?_)
          have hP : va_P (dC, dI) vwCl [(zo14irriiiiiirriirrrrlriiii m0 th aS aI im (nI a) (nI (p0 + 1)) (nI E) 0 2 aB aT se dn aG aO aN aD bv aY rn kd nu tv), (zaI aS cS 901 fS)] H := hP
          have hD : va_D A [(zo14irriiiiiirriirrrrlriiii m0 th aS aI im (nI a) (nI (p0 + 1)) (nI E) 0 2 aB aT se dn aG aO aN aD bv aY rn kd nu tv), (zaI aS cS 901 fS)] := hD
          refine lv_aload_n hx hb dX12_factor_133 rfl (lv_at hl 2 rfl) ?_
          refine va_get (D := (dC, dI)) (ci := 14) (v := .int 0) (C := RX12) (T := TX12) (N := 23) hx hb hts kc_factor2_0 hown hK hP 0 rfl rfl 7 (by decide) (hts (.fieldLink RX12 65 "MistHeapsModel" "isWrong" "Z") kc_factor2_1) (fun _ h9 => h9) rfl dX12_factor_134 ?_
          refine lv_if_eq (tgt := 144) hx hb dX12_factor_137 (by decide) (fun _ => ?_) (fun c_54 => absurd c_54 (by decide))
          refine lv_aload_n hx hb dX12_factor_144 rfl (lv_at hl 2 rfl) ?_
          refine va_ldcS hx hb hown (show vk_R RX12 107 "<=>" (sK 7) s from hE.1 7 (by decide)) dX12_factor_145 ?_
          have hPc := hP.sub (ws' := [(zo14irriiiiiirriirrrrlriiii m0 th aS aI im (nI a) (nI (p0 + 1)) (nI E) 0 2 aB aT se dn aG aO aN aD bv aY rn kd nu tv), (zaI aS cS 901 fS)]) [0, 1] rfl
          have hDc := hD.sub (ws' := [(zo14irriiiiiirriirrrrlriiii m0 th aS aI im (nI a) (nI (p0 + 1)) (nI E) 0 2 aB aT se dn aG aO aN aD bv aY rn kd nu tv), (zaI aS cS 901 fS)]) [0, 1] (by decide) rfl
          have hKc := hK.sub (tys' := [(cS, .int)]) [0] rfl
          have hFc := va_free (wc := [(zo14irriiiiiirriirrrrlriiii m0 th aS aI im (nI a) (nI (p0 + 1)) (nI E) 0 2 aB aT se dn aG aO aN aD bv aY rn kd nu tv), (zaI aS cS 901 fS)]) hD hS hA [0, 1] rfl
          refine va_calli (va_runV (As := [.ref (sK 7)]) (rest := []) ⟨hx, hb, hml, hown, hts⟩ (c_among l dC dI sK sV m0 aS aI aB aT aG aO aN aD aY th im (nI a) (nI (p0 + 1)) (nI E) 0 2 se dn rn kd nu tv bv cS fS a (p0 + 1) E 7 H.size (by omega) (by omega) (by omega) (by decide)) (cwV 1 hts gX12_factor_X12_among rfl rfl rfl hd_yX12_among ⟨Nat.le_of_ble_eq_true rfl, Nat.le_of_ble_eq_true rfl⟩) ⟨fun a U g mk q => by obtain ⟨q0, q1, qP, qK, qD, qhE⟩ := q; exact ⟨q0, q1, qP, va_K.moved (u := U) (U := U.calling g mk a) (Vm.Alike.refl U.vm) qK, qD, qhE.same rfl rfl⟩, va_recv hK hP (ci := 14) (q := (RX12, TX12, 23)) (q0 := 0) rfl rfl, fun U hU hW => ⟨rfl, by rw [hU], by rw [hU]; exact hPc, va_K.moved hW.alike hKc, hDc.weaken (fun _ _ _ _ => trivial), hE.call hS hU hW (fun q h => hFc q h)⟩⟩ rfl rfl hl.1 rfl (lv_room (Nat.le_of_ble_eq_true rfl)) dX12_factor_147 ⟨Nat.le_of_ble_eq_true rfl, Nat.le_of_ble_eq_true rfl⟩) hS (fun q _ h => hFc q h) hFc (fun r_55 u tC H1 locs htC hvm hw_56 hB hz1 hk1 hS => ?_)
          obtain ⟨sp9_57, rfl⟩ : ∃ z, z = u := ⟨_, rfl⟩
          try dsimp only at hw_56 hB
          obtain ⟨hP1, hK1, hD1⟩ := hB
          rw [htC] at hP1
          have hK1 := va_K.moved hvm.symm hK1
          obtain ⟨hP, hD⟩ := va_join (wr := []) (w1 := [(zo14irriiiiiirriirrrrlriiii m0 th aS aI im (nI a) sp9_57 (nI E) 0 2 aB aT se dn aG aO aN aD bv aY rn kd nu tv), (zaI aS cS 901 fS)]) hP hD [0, 1] [] rfl rfl (by decide) (by decide) hk1 hFc hP1 hD1
          have hK := (hK.sub (tys' := []) [] rfl).app hK1
          generalize H1 = H at hP hS ⊢
          have hP : va_P (dC, dI) vwCl [(zo14irriiiiiirriirrrrlriiii m0 th aS aI im (nI a) sp9_57 (nI E) 0 2 aB aT se dn aG aO aN aD bv aY rn kd nu tv), (zaI aS cS 901 fS)] H := hP
          have hD : va_D A [(zo14irriiiiiirriirrrrlriiii m0 th aS aI im (nI a) sp9_57 (nI E) 0 2 aB aT se dn aG aO aN aD bv aY rn kd nu tv), (zaI aS cS 901 fS)] := hD
          have hK : va_K (dC, dI) vwCl [(cS, .int)] s := hK
          rcases hw_56 with ⟨rfl, rfl⟩ | ⟨j_58, hj_59, rfl, h_60, rfl⟩
          · skip
            refine lv_istore_n (lv' := [(3, .int (-1)), (2, .int (nI j_34)), (1, .int r_2), (0, .ref m0)]) hx hb dX12_factor_150 rfl hl (by decide) rfl (fun ls hl => ?_)
            refine lv_aload_n hx hb dX12_factor_151 rfl (lv_at hl 3 rfl) ?_
            refine lv_aload_n hx hb dX12_factor_152 rfl (lv_at hl 3 rfl) ?_
            refine va_get (D := (dC, dI)) (ci := 14) (v := .int 0) (C := RX12) (T := TX12) (N := 23) hx hb hts kc_factor2_0 hown hK hP 0 rfl rfl 7 (by decide) (hts (.fieldLink RX12 65 "MistHeapsModel" "isWrong" "Z") kc_factor2_1) (fun _ h9 => h9) rfl dX12_factor_153 ?_
            refine lv_if_ne (tgt := 164) hx hb dX12_factor_156 (by decide) (fun c_61 => absurd c_61 (by decide)) (fun _ => ?_)
            refine lv_iload_n hx hb dX12_factor_159 rfl (lv_at hl 0 rfl) ?_
            refine lv_iconst (v := (-1)) hx hb dX12_factor_160 (by decide) ?_
            refine lv_icmp_ne (tgt := 168) hx hb dX12_factor_161 (by decide) (fun c_62 => absurd c_62 (by decide)) (fun _ => ?_)
            refine lv_iconst (v := 1) hx hb dX12_factor_164 (by decide) ?_
            refine lv_goto (tgt := 169) hx hb dX12_factor_165 (by decide) ?_
            refine va_put (D := (dC, dI)) (ci := 14) (v := .int 1) (ty := .boolean) (C := RX12) (T := TX12) (N := 23) hx hb hts kc_factor2_0 tyX12 tyX12_ok nmX12 hown hK hP hD hS 0 rfl rfl 7 (by decide) (hts (.fieldLink RX12 65 "MistHeapsModel" "isWrong" "Z") kc_factor2_1) (fun _ h9 => h9) rfl (by decide +kernel) rfl rfl (Nat.le_of_ble_eq_true rfl) dX12_factor_169 (fun H locs hP hD hS => ?_)
            have hP : va_P (dC, dI) vwCl [(zo14irriiiiiirriirrrrlriiii m0 th aS aI im (nI a) (nI (p0 + 1)) (nI E) 1 2 aB aT se dn aG aO aN aD bv aY rn kd nu tv), (zaI aS cS 901 fS)] H := hP
            have hD : va_D A [(zo14irriiiiiirriirrrrlriiii m0 th aS aI im (nI a) (nI (p0 + 1)) (nI E) 1 2 aB aT se dn aG aO aN aD bv aY rn kd nu tv), (zaI aS cS 901 fS)] := hD
            refine lv_aload_n hx hb dX12_factor_172 rfl (lv_at hl 3 rfl) ?_
            have hPc := hP.sub (ws' := [(zo14irriiiiiirriirrrrlriiii m0 th aS aI im (nI a) (nI (p0 + 1)) (nI E) 1 2 aB aT se dn aG aO aN aD bv aY rn kd nu tv), (zaI aS cS 901 fS)]) [0, 1] rfl
            have hDc := hD.sub (ws' := [(zo14irriiiiiirriirrrrlriiii m0 th aS aI im (nI a) (nI (p0 + 1)) (nI E) 1 2 aB aT se dn aG aO aN aD bv aY rn kd nu tv), (zaI aS cS 901 fS)]) [0, 1] (by decide) rfl
            have hKc := hK.sub (tys' := [(cS, .int)]) [0] rfl
            have hFc := va_free (wc := [(zo14irriiiiiirriirrrrlriiii m0 th aS aI im (nI a) (nI (p0 + 1)) (nI E) 1 2 aB aT se dn aG aO aN aD bv aY rn kd nu tv), (zaI aS cS 901 fS)]) hD hS hA [0, 1] rfl
            refine va_calli (va_runV (As := []) (rest := []) ⟨hx, hb, hml, hown, hts⟩ (c_figures l dC dI m0 aS aI aB aT aG aO aN aD aY th im (nI a) (nI (p0 + 1)) (nI E) 1 2 se dn rn kd nu tv bv cS fS a (p0 + 1) E H.size (by omega) (by omega) (by omega) (Or.inr rfl)) (cwV 0 hts gX12_factor_X12_figures rfl rfl rfl hd_yX12_figures ⟨Nat.le_of_ble_eq_true rfl, Nat.le_of_ble_eq_true rfl⟩) ⟨fun a U g mk q => by obtain ⟨q0, q1, qP, qK, qD⟩ := q; exact ⟨q0, q1, qP, va_K.moved (u := U) (U := U.calling g mk a) (Vm.Alike.refl U.vm) qK, qD⟩, va_recv hK hP (ci := 14) (q := (RX12, TX12, 23)) (q0 := 0) rfl rfl, fun U hU hW => ⟨rfl, by rw [hU], by rw [hU]; exact hPc, va_K.moved hW.alike hKc, hDc.weaken (fun _ _ _ _ => trivial)⟩⟩ rfl rfl hl.1 rfl (lv_room (Nat.le_of_ble_eq_true rfl)) dX12_factor_173 ⟨Nat.le_of_ble_eq_true rfl, Nat.le_of_ble_eq_true rfl⟩) hS (fun q _ h => hFc q h) hFc (fun r_63 u tC H1 locs htC hvm hw_64 hB hz1 hk1 hS => ?_)
            obtain ⟨sp9_65, wg9_66⟩ := u
            try dsimp only at hw_64 hB
            obtain ⟨hP1, hK1, hD1⟩ := hB
            rw [htC] at hP1
            have hK1 := va_K.moved hvm.symm hK1
            obtain ⟨hP, hD⟩ := va_join (wr := []) (w1 := [(zo14irriiiiiirriirrrrlriiii m0 th aS aI im (nI a) sp9_65 (nI E) wg9_66 2 aB aT se dn aG aO aN aD bv aY rn kd nu tv), (zaI aS cS 901 fS)]) hP hD [0, 1] [] rfl rfl (by decide) (by decide) hk1 hFc hP1 hD1
            have hK := (hK.sub (tys' := []) [] rfl).app hK1
            generalize H1 = H at hP hS ⊢
            have hP : va_P (dC, dI) vwCl [(zo14irriiiiiirriirrrrlriiii m0 th aS aI im (nI a) sp9_65 (nI E) wg9_66 2 aB aT se dn aG aO aN aD bv aY rn kd nu tv), (zaI aS cS 901 fS)] H := hP
            have hD : va_D A [(zo14irriiiiiirriirrrrlriiii m0 th aS aI im (nI a) sp9_65 (nI E) wg9_66 2 aB aT se dn aG aO aN aD bv aY rn kd nu tv), (zaI aS cS 901 fS)] := hD
            have hK : va_K (dC, dI) vwCl [(cS, .int)] s := hK
            obtain ⟨p_67, v_68, h_69, h_70, rfl, rfl, h_71, h_72, h_73⟩ := hw_64
            rcases h_72 with rfl | rfl
            · skip
              exact absurd (h_73 rfl).1 (by decide)
            · skip
              refine lv_istore (lv' := [(4, .int (nI v_68)), (3, .int (-1)), (2, .int (nI j_34)), (1, .int r_2), (0, .ref m0)]) hx hb dX12_factor_176 hl (by decide) rfl (fun ls hl => ?_)
              refine lv_aload_n hx hb dX12_factor_178 rfl (lv_at hl 4 rfl) ?_
              refine lv_iload_n hx hb dX12_factor_179 rfl (lv_at hl 2 rfl) ?_
              refine lv_bipush (v := 8) hx hb dX12_factor_180 (by decide) ?_
              refine lv_iload_n hx hb dX12_factor_182 rfl (lv_at hl 1 rfl) ?_
              refine lv_imul hx hb dX12_factor_183 ?_
              refine qi_as (y := (-8)) (by decide) ?_
              refine lv_iadd hx hb dX12_factor_184 ?_
              refine lv_bipush (v := 32) hx hb dX12_factor_185 (by decide) ?_
              refine lv_iload hx hb dX12_factor_187 (lv_at hl 0 rfl) ?_
              refine lv_imul hx hb dX12_factor_189 ?_
              refine qi_as (y := nI (32 * v_68)) (pk_mul 32 v_68) ?_
              refine lv_iadd hx hb dX12_factor_190 ?_
              have hPc := hP.sub (ws' := [(zo14irriiiiiirriirrrrlriiii m0 th aS aI im (nI a) (nI p_67) (nI E) 1 2 aB aT se dn aG aO aN aD bv aY rn kd nu tv)]) [0] rfl
              have hKc := hK.sub (tys' := []) [] rfl
              refine va_csv (va_runV (As := [.int (((nI j_34) + (-8)) + (nI (32 * v_68)))]) (rest := []) ⟨hx, hb, hml, hown, hts⟩ (c_emitsW l dC dI m0 aS aI aB aT aG aO aN aD aY th im (nI a) (nI p_67) (nI E) 1 2 se dn rn kd nu tv bv (((nI j_34) + (-8)) + (nI (32 * v_68)))) (cwV 1 hts gX12_factor_X12_emits rfl rfl rfl hd_yX12_emits ⟨Nat.le_of_ble_eq_true rfl, Nat.le_of_ble_eq_true rfl⟩) ⟨fun a U g mk q => by obtain ⟨q0, qP, qK⟩ := q; exact ⟨q0, qP, va_K.moved (u := U) (U := U.calling g mk a) (Vm.Alike.refl U.vm) qK⟩, va_recv hK hP (ci := 14) (q := (RX12, TX12, 23)) (q0 := 0) rfl rfl, fun U hU hW => ⟨rfl, by rw [hU]; exact hPc, va_K.moved hW.alike hKc⟩⟩ rfl rfl hl.1 rfl (lv_room (Nat.le_of_ble_eq_true rfl)) dX12_factor_191 ⟨Nat.le_of_ble_eq_true rfl, Nat.le_of_ble_eq_true rfl⟩).run (fun hw_75 => ?_)
              rw [hQ]
              have hP9 := hP.sub (ws' := [(zo14irriiiiiirriirrrrlriiii m0 th aS aI im (nI a) (nI p_67) (nI E) 1 2 aB aT se dn aG aO aN aD bv aY rn kd nu tv), (zaI aS cS 901 fS)]) [0, 1] rfl
              have hD9 := hD.sub (ws' := [(zo14irriiiiiirriirrrrlriiii m0 th aS aI im (nI a) (nI p_67) (nI E) 1 2 aB aT se dn aG aO aN aD bv aY rn kd nu tv), (zaI aS cS 901 fS)]) [0, 1] (by decide) rfl
              have hK9 := hK.sub (tys' := [(cS, .int)]) [0] rfl
              exact W.vret hx hb hr (fun tQ htQ hWQ => ⟨⟨(fS, (nI p_67), 1), rfl, ⟨p_67, k, rfl, by omega, by omega, PF.rf, Or.inl rfl⟩, by rw [htQ]; exact hP9, va_K.moved hWQ.alike hK9, hD9⟩, hS.F htQ⟩) hS.2.2 dX12_factor_194
          · skip
            have hj_59 : j_58 < 3 := hj_59
            refine lv_istore_n (lv' := [(3, .int (nI j_58)), (2, .int (nI j_34)), (1, .int r_2), (0, .ref m0)]) hx hb dX12_factor_150 rfl hl (by decide) rfl (fun ls hl => ?_)
            refine lv_aload_n hx hb dX12_factor_151 rfl (lv_at hl 3 rfl) ?_
            refine lv_aload_n hx hb dX12_factor_152 rfl (lv_at hl 3 rfl) ?_
            refine va_get (D := (dC, dI)) (ci := 14) (v := .int 0) (C := RX12) (T := TX12) (N := 23) hx hb hts kc_factor2_0 hown hK hP 0 rfl rfl 7 (by decide) (hts (.fieldLink RX12 65 "MistHeapsModel" "isWrong" "Z") kc_factor2_1) (fun _ h9 => h9) rfl dX12_factor_153 ?_
            refine lv_if_ne (tgt := 164) hx hb dX12_factor_156 (by decide) (fun c_76 => absurd c_76 (by decide)) (fun _ => ?_)
            refine lv_iload_n hx hb dX12_factor_159 rfl (lv_at hl 0 rfl) ?_
            refine lv_iconst (v := (-1)) hx hb dX12_factor_160 (by decide) ?_
            refine lv_icmp_ne (tgt := 168) hx hb dX12_factor_161 (by decide) (fun c_77 => ?_) (fun c_77 => ?_)
            · skip
              refine lv_iconst (v := 0) hx hb dX12_factor_168 (by decide) ?_
              refine va_put (D := (dC, dI)) (ci := 14) (v := .int 0) (ty := .boolean) (C := RX12) (T := TX12) (N := 23) hx hb hts kc_factor2_0 tyX12 tyX12_ok nmX12 hown hK hP hD hS 0 rfl rfl 7 (by decide) (hts (.fieldLink RX12 65 "MistHeapsModel" "isWrong" "Z") kc_factor2_1) (fun _ h9 => h9) rfl (by decide +kernel) rfl rfl (Nat.le_of_ble_eq_true rfl) dX12_factor_169 (fun H locs hP hD hS => ?_)
              have hP : va_P (dC, dI) vwCl [(zo14irriiiiiirriirrrrlriiii m0 th aS aI im (nI a) (nI ((p0 + 1) + 1)) (nI E) 0 2 aB aT se dn aG aO aN aD bv aY rn kd nu tv), (zaI aS cS 901 fS)] H := hP
              have hD : va_D A [(zo14irriiiiiirriirrrrlriiii m0 th aS aI im (nI a) (nI ((p0 + 1) + 1)) (nI E) 0 2 aB aT se dn aG aO aN aD bv aY rn kd nu tv), (zaI aS cS 901 fS)] := hD
              refine lv_aload_n hx hb dX12_factor_172 rfl (lv_at hl 3 rfl) ?_
              have hPc := hP.sub (ws' := [(zo14irriiiiiirriirrrrlriiii m0 th aS aI im (nI a) (nI ((p0 + 1) + 1)) (nI E) 0 2 aB aT se dn aG aO aN aD bv aY rn kd nu tv), (zaI aS cS 901 fS)]) [0, 1] rfl
              have hDc := hD.sub (ws' := [(zo14irriiiiiirriirrrrlriiii m0 th aS aI im (nI a) (nI ((p0 + 1) + 1)) (nI E) 0 2 aB aT se dn aG aO aN aD bv aY rn kd nu tv), (zaI aS cS 901 fS)]) [0, 1] (by decide) rfl
              have hKc := hK.sub (tys' := [(cS, .int)]) [0] rfl
              have hFc := va_free (wc := [(zo14irriiiiiirriirrrrlriiii m0 th aS aI im (nI a) (nI ((p0 + 1) + 1)) (nI E) 0 2 aB aT se dn aG aO aN aD bv aY rn kd nu tv), (zaI aS cS 901 fS)]) hD hS hA [0, 1] rfl
              refine va_calli (va_runV (As := []) (rest := []) ⟨hx, hb, hml, hown, hts⟩ (c_figures l dC dI m0 aS aI aB aT aG aO aN aD aY th im (nI a) (nI ((p0 + 1) + 1)) (nI E) 0 2 se dn rn kd nu tv bv cS fS a ((p0 + 1) + 1) E H.size (by omega) (by omega) (by omega) (Or.inl rfl)) (cwV 0 hts gX12_factor_X12_figures rfl rfl rfl hd_yX12_figures ⟨Nat.le_of_ble_eq_true rfl, Nat.le_of_ble_eq_true rfl⟩) ⟨fun a U g mk q => by obtain ⟨q0, q1, qP, qK, qD⟩ := q; exact ⟨q0, q1, qP, va_K.moved (u := U) (U := U.calling g mk a) (Vm.Alike.refl U.vm) qK, qD⟩, va_recv hK hP (ci := 14) (q := (RX12, TX12, 23)) (q0 := 0) rfl rfl, fun U hU hW => ⟨rfl, by rw [hU], by rw [hU]; exact hPc, va_K.moved hW.alike hKc, hDc.weaken (fun _ _ _ _ => trivial)⟩⟩ rfl rfl hl.1 rfl (lv_room (Nat.le_of_ble_eq_true rfl)) dX12_factor_173 ⟨Nat.le_of_ble_eq_true rfl, Nat.le_of_ble_eq_true rfl⟩) hS (fun q _ h => hFc q h) hFc (fun r_78 u tC H1 locs htC hvm hw_79 hB hz1 hk1 hS => ?_)
              obtain ⟨sp9_80, wg9_81⟩ := u
              try dsimp only at hw_79 hB
              obtain ⟨hP1, hK1, hD1⟩ := hB
              rw [htC] at hP1
              have hK1 := va_K.moved hvm.symm hK1
              obtain ⟨hP, hD⟩ := va_join (wr := []) (w1 := [(zo14irriiiiiirriirrrrlriiii m0 th aS aI im (nI a) sp9_80 (nI E) wg9_81 2 aB aT se dn aG aO aN aD bv aY rn kd nu tv), (zaI aS cS 901 fS)]) hP hD [0, 1] [] rfl rfl (by decide) (by decide) hk1 hFc hP1 hD1
              have hK := (hK.sub (tys' := []) [] rfl).app hK1
              generalize H1 = H at hP hS ⊢
              have hP : va_P (dC, dI) vwCl [(zo14irriiiiiirriirrrrlriiii m0 th aS aI im (nI a) sp9_80 (nI E) wg9_81 2 aB aT se dn aG aO aN aD bv aY rn kd nu tv), (zaI aS cS 901 fS)] H := hP
              have hD : va_D A [(zo14irriiiiiirriirrrrlriiii m0 th aS aI im (nI a) sp9_80 (nI E) wg9_81 2 aB aT se dn aG aO aN aD bv aY rn kd nu tv), (zaI aS cS 901 fS)] := hD
              have hK : va_K (dC, dI) vwCl [(cS, .int)] s := hK
              obtain ⟨p_82, v_83, h_84, h_85, rfl, rfl, h_86, h_87, h_88⟩ := hw_79
              rcases h_87 with rfl | rfl
              · skip
                obtain ⟨h_88, h_88b⟩ := h_88 rfl
                refine lv_istore (lv' := [(4, .int (nI v_83)), (3, .int (nI j_58)), (2, .int (nI j_34)), (1, .int r_2), (0, .ref m0)]) hx hb dX12_factor_176 hl (by decide) rfl (fun ls hl => ?_)
                refine lv_aload_n hx hb dX12_factor_178 rfl (lv_at hl 4 rfl) ?_
                refine lv_iload_n hx hb dX12_factor_179 rfl (lv_at hl 2 rfl) ?_
                refine lv_bipush (v := 8) hx hb dX12_factor_180 (by decide) ?_
                refine lv_iload_n hx hb dX12_factor_182 rfl (lv_at hl 1 rfl) ?_
                refine lv_imul hx hb dX12_factor_183 ?_
                refine qi_as (y := nI (8 * j_58)) (pk_mul 8 j_58) ?_
                refine lv_iadd hx hb dX12_factor_184 ?_
                refine qi_as (y := nI (j_34 + (8 * j_58))) (nI_add j_34 (8 * j_58)) ?_
                refine lv_bipush (v := 32) hx hb dX12_factor_185 (by decide) ?_
                refine lv_iload hx hb dX12_factor_187 (lv_at hl 0 rfl) ?_
                refine lv_imul hx hb dX12_factor_189 ?_
                refine qi_as (y := nI (32 * v_83)) (pk_mul 32 v_83) ?_
                refine lv_iadd hx hb dX12_factor_190 ?_
                refine qi_as (y := nI ((j_34 + (8 * j_58)) + (32 * v_83))) (nI_add (j_34 + (8 * j_58)) (32 * v_83)) ?_
                have hPc := hP.sub (ws' := [(zo14irriiiiiirriirrrrlriiii m0 th aS aI im (nI a) (nI p_82) (nI E) 0 2 aB aT se dn aG aO aN aD bv aY rn kd nu tv), (zaI aS cS 901 fS)]) [0, 1] rfl
                have hDc := hD.sub (ws' := [(zo14irriiiiiirriirrrrlriiii m0 th aS aI im (nI a) (nI p_82) (nI E) 0 2 aB aT se dn aG aO aN aD bv aY rn kd nu tv), (zaI aS cS 901 fS)]) [0, 1] (by decide) rfl
                have hKc := hK.sub (tys' := [(cS, .int)]) [0] rfl
                have hFc := va_free (wc := [(zo14irriiiiiirriirrrrlriiii m0 th aS aI im (nI a) (nI p_82) (nI E) 0 2 aB aT se dn aG aO aN aD bv aY rn kd nu tv), (zaI aS cS 901 fS)]) hD hS hA [0, 1] rfl
                refine va_callv (va_runV (As := [.int (nI ((j_34 + (8 * j_58)) + (32 * v_83)))]) (rest := []) ⟨hx, hb, hml, hown, hts⟩ (c_emits l dC dI m0 aS aI aB aT aG aO aN aD aY th im (nI a) (nI p_82) (nI E) 0 2 se dn rn kd nu tv bv cS fS a k (nI ((j_34 + (8 * j_58)) + (32 * v_83))) H.size (ga) ((gI).2.2.2.1) (by have := (gI).2.2.2.2.1; omega)) (cwV 1 hts gX12_factor_X12_emits rfl rfl rfl hd_yX12_emits ⟨Nat.le_of_ble_eq_true rfl, Nat.le_of_ble_eq_true rfl⟩) ⟨fun a U g mk q => by obtain ⟨q0, q1, qP, qK, qD⟩ := q; exact ⟨q0, q1, qP, va_K.moved (u := U) (U := U.calling g mk a) (Vm.Alike.refl U.vm) qK, qD⟩, va_recv hK hP (ci := 14) (q := (RX12, TX12, 23)) (q0 := 0) rfl rfl, fun U hU hW => ⟨rfl, by rw [hU], by rw [hU]; exact hPc, va_K.moved hW.alike hKc, hDc.weaken (fun _ _ _ _ => trivial)⟩⟩ rfl rfl hl.1 rfl (lv_room (Nat.le_of_ble_eq_true rfl)) dX12_factor_191 ⟨Nat.le_of_ble_eq_true rfl, Nat.le_of_ble_eq_true rfl⟩) hS (fun q _ h => hFc q h) hFc (fun u tC H1 locs htC hvm hw_90 hB hz1 hk1 hS => ?_)
                obtain ⟨fS9_91, rfl⟩ : ∃ z, z = u := ⟨_, rfl⟩
                try dsimp only at hw_90 hB
                obtain ⟨hP1, hK1, hD1⟩ := hB
                rw [htC] at hP1
                have hK1 := va_K.moved hvm.symm hK1
                obtain ⟨hP, hD⟩ := va_join (wr := []) (w1 := [(zo14irriiiiiirriirrrrlriiii m0 th aS aI im (nI a) (nI p_82) (nI E) 0 2 aB aT se dn aG aO aN aD bv aY rn kd nu tv), (zaI aS cS 901 fS9_91)]) hP hD [0, 1] [] rfl rfl (by decide) (by decide) hk1 hFc hP1 hD1
                have hK := (hK.sub (tys' := []) [] rfl).app hK1
                generalize H1 = H at hP hS ⊢
                have hP : va_P (dC, dI) vwCl [(zo14irriiiiiirriirrrrlriiii m0 th aS aI im (nI a) (nI p_82) (nI E) 0 2 aB aT se dn aG aO aN aD bv aY rn kd nu tv), (zaI aS cS 901 fS9_91)] H := hP
                have hD : va_D A [(zo14irriiiiiirriirrrrlriiii m0 th aS aI im (nI a) (nI p_82) (nI E) 0 2 aB aT se dn aG aO aN aD bv aY rn kd nu tv), (zaI aS cS 901 fS9_91)] := hD
                have hK : va_K (dC, dI) vwCl [(cS, .int)] s := hK
                obtain rfl : fS9_91 = emt fS a k (nI ((j_34 + (8 * j_58)) + (32 * v_83))) := by rcases hw_90 with ⟨q, _⟩ | ⟨_, q⟩; exact absurd rfl q; exact q
                have hI_93 : PI (emt fS a k (nI ((j_34 + (8 * j_58)) + (32 * v_83)))) a (k + 1) (d + 1) p_82 E := ((gI).mono (by omega) (by omega)).em (by omega) (by omega) (stepd_test (by omega) (by omega) (by omega) (by omega))
                have hF_94 : PF a fS (emt fS a k (nI ((j_34 + (8 * j_58)) + (32 * v_83)))) := (PF.rf).tr (PF_emt (k := k) (x := nI ((j_34 + (8 * j_58)) + (32 * v_83))) ga (by have := (gI).2.2.2.2.1; omega))
                rw [hQ]
                have hP9 := hP.sub (ws' := [(zo14irriiiiiirriirrrrlriiii m0 th aS aI im (nI a) (nI p_82) (nI E) 0 2 aB aT se dn aG aO aN aD bv aY rn kd nu tv), (zaI aS cS 901 (emt fS a k (nI ((j_34 + (8 * j_58)) + (32 * v_83)))))]) [0, 1] rfl
                have hD9 := hD.sub (ws' := [(zo14irriiiiiirriirrrrlriiii m0 th aS aI im (nI a) (nI p_82) (nI E) 0 2 aB aT se dn aG aO aN aD bv aY rn kd nu tv), (zaI aS cS 901 (emt fS a k (nI ((j_34 + (8 * j_58)) + (32 * v_83)))))]) [0, 1] (by decide) rfl
                have hK9 := hK.sub (tys' := [(cS, .int)]) [0] rfl
                exact W.vret hx hb hr (fun tQ htQ hWQ => ⟨⟨((emt fS a k (nI ((j_34 + (8 * j_58)) + (32 * v_83)))), (nI p_82), 0), rfl, ⟨p_82, (k + 1), rfl, by omega, by omega, hF_94, Or.inr ⟨rfl, by omega, (hI_93).mono (by omega) (by omega), by omega⟩⟩, by rw [htQ]; exact hP9, va_K.moved hWQ.alike hK9, hD9⟩, hS.F htQ⟩) hS.2.2 dX12_factor_194
              · skip
                refine lv_istore (lv' := [(4, .int (nI v_83)), (3, .int (nI j_58)), (2, .int (nI j_34)), (1, .int r_2), (0, .ref m0)]) hx hb dX12_factor_176 hl (by decide) rfl (fun ls hl => ?_)
                refine lv_aload_n hx hb dX12_factor_178 rfl (lv_at hl 4 rfl) ?_
                refine lv_iload_n hx hb dX12_factor_179 rfl (lv_at hl 2 rfl) ?_
                refine lv_bipush (v := 8) hx hb dX12_factor_180 (by decide) ?_
                refine lv_iload_n hx hb dX12_factor_182 rfl (lv_at hl 1 rfl) ?_
                refine lv_imul hx hb dX12_factor_183 ?_
                refine qi_as (y := nI (8 * j_58)) (pk_mul 8 j_58) ?_
                refine lv_iadd hx hb dX12_factor_184 ?_
                refine qi_as (y := nI (j_34 + (8 * j_58))) (nI_add j_34 (8 * j_58)) ?_
                refine lv_bipush (v := 32) hx hb dX12_factor_185 (by decide) ?_
                refine lv_iload hx hb dX12_factor_187 (lv_at hl 0 rfl) ?_
                refine lv_imul hx hb dX12_factor_189 ?_
                refine qi_as (y := nI (32 * v_83)) (pk_mul 32 v_83) ?_
                refine lv_iadd hx hb dX12_factor_190 ?_
                refine qi_as (y := nI ((j_34 + (8 * j_58)) + (32 * v_83))) (nI_add (j_34 + (8 * j_58)) (32 * v_83)) ?_
                have hPc := hP.sub (ws' := [(zo14irriiiiiirriirrrrlriiii m0 th aS aI im (nI a) (nI p_82) (nI E) 1 2 aB aT se dn aG aO aN aD bv aY rn kd nu tv)]) [0] rfl
                have hKc := hK.sub (tys' := []) [] rfl
                refine va_csv (va_runV (As := [.int (nI ((j_34 + (8 * j_58)) + (32 * v_83)))]) (rest := []) ⟨hx, hb, hml, hown, hts⟩ (c_emitsW l dC dI m0 aS aI aB aT aG aO aN aD aY th im (nI a) (nI p_82) (nI E) 1 2 se dn rn kd nu tv bv (nI ((j_34 + (8 * j_58)) + (32 * v_83)))) (cwV 1 hts gX12_factor_X12_emits rfl rfl rfl hd_yX12_emits ⟨Nat.le_of_ble_eq_true rfl, Nat.le_of_ble_eq_true rfl⟩) ⟨fun a U g mk q => by obtain ⟨q0, qP, qK⟩ := q; exact ⟨q0, qP, va_K.moved (u := U) (U := U.calling g mk a) (Vm.Alike.refl U.vm) qK⟩, va_recv hK hP (ci := 14) (q := (RX12, TX12, 23)) (q0 := 0) rfl rfl, fun U hU hW => ⟨rfl, by rw [hU]; exact hPc, va_K.moved hW.alike hKc⟩⟩ rfl rfl hl.1 rfl (lv_room (Nat.le_of_ble_eq_true rfl)) dX12_factor_191 ⟨Nat.le_of_ble_eq_true rfl, Nat.le_of_ble_eq_true rfl⟩).run (fun hw_96 => ?_)
                rw [hQ]
                have hP9 := hP.sub (ws' := [(zo14irriiiiiirriirrrrlriiii m0 th aS aI im (nI a) (nI p_82) (nI E) 1 2 aB aT se dn aG aO aN aD bv aY rn kd nu tv), (zaI aS cS 901 fS)]) [0, 1] rfl
                have hD9 := hD.sub (ws' := [(zo14irriiiiiirriirrrrlriiii m0 th aS aI im (nI a) (nI p_82) (nI E) 1 2 aB aT se dn aG aO aN aD bv aY rn kd nu tv), (zaI aS cS 901 fS)]) [0, 1] (by decide) rfl
                have hK9 := hK.sub (tys' := [(cS, .int)]) [0] rfl
                exact W.vret hx hb hr (fun tQ htQ hWQ => ⟨⟨(fS, (nI p_82), 1), rfl, ⟨p_82, k, rfl, by omega, by omega, PF.rf, Or.inl rfl⟩, by rw [htQ]; exact hP9, va_K.moved hWQ.alike hK9, hD9⟩, hS.F htQ⟩) hS.2.2 dX12_factor_194
            · skip
              refine lv_iconst (v := 1) hx hb dX12_factor_164 (by decide) ?_
              refine lv_goto (tgt := 169) hx hb dX12_factor_165 (by decide) ?_
              refine va_put (D := (dC, dI)) (ci := 14) (v := .int 1) (ty := .boolean) (C := RX12) (T := TX12) (N := 23) hx hb hts kc_factor2_0 tyX12 tyX12_ok nmX12 hown hK hP hD hS 0 rfl rfl 7 (by decide) (hts (.fieldLink RX12 65 "MistHeapsModel" "isWrong" "Z") kc_factor2_1) (fun _ h9 => h9) rfl (by decide +kernel) rfl rfl (Nat.le_of_ble_eq_true rfl) dX12_factor_169 (fun H locs hP hD hS => ?_)
              have hP : va_P (dC, dI) vwCl [(zo14irriiiiiirriirrrrlriiii m0 th aS aI im (nI a) (nI ((p0 + 1) + 1)) (nI E) 1 2 aB aT se dn aG aO aN aD bv aY rn kd nu tv), (zaI aS cS 901 fS)] H := hP
              have hD : va_D A [(zo14irriiiiiirriirrrrlriiii m0 th aS aI im (nI a) (nI ((p0 + 1) + 1)) (nI E) 1 2 aB aT se dn aG aO aN aD bv aY rn kd nu tv), (zaI aS cS 901 fS)] := hD
              refine lv_aload_n hx hb dX12_factor_172 rfl (lv_at hl 3 rfl) ?_
              have hPc := hP.sub (ws' := [(zo14irriiiiiirriirrrrlriiii m0 th aS aI im (nI a) (nI ((p0 + 1) + 1)) (nI E) 1 2 aB aT se dn aG aO aN aD bv aY rn kd nu tv), (zaI aS cS 901 fS)]) [0, 1] rfl
              have hDc := hD.sub (ws' := [(zo14irriiiiiirriirrrrlriiii m0 th aS aI im (nI a) (nI ((p0 + 1) + 1)) (nI E) 1 2 aB aT se dn aG aO aN aD bv aY rn kd nu tv), (zaI aS cS 901 fS)]) [0, 1] (by decide) rfl
              have hKc := hK.sub (tys' := [(cS, .int)]) [0] rfl
              have hFc := va_free (wc := [(zo14irriiiiiirriirrrrlriiii m0 th aS aI im (nI a) (nI ((p0 + 1) + 1)) (nI E) 1 2 aB aT se dn aG aO aN aD bv aY rn kd nu tv), (zaI aS cS 901 fS)]) hD hS hA [0, 1] rfl
              refine va_calli (va_runV (As := []) (rest := []) ⟨hx, hb, hml, hown, hts⟩ (c_figures l dC dI m0 aS aI aB aT aG aO aN aD aY th im (nI a) (nI ((p0 + 1) + 1)) (nI E) 1 2 se dn rn kd nu tv bv cS fS a ((p0 + 1) + 1) E H.size (by omega) (by omega) (by omega) (Or.inr rfl)) (cwV 0 hts gX12_factor_X12_figures rfl rfl rfl hd_yX12_figures ⟨Nat.le_of_ble_eq_true rfl, Nat.le_of_ble_eq_true rfl⟩) ⟨fun a U g mk q => by obtain ⟨q0, q1, qP, qK, qD⟩ := q; exact ⟨q0, q1, qP, va_K.moved (u := U) (U := U.calling g mk a) (Vm.Alike.refl U.vm) qK, qD⟩, va_recv hK hP (ci := 14) (q := (RX12, TX12, 23)) (q0 := 0) rfl rfl, fun U hU hW => ⟨rfl, by rw [hU], by rw [hU]; exact hPc, va_K.moved hW.alike hKc, hDc.weaken (fun _ _ _ _ => trivial)⟩⟩ rfl rfl hl.1 rfl (lv_room (Nat.le_of_ble_eq_true rfl)) dX12_factor_173 ⟨Nat.le_of_ble_eq_true rfl, Nat.le_of_ble_eq_true rfl⟩) hS (fun q _ h => hFc q h) hFc (fun r_97 u tC H1 locs htC hvm hw_98 hB hz1 hk1 hS => ?_)
              obtain ⟨sp9_99, wg9_100⟩ := u
              try dsimp only at hw_98 hB
              obtain ⟨hP1, hK1, hD1⟩ := hB
              rw [htC] at hP1
              have hK1 := va_K.moved hvm.symm hK1
              obtain ⟨hP, hD⟩ := va_join (wr := []) (w1 := [(zo14irriiiiiirriirrrrlriiii m0 th aS aI im (nI a) sp9_99 (nI E) wg9_100 2 aB aT se dn aG aO aN aD bv aY rn kd nu tv), (zaI aS cS 901 fS)]) hP hD [0, 1] [] rfl rfl (by decide) (by decide) hk1 hFc hP1 hD1
              have hK := (hK.sub (tys' := []) [] rfl).app hK1
              generalize H1 = H at hP hS ⊢
              have hP : va_P (dC, dI) vwCl [(zo14irriiiiiirriirrrrlriiii m0 th aS aI im (nI a) sp9_99 (nI E) wg9_100 2 aB aT se dn aG aO aN aD bv aY rn kd nu tv), (zaI aS cS 901 fS)] H := hP
              have hD : va_D A [(zo14irriiiiiirriirrrrlriiii m0 th aS aI im (nI a) sp9_99 (nI E) wg9_100 2 aB aT se dn aG aO aN aD bv aY rn kd nu tv), (zaI aS cS 901 fS)] := hD
              have hK : va_K (dC, dI) vwCl [(cS, .int)] s := hK
              obtain ⟨p_101, v_102, h_103, h_104, rfl, rfl, h_105, h_106, h_107⟩ := hw_98
              rcases h_106 with rfl | rfl
              · skip
                exact absurd (h_107 rfl).1 (by decide)
              · skip
                refine lv_istore (lv' := [(4, .int (nI v_102)), (3, .int (nI j_58)), (2, .int (nI j_34)), (1, .int r_2), (0, .ref m0)]) hx hb dX12_factor_176 hl (by decide) rfl (fun ls hl => ?_)
                refine lv_aload_n hx hb dX12_factor_178 rfl (lv_at hl 4 rfl) ?_
                refine lv_iload_n hx hb dX12_factor_179 rfl (lv_at hl 2 rfl) ?_
                refine lv_bipush (v := 8) hx hb dX12_factor_180 (by decide) ?_
                refine lv_iload_n hx hb dX12_factor_182 rfl (lv_at hl 1 rfl) ?_
                refine lv_imul hx hb dX12_factor_183 ?_
                refine qi_as (y := nI (8 * j_58)) (pk_mul 8 j_58) ?_
                refine lv_iadd hx hb dX12_factor_184 ?_
                refine qi_as (y := nI (j_34 + (8 * j_58))) (nI_add j_34 (8 * j_58)) ?_
                refine lv_bipush (v := 32) hx hb dX12_factor_185 (by decide) ?_
                refine lv_iload hx hb dX12_factor_187 (lv_at hl 0 rfl) ?_
                refine lv_imul hx hb dX12_factor_189 ?_
                refine qi_as (y := nI (32 * v_102)) (pk_mul 32 v_102) ?_
                refine lv_iadd hx hb dX12_factor_190 ?_
                refine qi_as (y := nI ((j_34 + (8 * j_58)) + (32 * v_102))) (nI_add (j_34 + (8 * j_58)) (32 * v_102)) ?_
                have hPc := hP.sub (ws' := [(zo14irriiiiiirriirrrrlriiii m0 th aS aI im (nI a) (nI p_101) (nI E) 1 2 aB aT se dn aG aO aN aD bv aY rn kd nu tv)]) [0] rfl
                have hKc := hK.sub (tys' := []) [] rfl
                refine va_csv (va_runV (As := [.int (nI ((j_34 + (8 * j_58)) + (32 * v_102)))]) (rest := []) ⟨hx, hb, hml, hown, hts⟩ (c_emitsW l dC dI m0 aS aI aB aT aG aO aN aD aY th im (nI a) (nI p_101) (nI E) 1 2 se dn rn kd nu tv bv (nI ((j_34 + (8 * j_58)) + (32 * v_102)))) (cwV 1 hts gX12_factor_X12_emits rfl rfl rfl hd_yX12_emits ⟨Nat.le_of_ble_eq_true rfl, Nat.le_of_ble_eq_true rfl⟩) ⟨fun a U g mk q => by obtain ⟨q0, qP, qK⟩ := q; exact ⟨q0, qP, va_K.moved (u := U) (U := U.calling g mk a) (Vm.Alike.refl U.vm) qK⟩, va_recv hK hP (ci := 14) (q := (RX12, TX12, 23)) (q0 := 0) rfl rfl, fun U hU hW => ⟨rfl, by rw [hU]; exact hPc, va_K.moved hW.alike hKc⟩⟩ rfl rfl hl.1 rfl (lv_room (Nat.le_of_ble_eq_true rfl)) dX12_factor_191 ⟨Nat.le_of_ble_eq_true rfl, Nat.le_of_ble_eq_true rfl⟩).run (fun hw_109 => ?_)
                rw [hQ]
                have hP9 := hP.sub (ws' := [(zo14irriiiiiirriirrrrlriiii m0 th aS aI im (nI a) (nI p_101) (nI E) 1 2 aB aT se dn aG aO aN aD bv aY rn kd nu tv), (zaI aS cS 901 fS)]) [0, 1] rfl
                have hD9 := hD.sub (ws' := [(zo14irriiiiiirriirrrrlriiii m0 th aS aI im (nI a) (nI p_101) (nI E) 1 2 aB aT se dn aG aO aN aD bv aY rn kd nu tv), (zaI aS cS 901 fS)]) [0, 1] (by decide) rfl
                have hK9 := hK.sub (tys' := [(cS, .int)]) [0] rfl
                exact W.vret hx hb hr (fun tQ htQ hWQ => ⟨⟨(fS, (nI p_101), 1), rfl, ⟨p_101, k, rfl, by omega, by omega, PF.rf, Or.inl rfl⟩, by rw [htQ]; exact hP9, va_K.moved hWQ.alike hK9, hD9⟩, hS.F htQ⟩) hS.2.2 dX12_factor_194
        · skip
          refine lv_iconst (v := 1) hx hb dX12_factor_125 (by decide) ?_
          refine lv_goto (tgt := 130) hx hb dX12_factor_126 (by decide) ?_
          refine va_put (D := (dC, dI)) (ci := 14) (v := .int 1) (ty := .boolean) (C := RX12) (T := TX12) (N := 23) hx hb hts kc_factor2_0 tyX12 tyX12_ok nmX12 hown hK hP hD hS 0 rfl rfl 7 (by decide) (hts (.fieldLink RX12 65 "MistHeapsModel" "isWrong" "Z") kc_factor2_1) (fun _ h9 => h9) rfl (by decide +kernel) rfl rfl (Nat.le_of_ble_eq_true rfl) dX12_factor_130 (fun H locs hP hD hS => ?_)
          have hP : va_P (dC, dI) vwCl [(zo14irriiiiiirriirrrrlriiii m0 th aS aI im (nI a) (nI (p0 + 1)) (nI E) 1 2 aB aT se dn aG aO aN aD bv aY rn kd nu tv), (zaI aS cS 901 fS)] H := hP
          have hD : va_D A [(zo14irriiiiiirriirrrrlriiii m0 th aS aI im (nI a) (nI (p0 + 1)) (nI E) 1 2 aB aT se dn aG aO aN aD bv aY rn kd nu tv), (zaI aS cS 901 fS)] := hD
          refine lv_aload_n hx hb dX12_factor_133 rfl (lv_at hl 2 rfl) ?_
          refine va_get (D := (dC, dI)) (ci := 14) (v := .int 1) (C := RX12) (T := TX12) (N := 23) hx hb hts kc_factor2_0 hown hK hP 0 rfl rfl 7 (by decide) (hts (.fieldLink RX12 65 "MistHeapsModel" "isWrong" "Z") kc_factor2_1) (fun _ h9 => h9) rfl dX12_factor_134 ?_
          refine lv_if_eq (tgt := 144) hx hb dX12_factor_137 (by decide) (fun c_110 => absurd c_110 (by decide)) (fun _ => ?_)
          refine lv_iconst (v := 0) hx hb dX12_factor_140 (by decide) ?_
          refine lv_goto (tgt := 150) hx hb dX12_factor_141 (by decide) ?_
          refine lv_istore_n (lv' := [(3, .int 0), (2, .int (nI j_34)), (1, .int r_2), (0, .ref m0)]) hx hb dX12_factor_150 rfl hl (by decide) rfl (fun ls hl => ?_)
          refine lv_aload_n hx hb dX12_factor_151 rfl (lv_at hl 3 rfl) ?_
          refine lv_aload_n hx hb dX12_factor_152 rfl (lv_at hl 3 rfl) ?_
          refine va_get (D := (dC, dI)) (ci := 14) (v := .int 1) (C := RX12) (T := TX12) (N := 23) hx hb hts kc_factor2_0 hown hK hP 0 rfl rfl 7 (by decide) (hts (.fieldLink RX12 65 "MistHeapsModel" "isWrong" "Z") kc_factor2_1) (fun _ h9 => h9) rfl dX12_factor_153 ?_
          refine lv_if_ne (tgt := 164) hx hb dX12_factor_156 (by decide) (fun _ => ?_) (fun c_111 => absurd c_111 (by decide))
          refine lv_iconst (v := 1) hx hb dX12_factor_164 (by decide) ?_
          refine lv_goto (tgt := 169) hx hb dX12_factor_165 (by decide) ?_
          refine va_put (D := (dC, dI)) (ci := 14) (v := .int 1) (ty := .boolean) (C := RX12) (T := TX12) (N := 23) hx hb hts kc_factor2_0 tyX12 tyX12_ok nmX12 hown hK hP hD hS 0 rfl rfl 7 (by decide) (hts (.fieldLink RX12 65 "MistHeapsModel" "isWrong" "Z") kc_factor2_1) (fun _ h9 => h9) rfl (by decide +kernel) rfl rfl (Nat.le_of_ble_eq_true rfl) dX12_factor_169 (fun H locs hP hD hS => ?_)
          have hP : va_P (dC, dI) vwCl [(zo14irriiiiiirriirrrrlriiii m0 th aS aI im (nI a) (nI (p0 + 1)) (nI E) 1 2 aB aT se dn aG aO aN aD bv aY rn kd nu tv), (zaI aS cS 901 fS)] H := hP
          have hD : va_D A [(zo14irriiiiiirriirrrrlriiii m0 th aS aI im (nI a) (nI (p0 + 1)) (nI E) 1 2 aB aT se dn aG aO aN aD bv aY rn kd nu tv), (zaI aS cS 901 fS)] := hD
          refine lv_aload_n hx hb dX12_factor_172 rfl (lv_at hl 3 rfl) ?_
          have hPc := hP.sub (ws' := [(zo14irriiiiiirriirrrrlriiii m0 th aS aI im (nI a) (nI (p0 + 1)) (nI E) 1 2 aB aT se dn aG aO aN aD bv aY rn kd nu tv), (zaI aS cS 901 fS)]) [0, 1] rfl
          have hDc := hD.sub (ws' := [(zo14irriiiiiirriirrrrlriiii m0 th aS aI im (nI a) (nI (p0 + 1)) (nI E) 1 2 aB aT se dn aG aO aN aD bv aY rn kd nu tv), (zaI aS cS 901 fS)]) [0, 1] (by decide) rfl
          have hKc := hK.sub (tys' := [(cS, .int)]) [0] rfl
          have hFc := va_free (wc := [(zo14irriiiiiirriirrrrlriiii m0 th aS aI im (nI a) (nI (p0 + 1)) (nI E) 1 2 aB aT se dn aG aO aN aD bv aY rn kd nu tv), (zaI aS cS 901 fS)]) hD hS hA [0, 1] rfl
          refine va_calli (va_runV (As := []) (rest := []) ⟨hx, hb, hml, hown, hts⟩ (c_figures l dC dI m0 aS aI aB aT aG aO aN aD aY th im (nI a) (nI (p0 + 1)) (nI E) 1 2 se dn rn kd nu tv bv cS fS a (p0 + 1) E H.size (by omega) (by omega) (by omega) (Or.inr rfl)) (cwV 0 hts gX12_factor_X12_figures rfl rfl rfl hd_yX12_figures ⟨Nat.le_of_ble_eq_true rfl, Nat.le_of_ble_eq_true rfl⟩) ⟨fun a U g mk q => by obtain ⟨q0, q1, qP, qK, qD⟩ := q; exact ⟨q0, q1, qP, va_K.moved (u := U) (U := U.calling g mk a) (Vm.Alike.refl U.vm) qK, qD⟩, va_recv hK hP (ci := 14) (q := (RX12, TX12, 23)) (q0 := 0) rfl rfl, fun U hU hW => ⟨rfl, by rw [hU], by rw [hU]; exact hPc, va_K.moved hW.alike hKc, hDc.weaken (fun _ _ _ _ => trivial)⟩⟩ rfl rfl hl.1 rfl (lv_room (Nat.le_of_ble_eq_true rfl)) dX12_factor_173 ⟨Nat.le_of_ble_eq_true rfl, Nat.le_of_ble_eq_true rfl⟩) hS (fun q _ h => hFc q h) hFc (fun r_112 u tC H1 locs htC hvm hw_113 hB hz1 hk1 hS => ?_)
          obtain ⟨sp9_114, wg9_115⟩ := u
          try dsimp only at hw_113 hB
          obtain ⟨hP1, hK1, hD1⟩ := hB
          rw [htC] at hP1
          have hK1 := va_K.moved hvm.symm hK1
          obtain ⟨hP, hD⟩ := va_join (wr := []) (w1 := [(zo14irriiiiiirriirrrrlriiii m0 th aS aI im (nI a) sp9_114 (nI E) wg9_115 2 aB aT se dn aG aO aN aD bv aY rn kd nu tv), (zaI aS cS 901 fS)]) hP hD [0, 1] [] rfl rfl (by decide) (by decide) hk1 hFc hP1 hD1
          have hK := (hK.sub (tys' := []) [] rfl).app hK1
          generalize H1 = H at hP hS ⊢
          have hP : va_P (dC, dI) vwCl [(zo14irriiiiiirriirrrrlriiii m0 th aS aI im (nI a) sp9_114 (nI E) wg9_115 2 aB aT se dn aG aO aN aD bv aY rn kd nu tv), (zaI aS cS 901 fS)] H := hP
          have hD : va_D A [(zo14irriiiiiirriirrrrlriiii m0 th aS aI im (nI a) sp9_114 (nI E) wg9_115 2 aB aT se dn aG aO aN aD bv aY rn kd nu tv), (zaI aS cS 901 fS)] := hD
          have hK : va_K (dC, dI) vwCl [(cS, .int)] s := hK
          obtain ⟨p_116, v_117, h_118, h_119, rfl, rfl, h_120, h_121, h_122⟩ := hw_113
          rcases h_121 with rfl | rfl
          · skip
            exact absurd (h_122 rfl).1 (by decide)
          · skip
            refine lv_istore (lv' := [(4, .int (nI v_117)), (3, .int 0), (2, .int (nI j_34)), (1, .int r_2), (0, .ref m0)]) hx hb dX12_factor_176 hl (by decide) rfl (fun ls hl => ?_)
            refine lv_aload_n hx hb dX12_factor_178 rfl (lv_at hl 4 rfl) ?_
            refine lv_iload_n hx hb dX12_factor_179 rfl (lv_at hl 2 rfl) ?_
            refine lv_bipush (v := 8) hx hb dX12_factor_180 (by decide) ?_
            refine lv_iload_n hx hb dX12_factor_182 rfl (lv_at hl 1 rfl) ?_
            refine lv_imul hx hb dX12_factor_183 ?_
            refine qi_as (y := 0) (by decide) ?_
            refine lv_iadd hx hb dX12_factor_184 ?_
            refine qi_as (y := nI (j_34 + 0)) (nI_add j_34 0) ?_
            refine lv_bipush (v := 32) hx hb dX12_factor_185 (by decide) ?_
            refine lv_iload hx hb dX12_factor_187 (lv_at hl 0 rfl) ?_
            refine lv_imul hx hb dX12_factor_189 ?_
            refine qi_as (y := nI (32 * v_117)) (pk_mul 32 v_117) ?_
            refine lv_iadd hx hb dX12_factor_190 ?_
            refine qi_as (y := nI ((j_34 + 0) + (32 * v_117))) (nI_add (j_34 + 0) (32 * v_117)) ?_
            have hPc := hP.sub (ws' := [(zo14irriiiiiirriirrrrlriiii m0 th aS aI im (nI a) (nI p_116) (nI E) 1 2 aB aT se dn aG aO aN aD bv aY rn kd nu tv)]) [0] rfl
            have hKc := hK.sub (tys' := []) [] rfl
            refine va_csv (va_runV (As := [.int (nI ((j_34 + 0) + (32 * v_117)))]) (rest := []) ⟨hx, hb, hml, hown, hts⟩ (c_emitsW l dC dI m0 aS aI aB aT aG aO aN aD aY th im (nI a) (nI p_116) (nI E) 1 2 se dn rn kd nu tv bv (nI ((j_34 + 0) + (32 * v_117)))) (cwV 1 hts gX12_factor_X12_emits rfl rfl rfl hd_yX12_emits ⟨Nat.le_of_ble_eq_true rfl, Nat.le_of_ble_eq_true rfl⟩) ⟨fun a U g mk q => by obtain ⟨q0, qP, qK⟩ := q; exact ⟨q0, qP, va_K.moved (u := U) (U := U.calling g mk a) (Vm.Alike.refl U.vm) qK⟩, va_recv hK hP (ci := 14) (q := (RX12, TX12, 23)) (q0 := 0) rfl rfl, fun U hU hW => ⟨rfl, by rw [hU]; exact hPc, va_K.moved hW.alike hKc⟩⟩ rfl rfl hl.1 rfl (lv_room (Nat.le_of_ble_eq_true rfl)) dX12_factor_191 ⟨Nat.le_of_ble_eq_true rfl, Nat.le_of_ble_eq_true rfl⟩).run (fun hw_124 => ?_)
            rw [hQ]
            have hP9 := hP.sub (ws' := [(zo14irriiiiiirriirrrrlriiii m0 th aS aI im (nI a) (nI p_116) (nI E) 1 2 aB aT se dn aG aO aN aD bv aY rn kd nu tv), (zaI aS cS 901 fS)]) [0, 1] rfl
            have hD9 := hD.sub (ws' := [(zo14irriiiiiirriirrrrlriiii m0 th aS aI im (nI a) (nI p_116) (nI E) 1 2 aB aT se dn aG aO aN aD bv aY rn kd nu tv), (zaI aS cS 901 fS)]) [0, 1] (by decide) rfl
            have hK9 := hK.sub (tys' := [(cS, .int)]) [0] rfl
            exact W.vret hx hb hr (fun tQ htQ hWQ => ⟨⟨(fS, (nI p_116), 1), rfl, ⟨p_116, k, rfl, by omega, by omega, PF.rf, Or.inl rfl⟩, by rw [htQ]; exact hP9, va_K.moved hWQ.alike hK9, hD9⟩, hS.F htQ⟩) hS.2.2 dX12_factor_194
    · skip
      subst c_30
      have hlt : p0 < E := hv_lt (f := fS) (by rw [← hw_3]; decide)
      refine lv_aload_n hx hb dX12_factor_25 rfl (lv_at hl 1 rfl) ?_
      refine lv_aload_n hx hb dX12_factor_26 rfl (lv_at hl 1 rfl) ?_
      refine va_get (D := (dC, dI)) (ci := 14) (v := .int 2) (C := RX12) (T := TX12) (N := 23) hx hb hts kc_factor2_0 hown hK hP 0 rfl rfl 8 (by decide) (hts (.fieldLink RX12 89 "MistHeapsModel" "open" "I") kc_factor2_2) (fun _ h9 => h9) rfl dX12_factor_27 ?_
      refine lv_iconst (v := 5) hx hb dX12_factor_30 (by decide) ?_
      refine lv_icmp_ne (tgt := 38) hx hb dX12_factor_31 (by decide) (fun _ => ?_) (fun c_125 => absurd c_125 (by decide))
      refine lv_iconst (v := 0) hx hb dX12_factor_38 (by decide) ?_
      refine va_put (D := (dC, dI)) (ci := 14) (v := .int 0) (ty := .boolean) (C := RX12) (T := TX12) (N := 23) hx hb hts kc_factor2_0 tyX12 tyX12_ok nmX12 hown hK hP hD hS 0 rfl rfl 7 (by decide) (hts (.fieldLink RX12 65 "MistHeapsModel" "isWrong" "Z") kc_factor2_1) (fun _ h9 => h9) rfl (by decide +kernel) rfl rfl (Nat.le_of_ble_eq_true rfl) dX12_factor_39 (fun H locs hP hD hS => ?_)
      have hP : va_P (dC, dI) vwCl [(zo14irriiiiiirriirrrrlriiii m0 th aS aI im (nI a) (nI p0) (nI E) 0 2 aB aT se dn aG aO aN aD bv aY rn kd nu tv), (zaI aS cS 901 fS)] H := hP
      have hD : va_D A [(zo14irriiiiiirriirrrrlriiii m0 th aS aI im (nI a) (nI p0) (nI E) 0 2 aB aT se dn aG aO aN aD bv aY rn kd nu tv), (zaI aS cS 901 fS)] := hD
      refine lv_aload_n hx hb dX12_factor_42 rfl (lv_at hl 1 rfl) ?_
      refine lv_dup hx hb dX12_factor_43 rfl ?_
      refine va_get (D := (dC, dI)) (ci := 14) (v := .int 2) (C := RX12) (T := TX12) (N := 23) hx hb hts kc_factor2_0 hown hK hP 0 rfl rfl 8 (by decide) (hts (.fieldLink RX12 89 "MistHeapsModel" "open" "I") kc_factor2_2) (fun _ h9 => h9) rfl dX12_factor_44 ?_
      refine lv_iconst (v := 1) hx hb dX12_factor_47 (by decide) ?_
      refine lv_iadd hx hb dX12_factor_48 ?_
      refine qi_as (y := 3) (by decide) ?_
      refine va_put (D := (dC, dI)) (ci := 14) (v := .int 3) (ty := .int) (C := RX12) (T := TX12) (N := 23) hx hb hts kc_factor2_0 tyX12 tyX12_ok nmX12 hown hK hP hD hS 0 rfl rfl 8 (by decide) (hts (.fieldLink RX12 89 "MistHeapsModel" "open" "I") kc_factor2_2) (fun _ h9 => h9) rfl (by decide +kernel) rfl rfl (Nat.le_of_ble_eq_true rfl) dX12_factor_49 (fun H locs hP hD hS => ?_)
      have hP : va_P (dC, dI) vwCl [(zo14irriiiiiirriirrrrlriiii m0 th aS aI im (nI a) (nI p0) (nI E) 0 3 aB aT se dn aG aO aN aD bv aY rn kd nu tv), (zaI aS cS 901 fS)] H := hP
      have hD : va_D A [(zo14irriiiiiirriirrrrlriiii m0 th aS aI im (nI a) (nI p0) (nI E) 0 3 aB aT se dn aG aO aN aD bv aY rn kd nu tv), (zaI aS cS 901 fS)] := hD
      refine lv_aload_n hx hb dX12_factor_52 rfl (lv_at hl 1 rfl) ?_
      refine lv_dup hx hb dX12_factor_53 rfl ?_
      refine va_get (D := (dC, dI)) (ci := 14) (v := .int (nI p0)) (C := RX12) (T := TX12) (N := 23) hx hb hts kc_factor2_0 hown hK hP 0 rfl rfl 5 (by decide) (hts (.fieldLink RX12 59 "MistHeapsModel" "spot" "I") kc_factor2_3) (fun _ h9 => h9) rfl dX12_factor_54 ?_
      refine lv_aload_n hx hb dX12_factor_57 rfl (lv_at hl 1 rfl) ?_
      refine va_get (D := (dC, dI)) (ci := 14) (v := .int 0) (C := RX12) (T := TX12) (N := 23) hx hb hts kc_factor2_0 hown hK hP 0 rfl rfl 7 (by decide) (hts (.fieldLink RX12 65 "MistHeapsModel" "isWrong" "Z") kc_factor2_1) (fun _ h9 => h9) rfl dX12_factor_58 ?_
      refine lv_if_eq (tgt := 68) hx hb dX12_factor_61 (by decide) (fun _ => ?_) (fun c_126 => absurd c_126 (by decide))
      refine lv_iconst (v := 1) hx hb dX12_factor_68 (by decide) ?_
      refine lv_iadd hx hb dX12_factor_69 ?_
      refine qi_as (y := nI (p0 + 1)) (nI_add p0 1) ?_
      refine va_put (D := (dC, dI)) (ci := 14) (v := .int (nI (p0 + 1))) (ty := .int) (C := RX12) (T := TX12) (N := 23) hx hb hts kc_factor2_0 tyX12 tyX12_ok nmX12 hown hK hP hD hS 0 rfl rfl 5 (by decide) (hts (.fieldLink RX12 59 "MistHeapsModel" "spot" "I") kc_factor2_3) (fun _ h9 => h9) rfl (by decide +kernel) rfl rfl (Nat.le_of_ble_eq_true rfl) dX12_factor_70 (fun H locs hP hD hS => ?_)
      have hP : va_P (dC, dI) vwCl [(zo14irriiiiiirriirrrrlriiii m0 th aS aI im (nI a) (nI (p0 + 1)) (nI E) 0 3 aB aT se dn aG aO aN aD bv aY rn kd nu tv), (zaI aS cS 901 fS)] H := hP
      have hD : va_D A [(zo14irriiiiiirriirrrrlriiii m0 th aS aI im (nI a) (nI (p0 + 1)) (nI E) 0 3 aB aT se dn aG aO aN aD bv aY rn kd nu tv), (zaI aS cS 901 fS)] := hD
      refine lv_iload_n hx hb dX12_factor_73 rfl (lv_at hl 0 rfl) ?_
      refine lv_bipush (v := 33) hx hb dX12_factor_74 (by decide) ?_
      refine lv_icmp_ne (tgt := 91) hx hb dX12_factor_76 (by decide) (fun _ => ?_) (fun c_127 => absurd c_127 (by decide))
      refine lv_aload_n hx hb dX12_factor_91 rfl (lv_at hl 1 rfl) ?_
      have hPc := hP.sub (ws' := [(zo14irriiiiiirriirrrrlriiii m0 th aS aI im (nI a) (nI (p0 + 1)) (nI E) 0 3 aB aT se dn aG aO aN aD bv aY rn kd nu tv), (zaI aS cS 901 fS)]) [0, 1] rfl
      have hDc := hD.sub (ws' := [(zo14irriiiiiirriirrrrlriiii m0 th aS aI im (nI a) (nI (p0 + 1)) (nI E) 0 3 aB aT se dn aG aO aN aD bv aY rn kd nu tv), (zaI aS cS 901 fS)]) [0, 1] (by decide) rfl
      have hKc := hK.sub (tys' := [(cS, .int)]) [0] rfl
      have hFc := va_free (wc := [(zo14irriiiiiirriirrrrlriiii m0 th aS aI im (nI a) (nI (p0 + 1)) (nI E) 0 3 aB aT se dn aG aO aN aD bv aY rn kd nu tv), (zaI aS cS 901 fS)]) hD hS hA [0, 1] rfl
      refine va_callv (va_runV (As := []) (rest := []) ⟨hx, hb, hml, hown, hts⟩ (c_some3 l dC dI sK sV m0 aS aI aB aT aG aO aN aD aY th im (nI a) (nI (p0 + 1)) (nI E) 0 3 se dn rn kd nu tv bv cS fS a (p0 + 1) E k d H.size ((gI).mono (by omega) (by omega))) (cwV 0 hts gX12_factor_X12_some rfl rfl rfl hd_yX12_some ⟨Nat.le_of_ble_eq_true rfl, Nat.le_of_ble_eq_true rfl⟩) ⟨fun a U g mk q => by obtain ⟨q0, q1, qP, qK, qD, qhE⟩ := q; exact ⟨q0, q1, qP, va_K.moved (u := U) (U := U.calling g mk a) (Vm.Alike.refl U.vm) qK, qD, qhE.same rfl rfl⟩, va_recv hK hP (ci := 14) (q := (RX12, TX12, 23)) (q0 := 0) rfl rfl, fun U hU hW => ⟨rfl, by rw [hU], by rw [hU]; exact hPc, va_K.moved hW.alike hKc, hDc.weaken (fun _ _ _ _ => trivial), hE.call hS hU hW (fun q h => hFc q h)⟩⟩ rfl rfl hl.1 rfl (lv_room (Nat.le_of_ble_eq_true rfl)) dX12_factor_92 ⟨Nat.le_of_ble_eq_true rfl, Nat.le_of_ble_eq_true rfl⟩) hS (fun q _ h => hFc q h) hFc (fun u tC H1 locs htC hvm hw_129 hB hz1 hk1 hS => ?_)
      obtain ⟨fS9_130, sp9_131, wg9_132⟩ := u
      try dsimp only at hw_129 hB
      obtain ⟨hP1, hK1, hD1⟩ := hB
      rw [htC] at hP1
      have hK1 := va_K.moved hvm.symm hK1
      obtain ⟨hP, hD⟩ := va_join (wr := []) (w1 := [(zo14irriiiiiirriirrrrlriiii m0 th aS aI im (nI a) sp9_131 (nI E) wg9_132 3 aB aT se dn aG aO aN aD bv aY rn kd nu tv), (zaI aS cS 901 fS9_130)]) hP hD [0, 1] [] rfl rfl (by decide) (by decide) hk1 hFc hP1 hD1
      have hK := (hK.sub (tys' := []) [] rfl).app hK1
      generalize H1 = H at hP hS ⊢
      have hP : va_P (dC, dI) vwCl [(zo14irriiiiiirriirrrrlriiii m0 th aS aI im (nI a) sp9_131 (nI E) wg9_132 3 aB aT se dn aG aO aN aD bv aY rn kd nu tv), (zaI aS cS 901 fS9_130)] H := hP
      have hD : va_D A [(zo14irriiiiiirriirrrrlriiii m0 th aS aI im (nI a) sp9_131 (nI E) wg9_132 3 aB aT se dn aG aO aN aD bv aY rn kd nu tv), (zaI aS cS 901 fS9_130)] := hD
      have hK : va_K (dC, dI) vwCl [(cS, .int)] s := hK
      obtain ⟨p_133, k_134, rfl, h_136, h_137, hF_138, q9⟩ := hw_129
      rcases q9 with rfl | ⟨rfl, h_139, hI_140, h_141⟩
      · skip
        refine lv_aload_n hx hb dX12_factor_95 rfl (lv_at hl 1 rfl) ?_
        refine lv_bipush (v := 41) hx hb dX12_factor_96 (by decide) ?_
        have hPc := hP.sub (ws' := [(zo14irriiiiiirriirrrrlriiii m0 th aS aI im (nI a) (nI p_133) (nI E) 1 3 aB aT se dn aG aO aN aD bv aY rn kd nu tv), (zaI aS cS 901 fS9_130)]) [0, 1] rfl
        have hDc := hD.sub (ws' := [(zo14irriiiiiirriirrrrlriiii m0 th aS aI im (nI a) (nI p_133) (nI E) 1 3 aB aT se dn aG aO aN aD bv aY rn kd nu tv), (zaI aS cS 901 fS9_130)]) [0, 1] (by decide) rfl
        have hKc := hK.sub (tys' := [(cS, .int)]) [0] rfl
        have hFc := va_free (wc := [(zo14irriiiiiirriirrrrlriiii m0 th aS aI im (nI a) (nI p_133) (nI E) 1 3 aB aT se dn aG aO aN aD bv aY rn kd nu tv), (zaI aS cS 901 fS9_130)]) hD hS hA [0, 1] rfl
        refine va_callv (va_runV (As := [.int 41]) (rest := []) ⟨hx, hb, hml, hown, hts⟩ (c_must l dC dI m0 aS aI aB aT aG aO aN aD aY th im (nI a) (nI p_133) (nI E) 1 3 se dn rn kd nu tv bv cS fS9_130 a p_133 E 41 H.size (by omega) (by omega) (by omega) (Or.inr rfl) (by decide)) (cwV 1 hts gX12_factor_X12_must rfl rfl rfl hd_yX12_must ⟨Nat.le_of_ble_eq_true rfl, Nat.le_of_ble_eq_true rfl⟩) ⟨fun a U g mk q => by obtain ⟨q0, q1, qP, qK, qD⟩ := q; exact ⟨q0, q1, qP, va_K.moved (u := U) (U := U.calling g mk a) (Vm.Alike.refl U.vm) qK, qD⟩, va_recv hK hP (ci := 14) (q := (RX12, TX12, 23)) (q0 := 0) rfl rfl, fun U hU hW => ⟨rfl, by rw [hU], by rw [hU]; exact hPc, va_K.moved hW.alike hKc, hDc.weaken (fun _ _ _ _ => trivial)⟩⟩ rfl rfl hl.1 rfl (lv_room (Nat.le_of_ble_eq_true rfl)) dX12_factor_98 ⟨Nat.le_of_ble_eq_true rfl, Nat.le_of_ble_eq_true rfl⟩) hS (fun q _ h => hFc q h) hFc (fun u tC H1 locs htC hvm hw_143 hB hz1 hk1 hS => ?_)
        obtain ⟨sp9_144, wg9_145⟩ := u
        try dsimp only at hw_143 hB
        obtain ⟨hP1, hK1, hD1⟩ := hB
        rw [htC] at hP1
        have hK1 := va_K.moved hvm.symm hK1
        obtain ⟨hP, hD⟩ := va_join (wr := []) (w1 := [(zo14irriiiiiirriirrrrlriiii m0 th aS aI im (nI a) sp9_144 (nI E) wg9_145 3 aB aT se dn aG aO aN aD bv aY rn kd nu tv), (zaI aS cS 901 fS9_130)]) hP hD [0, 1] [] rfl rfl (by decide) (by decide) hk1 hFc hP1 hD1
        have hK := (hK.sub (tys' := []) [] rfl).app hK1
        generalize H1 = H at hP hS ⊢
        have hP : va_P (dC, dI) vwCl [(zo14irriiiiiirriirrrrlriiii m0 th aS aI im (nI a) sp9_144 (nI E) wg9_145 3 aB aT se dn aG aO aN aD bv aY rn kd nu tv), (zaI aS cS 901 fS9_130)] H := hP
        have hD : va_D A [(zo14irriiiiiirriirrrrlriiii m0 th aS aI im (nI a) sp9_144 (nI E) wg9_145 3 aB aT se dn aG aO aN aD bv aY rn kd nu tv), (zaI aS cS 901 fS9_130)] := hD
        have hK : va_K (dC, dI) vwCl [(cS, .int)] s := hK
        obtain ⟨rfl, rfl⟩ : _ ∧ _ := by rcases hw_143 with q | ⟨_, q, _⟩; exact q; exact absurd q (by decide)
        refine lv_aload_n hx hb dX12_factor_101 rfl (lv_at hl 1 rfl) ?_
        refine lv_dup hx hb dX12_factor_102 rfl ?_
        refine va_get (D := (dC, dI)) (ci := 14) (v := .int 3) (C := RX12) (T := TX12) (N := 23) hx hb hts kc_factor2_0 hown hK hP 0 rfl rfl 8 (by decide) (hts (.fieldLink RX12 89 "MistHeapsModel" "open" "I") kc_factor2_2) (fun _ h9 => h9) rfl dX12_factor_103 ?_
        refine lv_iconst (v := 1) hx hb dX12_factor_106 (by decide) ?_
        refine lv_isub hx hb dX12_factor_107 ?_
        refine qi_as (y := 2) (by decide) ?_
        refine va_put (D := (dC, dI)) (ci := 14) (v := .int 2) (ty := .int) (C := RX12) (T := TX12) (N := 23) hx hb hts kc_factor2_0 tyX12 tyX12_ok nmX12 hown hK hP hD hS 0 rfl rfl 8 (by decide) (hts (.fieldLink RX12 89 "MistHeapsModel" "open" "I") kc_factor2_2) (fun _ h9 => h9) rfl (by decide +kernel) rfl rfl (Nat.le_of_ble_eq_true rfl) dX12_factor_108 (fun H locs hP hD hS => ?_)
        have hP : va_P (dC, dI) vwCl [(zo14irriiiiiirriirrrrlriiii m0 th aS aI im (nI a) (nI p_133) (nI E) 1 2 aB aT se dn aG aO aN aD bv aY rn kd nu tv), (zaI aS cS 901 fS9_130)] H := hP
        have hD : va_D A [(zo14irriiiiiirriirrrrlriiii m0 th aS aI im (nI a) (nI p_133) (nI E) 1 2 aB aT se dn aG aO aN aD bv aY rn kd nu tv), (zaI aS cS 901 fS9_130)] := hD
        rw [hQ]
        have hP9 := hP.sub (ws' := [(zo14irriiiiiirriirrrrlriiii m0 th aS aI im (nI a) (nI p_133) (nI E) 1 2 aB aT se dn aG aO aN aD bv aY rn kd nu tv), (zaI aS cS 901 fS9_130)]) [0, 1] rfl
        have hD9 := hD.sub (ws' := [(zo14irriiiiiirriirrrrlriiii m0 th aS aI im (nI a) (nI p_133) (nI E) 1 2 aB aT se dn aG aO aN aD bv aY rn kd nu tv), (zaI aS cS 901 fS9_130)]) [0, 1] (by decide) rfl
        have hK9 := hK.sub (tys' := [(cS, .int)]) [0] rfl
        exact W.vret hx hb hr (fun tQ htQ hWQ => ⟨⟨(fS9_130, (nI p_133), 1), rfl, ⟨p_133, k, rfl, by omega, by omega, (PF.rf).tr hF_138, Or.inl rfl⟩, by rw [htQ]; exact hP9, va_K.moved hWQ.alike hK9, hD9⟩, hS.F htQ⟩) hS.2.2 dX12_factor_111
      · skip
        have k5 := hI_140.2.2.2.2.1
        refine lv_aload_n hx hb dX12_factor_95 rfl (lv_at hl 1 rfl) ?_
        refine lv_bipush (v := 41) hx hb dX12_factor_96 (by decide) ?_
        have hPc := hP.sub (ws' := [(zo14irriiiiiirriirrrrlriiii m0 th aS aI im (nI a) (nI p_133) (nI E) 0 3 aB aT se dn aG aO aN aD bv aY rn kd nu tv), (zaI aS cS 901 fS9_130)]) [0, 1] rfl
        have hDc := hD.sub (ws' := [(zo14irriiiiiirriirrrrlriiii m0 th aS aI im (nI a) (nI p_133) (nI E) 0 3 aB aT se dn aG aO aN aD bv aY rn kd nu tv), (zaI aS cS 901 fS9_130)]) [0, 1] (by decide) rfl
        have hKc := hK.sub (tys' := [(cS, .int)]) [0] rfl
        have hFc := va_free (wc := [(zo14irriiiiiirriirrrrlriiii m0 th aS aI im (nI a) (nI p_133) (nI E) 0 3 aB aT se dn aG aO aN aD bv aY rn kd nu tv), (zaI aS cS 901 fS9_130)]) hD hS hA [0, 1] rfl
        refine va_callv (va_runV (As := [.int 41]) (rest := []) ⟨hx, hb, hml, hown, hts⟩ (c_must l dC dI m0 aS aI aB aT aG aO aN aD aY th im (nI a) (nI p_133) (nI E) 0 3 se dn rn kd nu tv bv cS fS9_130 a p_133 E 41 H.size (by omega) (by omega) (by omega) (Or.inl rfl) (by decide)) (cwV 1 hts gX12_factor_X12_must rfl rfl rfl hd_yX12_must ⟨Nat.le_of_ble_eq_true rfl, Nat.le_of_ble_eq_true rfl⟩) ⟨fun a U g mk q => by obtain ⟨q0, q1, qP, qK, qD⟩ := q; exact ⟨q0, q1, qP, va_K.moved (u := U) (U := U.calling g mk a) (Vm.Alike.refl U.vm) qK, qD⟩, va_recv hK hP (ci := 14) (q := (RX12, TX12, 23)) (q0 := 0) rfl rfl, fun U hU hW => ⟨rfl, by rw [hU], by rw [hU]; exact hPc, va_K.moved hW.alike hKc, hDc.weaken (fun _ _ _ _ => trivial)⟩⟩ rfl rfl hl.1 rfl (lv_room (Nat.le_of_ble_eq_true rfl)) dX12_factor_98 ⟨Nat.le_of_ble_eq_true rfl, Nat.le_of_ble_eq_true rfl⟩) hS (fun q _ h => hFc q h) hFc (fun u tC H1 locs htC hvm hw_147 hB hz1 hk1 hS => ?_)
        obtain ⟨sp9_148, wg9_149⟩ := u
        try dsimp only at hw_147 hB
        obtain ⟨hP1, hK1, hD1⟩ := hB
        rw [htC] at hP1
        have hK1 := va_K.moved hvm.symm hK1
        obtain ⟨hP, hD⟩ := va_join (wr := []) (w1 := [(zo14irriiiiiirriirrrrlriiii m0 th aS aI im (nI a) sp9_148 (nI E) wg9_149 3 aB aT se dn aG aO aN aD bv aY rn kd nu tv), (zaI aS cS 901 fS9_130)]) hP hD [0, 1] [] rfl rfl (by decide) (by decide) hk1 hFc hP1 hD1
        have hK := (hK.sub (tys' := []) [] rfl).app hK1
        generalize H1 = H at hP hS ⊢
        have hP : va_P (dC, dI) vwCl [(zo14irriiiiiirriirrrrlriiii m0 th aS aI im (nI a) sp9_148 (nI E) wg9_149 3 aB aT se dn aG aO aN aD bv aY rn kd nu tv), (zaI aS cS 901 fS9_130)] H := hP
        have hD : va_D A [(zo14irriiiiiirriirrrrlriiii m0 th aS aI im (nI a) sp9_148 (nI E) wg9_149 3 aB aT se dn aG aO aN aD bv aY rn kd nu tv), (zaI aS cS 901 fS9_130)] := hD
        have hK : va_K (dC, dI) vwCl [(cS, .int)] s := hK
        rcases hw_147 with ⟨rfl, rfl⟩ | ⟨rfl, h_151, h_152, rfl⟩
        · skip
          refine lv_aload_n hx hb dX12_factor_101 rfl (lv_at hl 1 rfl) ?_
          refine lv_dup hx hb dX12_factor_102 rfl ?_
          refine va_get (D := (dC, dI)) (ci := 14) (v := .int 3) (C := RX12) (T := TX12) (N := 23) hx hb hts kc_factor2_0 hown hK hP 0 rfl rfl 8 (by decide) (hts (.fieldLink RX12 89 "MistHeapsModel" "open" "I") kc_factor2_2) (fun _ h9 => h9) rfl dX12_factor_103 ?_
          refine lv_iconst (v := 1) hx hb dX12_factor_106 (by decide) ?_
          refine lv_isub hx hb dX12_factor_107 ?_
          refine qi_as (y := 2) (by decide) ?_
          refine va_put (D := (dC, dI)) (ci := 14) (v := .int 2) (ty := .int) (C := RX12) (T := TX12) (N := 23) hx hb hts kc_factor2_0 tyX12 tyX12_ok nmX12 hown hK hP hD hS 0 rfl rfl 8 (by decide) (hts (.fieldLink RX12 89 "MistHeapsModel" "open" "I") kc_factor2_2) (fun _ h9 => h9) rfl (by decide +kernel) rfl rfl (Nat.le_of_ble_eq_true rfl) dX12_factor_108 (fun H locs hP hD hS => ?_)
          have hP : va_P (dC, dI) vwCl [(zo14irriiiiiirriirrrrlriiii m0 th aS aI im (nI a) (nI p_133) (nI E) 1 2 aB aT se dn aG aO aN aD bv aY rn kd nu tv), (zaI aS cS 901 fS9_130)] H := hP
          have hD : va_D A [(zo14irriiiiiirriirrrrlriiii m0 th aS aI im (nI a) (nI p_133) (nI E) 1 2 aB aT se dn aG aO aN aD bv aY rn kd nu tv), (zaI aS cS 901 fS9_130)] := hD
          rw [hQ]
          have hP9 := hP.sub (ws' := [(zo14irriiiiiirriirrrrlriiii m0 th aS aI im (nI a) (nI p_133) (nI E) 1 2 aB aT se dn aG aO aN aD bv aY rn kd nu tv), (zaI aS cS 901 fS9_130)]) [0, 1] rfl
          have hD9 := hD.sub (ws' := [(zo14irriiiiiirriirrrrlriiii m0 th aS aI im (nI a) (nI p_133) (nI E) 1 2 aB aT se dn aG aO aN aD bv aY rn kd nu tv), (zaI aS cS 901 fS9_130)]) [0, 1] (by decide) rfl
          have hK9 := hK.sub (tys' := [(cS, .int)]) [0] rfl
          exact W.vret hx hb hr (fun tQ htQ hWQ => ⟨⟨(fS9_130, (nI p_133), 1), rfl, ⟨p_133, k, rfl, by omega, by omega, (PF.rf).tr hF_138, Or.inl rfl⟩, by rw [htQ]; exact hP9, va_K.moved hWQ.alike hK9, hD9⟩, hS.F htQ⟩) hS.2.2 dX12_factor_111
        · skip
          refine lv_aload_n hx hb dX12_factor_101 rfl (lv_at hl 1 rfl) ?_
          refine lv_dup hx hb dX12_factor_102 rfl ?_
          refine va_get (D := (dC, dI)) (ci := 14) (v := .int 3) (C := RX12) (T := TX12) (N := 23) hx hb hts kc_factor2_0 hown hK hP 0 rfl rfl 8 (by decide) (hts (.fieldLink RX12 89 "MistHeapsModel" "open" "I") kc_factor2_2) (fun _ h9 => h9) rfl dX12_factor_103 ?_
          refine lv_iconst (v := 1) hx hb dX12_factor_106 (by decide) ?_
          refine lv_isub hx hb dX12_factor_107 ?_
          refine qi_as (y := 2) (by decide) ?_
          refine va_put (D := (dC, dI)) (ci := 14) (v := .int 2) (ty := .int) (C := RX12) (T := TX12) (N := 23) hx hb hts kc_factor2_0 tyX12 tyX12_ok nmX12 hown hK hP hD hS 0 rfl rfl 8 (by decide) (hts (.fieldLink RX12 89 "MistHeapsModel" "open" "I") kc_factor2_2) (fun _ h9 => h9) rfl (by decide +kernel) rfl rfl (Nat.le_of_ble_eq_true rfl) dX12_factor_108 (fun H locs hP hD hS => ?_)
          have hP : va_P (dC, dI) vwCl [(zo14irriiiiiirriirrrrlriiii m0 th aS aI im (nI a) (nI (p_133 + 1)) (nI E) 0 2 aB aT se dn aG aO aN aD bv aY rn kd nu tv), (zaI aS cS 901 fS9_130)] H := hP
          have hD : va_D A [(zo14irriiiiiirriirrrrlriiii m0 th aS aI im (nI a) (nI (p_133 + 1)) (nI E) 0 2 aB aT se dn aG aO aN aD bv aY rn kd nu tv), (zaI aS cS 901 fS9_130)] := hD
          rw [hQ]
          have hP9 := hP.sub (ws' := [(zo14irriiiiiirriirrrrlriiii m0 th aS aI im (nI a) (nI (p_133 + 1)) (nI E) 0 2 aB aT se dn aG aO aN aD bv aY rn kd nu tv), (zaI aS cS 901 fS9_130)]) [0, 1] rfl
          have hD9 := hD.sub (ws' := [(zo14irriiiiiirriirrrrlriiii m0 th aS aI im (nI a) (nI (p_133 + 1)) (nI E) 0 2 aB aT se dn aG aO aN aD bv aY rn kd nu tv), (zaI aS cS 901 fS9_130)]) [0, 1] (by decide) rfl
          have hK9 := hK.sub (tys' := [(cS, .int)]) [0] rfl
          exact W.vret hx hb hr (fun tQ htQ hWQ => ⟨⟨(fS9_130, (nI (p_133 + 1)), 0), rfl, ⟨p_133 + 1, k_134, rfl, by omega, by omega, (PF.rf).tr hF_138, Or.inr ⟨rfl, by omega, (hI_140).mono (by omega) (by omega), by omega⟩⟩, by rw [htQ]; exact hP9, va_K.moved hWQ.alike hK9, hD9⟩, hS.F htQ⟩) hS.2.2 dX12_factor_111

theorem kc_every2_0 : ∀ w ∈ wsX120, w ∈ wsX12_every := fun w h => List.mem_cons_of_mem _ (gin_wsX120 w h)
theorem kc_every2_1 : (.fieldLink RX12 65 "MistHeapsModel" "isWrong" "Z" : Cond) ∈ wsX12_every := kc_of 1147 rfl rfl rfl
theorem kc_every2_2 : (.fieldLink RX12 59 "MistHeapsModel" "spot" "I" : Cond) ∈ wsX12_every := kc_of 1145 rfl rfl rfl
set_option maxHeartbeats 4000000 in
set_option maxRecDepth 100000 in
theorem c_every2 (l : Launch) (dC : Nat → ClassId) (dI : Nat → Nat → Nat) (sK sV : Nat → Nat) (m0 aS aI aB aT aG aO aN aD aY : Nat) (th im ac sp en wg op se dn rn kd nu tv : Int32) (bv : Int64) (cS : ClassId) (fS : Nat → Int32) (a p0 E k d : Nat) (sz : Nat) (gI : PI fS a k d p0 E) : Met l yX12_every wsX12_every ({ frames := 15, cells := 0, slots := 0, locals := 323 } : Room) (va_Pc [.ref m0] (fun U => U.heap.size = sz ∧ va_P (dC, dI) vwCl [(zo14irriiiiiirriirrrrlriiii m0 th aS aI im (nI a) (nI p0) (nI E) 0 2 aB aT se dn aG aO aN aD bv aY rn kd nu tv), (zaI aS cS 901 fS)] U.heap ∧ va_K (dC, dI) vwCl [(cS, .int)] U ∧ va_D (fun _ => True) [(zo14irriiiiiirriirrrrlriiii m0 th aS aI im (nI a) (nI p0) (nI E) 0 2 aB aT se dn aG aO aN aD bv aY rn kd nu tv), (zaI aS cS 901 fS)] ∧ Gs sK sV (va_A [(zo14irriiiiiirriirrrrlriiii m0 th aS aI im (nI a) (nI p0) (nI E) 0 2 aB aT se dn aG aO aN aD bv aY rn kd nu tv), (zaI aS cS 901 fS)] sz) U)) (va_Qv (fun (u : (Nat → Int32) × (Int32) × (Int32)) => match u with | (fS9, sp9, wg9) => ∃ p9 k9 : Nat, sp9 = nI p9 ∧ p0 ≤ p9 ∧ p9 ≤ E ∧ PF a fS fS9 ∧ (wg9 = 1 ∨ (wg9 = 0 ∧ p0 + 3 ≤ p9 ∧ PI fS9 a k9 (d + 1) p9 E ∧ k9 + p0 ≤ k + p9))) (fun (u : (Nat → Int32) × (Int32) × (Int32)) (t : State) => match u with | (fS9, sp9, wg9) => va_P (dC, dI) vwCl [(zo14irriiiiiirriirrrrlriiii m0 th aS aI im (nI a) sp9 (nI E) wg9 2 aB aT se dn aG aO aN aD bv aY rn kd nu tv), (zaI aS cS 901 fS9)] t.heap ∧ va_K (dC, dI) vwCl [(cS, .int)] t ∧ va_D (va_A [(zo14irriiiiiirriirrrrlriiii m0 th aS aI im (nI a) (nI p0) (nI E) 0 2 aB aT se dn aG aO aN aD bv aY rn kd nu tv), (zaI aS cS 901 fS)] sz) [(zo14irriiiiiirriirrrrlriiii m0 th aS aI im (nI a) sp9 (nI E) wg9 2 aB aT se dn aG aO aN aD bv aY rn kd nu tv), (zaI aS cS 901 fS9)]) (va_A [(zo14irriiiiiirriirrrrlriiii m0 th aS aI im (nI a) (nI p0) (nI E) 0 2 aB aT se dn aG aO aN aD bv aY rn kd nu tv), (zaI aS cS 901 fS)] sz)) 0 0 (va_A [(zo14irriiiiiirriirrrrlriiii m0 th aS aI im (nI a) (nI p0) (nI E) 0 2 aB aT se dn aG aO aN aD bv aY rn kd nu tv), (zaI aS cS 901 fS)] sz) := by
  refine met_ofQ (cc := cX12_every) (maxL := 1) (ret := none) (by decide) rfl ?_
  intro p e s m args below meth c s₁ Q B hml hv hQ
  obtain ⟨rfl, hsz, hP, hK, hD0, hE⟩ := hv
  have hx := B.exec
  have hb := B.bytes
  have hr := B.returns
  have hts := atoms_spec (ws := wsX12_every) B.pre
  have hown : s.vm.findClass RX12 = some m.cls := findClass_of_methodNamed B.named
  have hlocks := B.notSynchronized
  subst hsz
  have hD := hD0.self (sz := s.heap.size)
  generalize hAe : va_A [(zo14irriiiiiirriirrrrlriiii m0 th aS aI im (nI a) (nI p0) (nI E) 0 2 aB aT se dn aG aO aN aD bv aY rn kd nu tv), (zaI aS cS 901 fS)] s.heap.size = A at hD hQ hE ⊢
  have hA : ∀ q : Nat, s.heap.size ≤ q → A q := fun q h => by rw [← hAe]; exact Or.inr h
  have hS : va_S A s.heap s.heap [] := va_S.rf
  have hl := lv_entry [.ref m0] (n := 1) (Nat.le_of_ble_eq_true rfl)
  rw [lg_entry_eq]
  generalize (lg_sl [.ref m0] ++ List.replicate (1 - (lg_sl [.ref m0]).length) Slot.unset).toArray = ls at hl ⊢
  generalize hag : ([.ref m0] : List Value).toArray = args at hts hQ ⊢
  have hl : lv_has ls 1 [(0, .ref m0)] := hl
  obtain ⟨H, hH⟩ : ∃ H : Heap, H = s.heap := ⟨_, rfl⟩
  rw [← hH] at hP
  rw [← hH]
  have hS : va_S A s.heap H [] := by rw [hH]; exact hS
  obtain ⟨locs, hlo⟩ : ∃ L : List Loc, L = [] := ⟨_, rfl⟩
  rw [← hlo] at hS
  rw [← hlo]
  clear hH hlo
  obtain ⟨ga, gp, gE, zk, gkp, gd, gs⟩ := id gI
  refine lv_aload_n hx hb dX12_every_0 rfl (lv_at hl 0 rfl) ?_
  have hPc := hP.sub (ws' := [(zo14irriiiiiirriirrrrlriiii m0 th aS aI im (nI a) (nI p0) (nI E) 0 2 aB aT se dn aG aO aN aD bv aY rn kd nu tv), (zaI aS cS 901 fS)]) [0, 1] rfl
  have hDc := hD.sub (ws' := [(zo14irriiiiiirriirrrrlriiii m0 th aS aI im (nI a) (nI p0) (nI E) 0 2 aB aT se dn aG aO aN aD bv aY rn kd nu tv), (zaI aS cS 901 fS)]) [0, 1] (by decide) rfl
  have hKc := hK.sub (tys' := [(cS, .int)]) [0] rfl
  have hFc := va_free (wc := [(zo14irriiiiiirriirrrrlriiii m0 th aS aI im (nI a) (nI p0) (nI E) 0 2 aB aT se dn aG aO aN aD bv aY rn kd nu tv), (zaI aS cS 901 fS)]) hD hS hA [0, 1] rfl
  refine va_callv (va_runV (As := []) (rest := []) ⟨hx, hb, hml, hown, hts⟩ (c_factor2 l dC dI sK sV m0 aS aI aB aT aG aO aN aD aY th im (nI a) (nI p0) (nI E) 0 2 se dn rn kd nu tv bv cS fS a p0 E k d H.size ((gI).mono (by omega) (by omega))) (cwV 0 hts gX12_every_X12_factor rfl rfl rfl hd_yX12_factor ⟨Nat.le_of_ble_eq_true rfl, Nat.le_of_ble_eq_true rfl⟩) ⟨fun a U g mk q => by obtain ⟨q0, q1, qP, qK, qD, qhE⟩ := q; exact ⟨q0, q1, qP, va_K.moved (u := U) (U := U.calling g mk a) (Vm.Alike.refl U.vm) qK, qD, qhE.same rfl rfl⟩, va_recv hK hP (ci := 14) (q := (RX12, TX12, 23)) (q0 := 0) rfl rfl, fun U hU hW => ⟨rfl, by rw [hU], by rw [hU]; exact hPc, va_K.moved hW.alike hKc, hDc.weaken (fun _ _ _ _ => trivial), hE.call hS hU hW (fun q h => hFc q h)⟩⟩ rfl rfl hl.1 rfl (lv_room (Nat.le_of_ble_eq_true rfl)) dX12_every_1 ⟨Nat.le_of_ble_eq_true rfl, Nat.le_of_ble_eq_true rfl⟩) hS (fun q _ h => hFc q h) hFc (fun u tC H1 locs htC hvm hw_2 hB hz1 hk1 hS => ?_)
  obtain ⟨fS9_3, sp9_4, wg9_5⟩ := u
  try dsimp only at hw_2 hB
  obtain ⟨hP1, hK1, hD1⟩ := hB
  rw [htC] at hP1
  have hK1 := va_K.moved hvm.symm hK1
  obtain ⟨hP, hD⟩ := va_join (wr := []) (w1 := [(zo14irriiiiiirriirrrrlriiii m0 th aS aI im (nI a) sp9_4 (nI E) wg9_5 2 aB aT se dn aG aO aN aD bv aY rn kd nu tv), (zaI aS cS 901 fS9_3)]) hP hD [0, 1] [] rfl rfl (by decide) (by decide) hk1 hFc hP1 hD1
  have hK := (hK.sub (tys' := []) [] rfl).app hK1
  generalize H1 = H at hP hS ⊢
  have hP : va_P (dC, dI) vwCl [(zo14irriiiiiirriirrrrlriiii m0 th aS aI im (nI a) sp9_4 (nI E) wg9_5 2 aB aT se dn aG aO aN aD bv aY rn kd nu tv), (zaI aS cS 901 fS9_3)] H := hP
  have hD : va_D A [(zo14irriiiiiirriirrrrlriiii m0 th aS aI im (nI a) sp9_4 (nI E) wg9_5 2 aB aT se dn aG aO aN aD bv aY rn kd nu tv), (zaI aS cS 901 fS9_3)] := hD
  have hK : va_K (dC, dI) vwCl [(cS, .int)] s := hK
  obtain ⟨p_6, k_7, rfl, h_9, h_10, hF_11, q9⟩ := hw_2
  rcases q9 with rfl | ⟨rfl, h_12, hI_13, h_14⟩
  · skip
    have L4 : ∀ (nF : Nat) (p1 : Nat) (k1 : Nat) (w1 : Int32) (f1 : Nat → Int32), E - p1 < nF → (p0 ≤ p1 ∧ p1 ≤ E) → (PF a fS f1) → (w1 = 1 ∨ (w1 = 0 ∧ p0 + 3 ≤ p1 ∧ PI f1 a k1 (d + 1) p1 E ∧ k1 + p0 ≤ k + p1)) → ∀ (H : Heap) (locs : List Loc), va_K (dC, dI) vwCl [(cS, .int)] s → va_P (dC, dI) vwCl [(zo14irriiiiiirriirrrrlriiii m0 th aS aI im (nI a) (nI p1) (nI E) w1 2 aB aT se dn aG aO aN aD bv aY rn kd nu tv), (zaI aS cS 901 f1)] H → va_D A [(zo14irriiiiiirriirrrrlriiii m0 th aS aI im (nI a) (nI p1) (nI E) w1 2 aB aT se dn aG aO aN aD bv aY rn kd nu tv), (zaI aS cS 901 f1)] → va_S A s.heap H locs → ∀ (ls : Array Slot), lv_has ls 1 [(0, .ref m0)] → W p l e ({ frames := 15, cells := 0, slots := 0, locals := 323 } : Room) s m args below meth c H locs 0 0 Q (F0 m 4 ls []) := by
      intro nF
      induction nF with
      | zero => intro p1 k1 w1 f1 hm; exact absurd hm (Nat.not_lt_zero _)
      | succ nF ih4 =>
        intro p1 k1 w1 f1 hm h1 hF hw1 H locs hK hP hD hS ls hl
        obtain ⟨h1a, h1b⟩ := h1
        rcases hw1 with rfl | ⟨rfl, h3, hI, h4⟩
        · skip
          refine lv_aload_n hx hb dX12_every_4 rfl (lv_at hl 0 rfl) ?_
          refine va_get (D := (dC, dI)) (ci := 14) (v := .int 1) (C := RX12) (T := TX12) (N := 23) hx hb hts kc_every2_0 hown hK hP 0 rfl rfl 7 (by decide) (hts (.fieldLink RX12 65 "MistHeapsModel" "isWrong" "Z") kc_every2_1) (fun _ h9 => h9) rfl dX12_every_5 ?_
          refine lv_if_ne (tgt := 43) hx hb dX12_every_8 (by decide) (fun _ => ?_) (fun c_15 => absurd c_15 (by decide))
          rw [hQ]
          have hP9 := hP.sub (ws' := [(zo14irriiiiiirriirrrrlriiii m0 th aS aI im (nI a) (nI p1) (nI E) 1 2 aB aT se dn aG aO aN aD bv aY rn kd nu tv), (zaI aS cS 901 f1)]) [0, 1] rfl
          have hD9 := hD.sub (ws' := [(zo14irriiiiiirriirrrrlriiii m0 th aS aI im (nI a) (nI p1) (nI E) 1 2 aB aT se dn aG aO aN aD bv aY rn kd nu tv), (zaI aS cS 901 f1)]) [0, 1] (by decide) rfl
          have hK9 := hK.sub (tys' := [(cS, .int)]) [0] rfl
          exact W.vret hx hb hr (fun tQ htQ hWQ => ⟨⟨(f1, (nI p1), 1), rfl, ⟨p1, k, rfl, by omega, by omega, hF, Or.inl rfl⟩, by rw [htQ]; exact hP9, va_K.moved hWQ.alike hK9, hD9⟩, hS.F htQ⟩) hS.2.2 dX12_every_43
        · skip
          have k5 := hI.2.2.2.2.1
          refine lv_aload_n hx hb dX12_every_4 rfl (lv_at hl 0 rfl) ?_
          refine va_get (D := (dC, dI)) (ci := 14) (v := .int 0) (C := RX12) (T := TX12) (N := 23) hx hb hts kc_every2_0 hown hK hP 0 rfl rfl 7 (by decide) (hts (.fieldLink RX12 65 "MistHeapsModel" "isWrong" "Z") kc_every2_1) (fun _ h9 => h9) rfl dX12_every_5 ?_
          refine lv_if_ne (tgt := 43) hx hb dX12_every_8 (by decide) (fun c_16 => absurd c_16 (by decide)) (fun _ => ?_)
          refine lv_aload_n hx hb dX12_every_11 rfl (lv_at hl 0 rfl) ?_
          have hPc := hP.sub (ws' := [(zo14irriiiiiirriirrrrlriiii m0 th aS aI im (nI a) (nI p1) (nI E) 0 2 aB aT se dn aG aO aN aD bv aY rn kd nu tv), (zaI aS cS 901 f1)]) [0, 1] rfl
          have hKc := hK.sub (tys' := [(cS, .int)]) [0] rfl
          refine vp_callSi (va_runV (As := []) (rest := []) ⟨hx, hb, hml, hown, hts⟩ (c_here l dC dI m0 aS aI aB aT aG aO aN aD aY th im (nI a) (nI p1) (nI E) 0 2 se dn rn kd nu tv bv cS f1 a p1 E (by omega) (by omega) (by omega)) (cwV 0 hts gX12_every_X12_here rfl rfl rfl hd_yX12_here ⟨Nat.le_of_ble_eq_true rfl, Nat.le_of_ble_eq_true rfl⟩) ⟨fun a U g mk q => by obtain ⟨q0, qP, qK⟩ := q; exact ⟨q0, qP, va_K.moved (u := U) (U := U.calling g mk a) (Vm.Alike.refl U.vm) qK⟩, va_recv hK hP (ci := 14) (q := (RX12, TX12, 23)) (q0 := 0) rfl rfl, fun U hU hW => ⟨rfl, by rw [hU]; exact hPc, va_K.moved hW.alike hKc⟩⟩ rfl rfl hl.1 rfl (lv_room (Nat.le_of_ble_eq_true rfl)) dX12_every_12 ⟨Nat.le_of_ble_eq_true rfl, Nat.le_of_ble_eq_true rfl⟩).run (fun r_17 hw_18 => ?_)
          refine lv_bipush (v := 38) hx hb dX12_every_15 (by decide) ?_
          refine lv_icmp_ne (tgt := 43) hx hb dX12_every_17 (by decide) (fun c_19 => ?_) (fun c_19 => ?_)
          · skip
            rw [hQ]
            have hP9 := hP.sub (ws' := [(zo14irriiiiiirriirrrrlriiii m0 th aS aI im (nI a) (nI p1) (nI E) 0 2 aB aT se dn aG aO aN aD bv aY rn kd nu tv), (zaI aS cS 901 f1)]) [0, 1] rfl
            have hD9 := hD.sub (ws' := [(zo14irriiiiiirriirrrrlriiii m0 th aS aI im (nI a) (nI p1) (nI E) 0 2 aB aT se dn aG aO aN aD bv aY rn kd nu tv), (zaI aS cS 901 f1)]) [0, 1] (by decide) rfl
            have hK9 := hK.sub (tys' := [(cS, .int)]) [0] rfl
            exact W.vret hx hb hr (fun tQ htQ hWQ => ⟨⟨(f1, (nI p1), 0), rfl, ⟨p1, k1, rfl, by omega, by omega, hF, Or.inr ⟨rfl, by omega, hI, by omega⟩⟩, by rw [htQ]; exact hP9, va_K.moved hWQ.alike hK9, hD9⟩, hS.F htQ⟩) hS.2.2 dX12_every_43
          · skip
            have hlt : p1 < E := hv_lt (f := f1) (by rw [← hw_18, c_19]; decide)
            refine lv_aload_n hx hb dX12_every_20 rfl (lv_at hl 0 rfl) ?_
            refine lv_dup hx hb dX12_every_21 rfl ?_
            refine va_get (D := (dC, dI)) (ci := 14) (v := .int (nI p1)) (C := RX12) (T := TX12) (N := 23) hx hb hts kc_every2_0 hown hK hP 0 rfl rfl 5 (by decide) (hts (.fieldLink RX12 59 "MistHeapsModel" "spot" "I") kc_every2_2) (fun _ h9 => h9) rfl dX12_every_22 ?_
            refine lv_iconst (v := 1) hx hb dX12_every_25 (by decide) ?_
            refine lv_iadd hx hb dX12_every_26 ?_
            refine qi_as (y := nI (p1 + 1)) (nI_add p1 1) ?_
            refine va_put (D := (dC, dI)) (ci := 14) (v := .int (nI (p1 + 1))) (ty := .int) (C := RX12) (T := TX12) (N := 23) hx hb hts kc_every2_0 tyX12 tyX12_ok nmX12 hown hK hP hD hS 0 rfl rfl 5 (by decide) (hts (.fieldLink RX12 59 "MistHeapsModel" "spot" "I") kc_every2_2) (fun _ h9 => h9) rfl (by decide +kernel) rfl rfl (Nat.le_of_ble_eq_true rfl) dX12_every_27 (fun H locs hP hD hS => ?_)
            have hP : va_P (dC, dI) vwCl [(zo14irriiiiiirriirrrrlriiii m0 th aS aI im (nI a) (nI (p1 + 1)) (nI E) 0 2 aB aT se dn aG aO aN aD bv aY rn kd nu tv), (zaI aS cS 901 f1)] H := hP
            have hD : va_D A [(zo14irriiiiiirriirrrrlriiii m0 th aS aI im (nI a) (nI (p1 + 1)) (nI E) 0 2 aB aT se dn aG aO aN aD bv aY rn kd nu tv), (zaI aS cS 901 f1)] := hD
            refine lv_aload_n hx hb dX12_every_30 rfl (lv_at hl 0 rfl) ?_
            have hPc := hP.sub (ws' := [(zo14irriiiiiirriirrrrlriiii m0 th aS aI im (nI a) (nI (p1 + 1)) (nI E) 0 2 aB aT se dn aG aO aN aD bv aY rn kd nu tv), (zaI aS cS 901 f1)]) [0, 1] rfl
            have hDc := hD.sub (ws' := [(zo14irriiiiiirriirrrrlriiii m0 th aS aI im (nI a) (nI (p1 + 1)) (nI E) 0 2 aB aT se dn aG aO aN aD bv aY rn kd nu tv), (zaI aS cS 901 f1)]) [0, 1] (by decide) rfl
            have hKc := hK.sub (tys' := [(cS, .int)]) [0] rfl
            have hFc := va_free (wc := [(zo14irriiiiiirriirrrrlriiii m0 th aS aI im (nI a) (nI (p1 + 1)) (nI E) 0 2 aB aT se dn aG aO aN aD bv aY rn kd nu tv), (zaI aS cS 901 f1)]) hD hS hA [0, 1] rfl
            refine va_callv (va_runV (As := []) (rest := []) ⟨hx, hb, hml, hown, hts⟩ (c_factor2 l dC dI sK sV m0 aS aI aB aT aG aO aN aD aY th im (nI a) (nI (p1 + 1)) (nI E) 0 2 se dn rn kd nu tv bv cS f1 a (p1 + 1) E k1 (d + 1) H.size ((hI).mono (by omega) (by omega))) (cwV 0 hts gX12_every_X12_factor rfl rfl rfl hd_yX12_factor ⟨Nat.le_of_ble_eq_true rfl, Nat.le_of_ble_eq_true rfl⟩) ⟨fun a U g mk q => by obtain ⟨q0, q1, qP, qK, qD, qhE⟩ := q; exact ⟨q0, q1, qP, va_K.moved (u := U) (U := U.calling g mk a) (Vm.Alike.refl U.vm) qK, qD, qhE.same rfl rfl⟩, va_recv hK hP (ci := 14) (q := (RX12, TX12, 23)) (q0 := 0) rfl rfl, fun U hU hW => ⟨rfl, by rw [hU], by rw [hU]; exact hPc, va_K.moved hW.alike hKc, hDc.weaken (fun _ _ _ _ => trivial), hE.call hS hU hW (fun q h => hFc q h)⟩⟩ rfl rfl hl.1 rfl (lv_room (Nat.le_of_ble_eq_true rfl)) dX12_every_31 ⟨Nat.le_of_ble_eq_true rfl, Nat.le_of_ble_eq_true rfl⟩) hS (fun q _ h => hFc q h) hFc (fun u tC H1 locs htC hvm hw_21 hB hz1 hk1 hS => ?_)
            obtain ⟨fS9_22, sp9_23, wg9_24⟩ := u
            try dsimp only at hw_21 hB
            obtain ⟨hP1, hK1, hD1⟩ := hB
            rw [htC] at hP1
            have hK1 := va_K.moved hvm.symm hK1
            obtain ⟨hP, hD⟩ := va_join (wr := []) (w1 := [(zo14irriiiiiirriirrrrlriiii m0 th aS aI im (nI a) sp9_23 (nI E) wg9_24 2 aB aT se dn aG aO aN aD bv aY rn kd nu tv), (zaI aS cS 901 fS9_22)]) hP hD [0, 1] [] rfl rfl (by decide) (by decide) hk1 hFc hP1 hD1
            have hK := (hK.sub (tys' := []) [] rfl).app hK1
            generalize H1 = H at hP hS ⊢
            have hP : va_P (dC, dI) vwCl [(zo14irriiiiiirriirrrrlriiii m0 th aS aI im (nI a) sp9_23 (nI E) wg9_24 2 aB aT se dn aG aO aN aD bv aY rn kd nu tv), (zaI aS cS 901 fS9_22)] H := hP
            have hD : va_D A [(zo14irriiiiiirriirrrrlriiii m0 th aS aI im (nI a) sp9_23 (nI E) wg9_24 2 aB aT se dn aG aO aN aD bv aY rn kd nu tv), (zaI aS cS 901 fS9_22)] := hD
            have hK : va_K (dC, dI) vwCl [(cS, .int)] s := hK
            obtain ⟨p_25, k_26, rfl, h_28, h_29, hF_30, q9⟩ := hw_21
            rcases q9 with rfl | ⟨rfl, h_31, hI_32, h_33⟩
            · skip
              refine lv_aload_n hx hb dX12_every_34 rfl (lv_at hl 0 rfl) ?_
              refine lv_bipush (v := (-2)) hx hb dX12_every_35 (by decide) ?_
              have hPc := hP.sub (ws' := [(zo14irriiiiiirriirrrrlriiii m0 th aS aI im (nI a) (nI p_25) (nI E) 1 2 aB aT se dn aG aO aN aD bv aY rn kd nu tv)]) [0] rfl
              have hKc := hK.sub (tys' := []) [] rfl
              refine va_csv (va_runV (As := [.int (-2)]) (rest := []) ⟨hx, hb, hml, hown, hts⟩ (c_emitsW l dC dI m0 aS aI aB aT aG aO aN aD aY th im (nI a) (nI p_25) (nI E) 1 2 se dn rn kd nu tv bv (-2)) (cwV 1 hts gX12_every_X12_emits rfl rfl rfl hd_yX12_emits ⟨Nat.le_of_ble_eq_true rfl, Nat.le_of_ble_eq_true rfl⟩) ⟨fun a U g mk q => by obtain ⟨q0, qP, qK⟩ := q; exact ⟨q0, qP, va_K.moved (u := U) (U := U.calling g mk a) (Vm.Alike.refl U.vm) qK⟩, va_recv hK hP (ci := 14) (q := (RX12, TX12, 23)) (q0 := 0) rfl rfl, fun U hU hW => ⟨rfl, by rw [hU]; exact hPc, va_K.moved hW.alike hKc⟩⟩ rfl rfl hl.1 rfl (lv_room (Nat.le_of_ble_eq_true rfl)) dX12_every_37 ⟨Nat.le_of_ble_eq_true rfl, Nat.le_of_ble_eq_true rfl⟩).run (fun hw_35 => ?_)
              refine lv_goto (tgt := 4) hx hb dX12_every_40 (by decide) ?_
              exact ih4 (p_25) (k) (1) (fS9_22) (by omega) (by omega) ((hF).tr hF_30) (Or.inl rfl) _ _ (hK.sub [0] rfl) (hP.sub [0, 1] rfl) (hD.sub [0, 1] (by decide) rfl) hS ls (lv_sub hl [0] rfl)
            · skip
              have k5 := hI_32.2.2.2.2.1
              refine lv_aload_n hx hb dX12_every_34 rfl (lv_at hl 0 rfl) ?_
              refine lv_bipush (v := (-2)) hx hb dX12_every_35 (by decide) ?_
              have hPc := hP.sub (ws' := [(zo14irriiiiiirriirrrrlriiii m0 th aS aI im (nI a) (nI p_25) (nI E) 0 2 aB aT se dn aG aO aN aD bv aY rn kd nu tv), (zaI aS cS 901 fS9_22)]) [0, 1] rfl
              have hDc := hD.sub (ws' := [(zo14irriiiiiirriirrrrlriiii m0 th aS aI im (nI a) (nI p_25) (nI E) 0 2 aB aT se dn aG aO aN aD bv aY rn kd nu tv), (zaI aS cS 901 fS9_22)]) [0, 1] (by decide) rfl
              have hKc := hK.sub (tys' := [(cS, .int)]) [0] rfl
              have hFc := va_free (wc := [(zo14irriiiiiirriirrrrlriiii m0 th aS aI im (nI a) (nI p_25) (nI E) 0 2 aB aT se dn aG aO aN aD bv aY rn kd nu tv), (zaI aS cS 901 fS9_22)]) hD hS hA [0, 1] rfl
              refine va_callv (va_runV (As := [.int (-2)]) (rest := []) ⟨hx, hb, hml, hown, hts⟩ (c_emits l dC dI m0 aS aI aB aT aG aO aN aD aY th im (nI a) (nI p_25) (nI E) 0 2 se dn rn kd nu tv bv cS fS9_22 a k_26 (-2) H.size (ga) ((hI_32).2.2.2.1) (by have := (hI_32).2.2.2.2.1; omega)) (cwV 1 hts gX12_every_X12_emits rfl rfl rfl hd_yX12_emits ⟨Nat.le_of_ble_eq_true rfl, Nat.le_of_ble_eq_true rfl⟩) ⟨fun a U g mk q => by obtain ⟨q0, q1, qP, qK, qD⟩ := q; exact ⟨q0, q1, qP, va_K.moved (u := U) (U := U.calling g mk a) (Vm.Alike.refl U.vm) qK, qD⟩, va_recv hK hP (ci := 14) (q := (RX12, TX12, 23)) (q0 := 0) rfl rfl, fun U hU hW => ⟨rfl, by rw [hU], by rw [hU]; exact hPc, va_K.moved hW.alike hKc, hDc.weaken (fun _ _ _ _ => trivial)⟩⟩ rfl rfl hl.1 rfl (lv_room (Nat.le_of_ble_eq_true rfl)) dX12_every_37 ⟨Nat.le_of_ble_eq_true rfl, Nat.le_of_ble_eq_true rfl⟩) hS (fun q _ h => hFc q h) hFc (fun u tC H1 locs htC hvm hw_37 hB hz1 hk1 hS => ?_)
              obtain ⟨fS9_38, rfl⟩ : ∃ z, z = u := ⟨_, rfl⟩
              try dsimp only at hw_37 hB
              obtain ⟨hP1, hK1, hD1⟩ := hB
              rw [htC] at hP1
              have hK1 := va_K.moved hvm.symm hK1
              obtain ⟨hP, hD⟩ := va_join (wr := []) (w1 := [(zo14irriiiiiirriirrrrlriiii m0 th aS aI im (nI a) (nI p_25) (nI E) 0 2 aB aT se dn aG aO aN aD bv aY rn kd nu tv), (zaI aS cS 901 fS9_38)]) hP hD [0, 1] [] rfl rfl (by decide) (by decide) hk1 hFc hP1 hD1
              have hK := (hK.sub (tys' := []) [] rfl).app hK1
              generalize H1 = H at hP hS ⊢
              have hP : va_P (dC, dI) vwCl [(zo14irriiiiiirriirrrrlriiii m0 th aS aI im (nI a) (nI p_25) (nI E) 0 2 aB aT se dn aG aO aN aD bv aY rn kd nu tv), (zaI aS cS 901 fS9_38)] H := hP
              have hD : va_D A [(zo14irriiiiiirriirrrrlriiii m0 th aS aI im (nI a) (nI p_25) (nI E) 0 2 aB aT se dn aG aO aN aD bv aY rn kd nu tv), (zaI aS cS 901 fS9_38)] := hD
              have hK : va_K (dC, dI) vwCl [(cS, .int)] s := hK
              obtain rfl : fS9_38 = emt fS9_22 a k_26 (-2) := by rcases hw_37 with ⟨q, _⟩ | ⟨_, q⟩; exact absurd rfl q; exact q
              have hI_40 : PI (emt fS9_22 a k_26 (-2)) a (k_26 + 1) (((d + 1) + 1) - 1) p_25 E := ((hI_32).mono (by omega) (by omega)).em (by omega) (by omega) (stepd_both (by omega))
              have hF_41 : PF a fS (emt fS9_22 a k_26 (-2)) := ((hF).tr hF_30).tr (PF_emt (k := k_26) (x := (-2)) ga (by have := (hI_32).2.2.2.2.1; omega))
              refine lv_goto (tgt := 4) hx hb dX12_every_40 (by decide) ?_
              exact ih4 (p_25) ((k_26 + 1)) (0) (emt fS9_22 a k_26 (-2)) (by omega) (by omega) (hF_41) (Or.inr ⟨rfl, by omega, hI_40, by omega⟩) _ _ (hK.sub [0] rfl) (hP.sub [0, 1] rfl) (hD.sub [0, 1] (by decide) rfl) hS ls (lv_sub hl [0] rfl)
    exact L4 _ (p_6) (k) (1) (fS9_3) (Nat.lt_succ_self _) (by omega) ((PF.rf).tr hF_11) (Or.inl rfl) _ _ (hK.sub [0] rfl) (hP.sub [0, 1] rfl) (hD.sub [0, 1] (by decide) rfl) hS ls (lv_sub hl [0] rfl)
  · skip
    have k5 := hI_13.2.2.2.2.1
    have L4 : ∀ (nF : Nat) (p1 : Nat) (k1 : Nat) (w1 : Int32) (f1 : Nat → Int32), E - p1 < nF → (p0 ≤ p1 ∧ p1 ≤ E) → (PF a fS f1) → (w1 = 1 ∨ (w1 = 0 ∧ p0 + 3 ≤ p1 ∧ PI f1 a k1 (d + 1) p1 E ∧ k1 + p0 ≤ k + p1)) → ∀ (H : Heap) (locs : List Loc), va_K (dC, dI) vwCl [(cS, .int)] s → va_P (dC, dI) vwCl [(zo14irriiiiiirriirrrrlriiii m0 th aS aI im (nI a) (nI p1) (nI E) w1 2 aB aT se dn aG aO aN aD bv aY rn kd nu tv), (zaI aS cS 901 f1)] H → va_D A [(zo14irriiiiiirriirrrrlriiii m0 th aS aI im (nI a) (nI p1) (nI E) w1 2 aB aT se dn aG aO aN aD bv aY rn kd nu tv), (zaI aS cS 901 f1)] → va_S A s.heap H locs → ∀ (ls : Array Slot), lv_has ls 1 [(0, .ref m0)] → W p l e ({ frames := 15, cells := 0, slots := 0, locals := 323 } : Room) s m args below meth c H locs 0 0 Q (F0 m 4 ls []) := by
      intro nF
      induction nF with
      | zero => intro p1 k1 w1 f1 hm; exact absurd hm (Nat.not_lt_zero _)
      | succ nF ih4 =>
        intro p1 k1 w1 f1 hm h1 hF hw1 H locs hK hP hD hS ls hl
        obtain ⟨h1a, h1b⟩ := h1
        rcases hw1 with rfl | ⟨rfl, h3, hI, h4⟩
        · skip
          refine lv_aload_n hx hb dX12_every_4 rfl (lv_at hl 0 rfl) ?_
          refine va_get (D := (dC, dI)) (ci := 14) (v := .int 1) (C := RX12) (T := TX12) (N := 23) hx hb hts kc_every2_0 hown hK hP 0 rfl rfl 7 (by decide) (hts (.fieldLink RX12 65 "MistHeapsModel" "isWrong" "Z") kc_every2_1) (fun _ h9 => h9) rfl dX12_every_5 ?_
          refine lv_if_ne (tgt := 43) hx hb dX12_every_8 (by decide) (fun _ => ?_) (fun c_42 => absurd c_42 (by decide))
          rw [hQ]
          have hP9 := hP.sub (ws' := [(zo14irriiiiiirriirrrrlriiii m0 th aS aI im (nI a) (nI p1) (nI E) 1 2 aB aT se dn aG aO aN aD bv aY rn kd nu tv), (zaI aS cS 901 f1)]) [0, 1] rfl
          have hD9 := hD.sub (ws' := [(zo14irriiiiiirriirrrrlriiii m0 th aS aI im (nI a) (nI p1) (nI E) 1 2 aB aT se dn aG aO aN aD bv aY rn kd nu tv), (zaI aS cS 901 f1)]) [0, 1] (by decide) rfl
          have hK9 := hK.sub (tys' := [(cS, .int)]) [0] rfl
          exact W.vret hx hb hr (fun tQ htQ hWQ => ⟨⟨(f1, (nI p1), 1), rfl, ⟨p1, k, rfl, by omega, by omega, hF, Or.inl rfl⟩, by rw [htQ]; exact hP9, va_K.moved hWQ.alike hK9, hD9⟩, hS.F htQ⟩) hS.2.2 dX12_every_43
        · skip
          have k5 := hI.2.2.2.2.1
          refine lv_aload_n hx hb dX12_every_4 rfl (lv_at hl 0 rfl) ?_
          refine va_get (D := (dC, dI)) (ci := 14) (v := .int 0) (C := RX12) (T := TX12) (N := 23) hx hb hts kc_every2_0 hown hK hP 0 rfl rfl 7 (by decide) (hts (.fieldLink RX12 65 "MistHeapsModel" "isWrong" "Z") kc_every2_1) (fun _ h9 => h9) rfl dX12_every_5 ?_
          refine lv_if_ne (tgt := 43) hx hb dX12_every_8 (by decide) (fun c_43 => absurd c_43 (by decide)) (fun _ => ?_)
          refine lv_aload_n hx hb dX12_every_11 rfl (lv_at hl 0 rfl) ?_
          have hPc := hP.sub (ws' := [(zo14irriiiiiirriirrrrlriiii m0 th aS aI im (nI a) (nI p1) (nI E) 0 2 aB aT se dn aG aO aN aD bv aY rn kd nu tv), (zaI aS cS 901 f1)]) [0, 1] rfl
          have hKc := hK.sub (tys' := [(cS, .int)]) [0] rfl
          refine vp_callSi (va_runV (As := []) (rest := []) ⟨hx, hb, hml, hown, hts⟩ (c_here l dC dI m0 aS aI aB aT aG aO aN aD aY th im (nI a) (nI p1) (nI E) 0 2 se dn rn kd nu tv bv cS f1 a p1 E (by omega) (by omega) (by omega)) (cwV 0 hts gX12_every_X12_here rfl rfl rfl hd_yX12_here ⟨Nat.le_of_ble_eq_true rfl, Nat.le_of_ble_eq_true rfl⟩) ⟨fun a U g mk q => by obtain ⟨q0, qP, qK⟩ := q; exact ⟨q0, qP, va_K.moved (u := U) (U := U.calling g mk a) (Vm.Alike.refl U.vm) qK⟩, va_recv hK hP (ci := 14) (q := (RX12, TX12, 23)) (q0 := 0) rfl rfl, fun U hU hW => ⟨rfl, by rw [hU]; exact hPc, va_K.moved hW.alike hKc⟩⟩ rfl rfl hl.1 rfl (lv_room (Nat.le_of_ble_eq_true rfl)) dX12_every_12 ⟨Nat.le_of_ble_eq_true rfl, Nat.le_of_ble_eq_true rfl⟩).run (fun r_44 hw_45 => ?_)
          refine lv_bipush (v := 38) hx hb dX12_every_15 (by decide) ?_
          refine lv_icmp_ne (tgt := 43) hx hb dX12_every_17 (by decide) (fun c_46 => ?_) (fun c_46 => ?_)
          · skip
            rw [hQ]
            have hP9 := hP.sub (ws' := [(zo14irriiiiiirriirrrrlriiii m0 th aS aI im (nI a) (nI p1) (nI E) 0 2 aB aT se dn aG aO aN aD bv aY rn kd nu tv), (zaI aS cS 901 f1)]) [0, 1] rfl
            have hD9 := hD.sub (ws' := [(zo14irriiiiiirriirrrrlriiii m0 th aS aI im (nI a) (nI p1) (nI E) 0 2 aB aT se dn aG aO aN aD bv aY rn kd nu tv), (zaI aS cS 901 f1)]) [0, 1] (by decide) rfl
            have hK9 := hK.sub (tys' := [(cS, .int)]) [0] rfl
            exact W.vret hx hb hr (fun tQ htQ hWQ => ⟨⟨(f1, (nI p1), 0), rfl, ⟨p1, k1, rfl, by omega, by omega, hF, Or.inr ⟨rfl, by omega, hI, by omega⟩⟩, by rw [htQ]; exact hP9, va_K.moved hWQ.alike hK9, hD9⟩, hS.F htQ⟩) hS.2.2 dX12_every_43
          · skip
            have hlt : p1 < E := hv_lt (f := f1) (by rw [← hw_45, c_46]; decide)
            refine lv_aload_n hx hb dX12_every_20 rfl (lv_at hl 0 rfl) ?_
            refine lv_dup hx hb dX12_every_21 rfl ?_
            refine va_get (D := (dC, dI)) (ci := 14) (v := .int (nI p1)) (C := RX12) (T := TX12) (N := 23) hx hb hts kc_every2_0 hown hK hP 0 rfl rfl 5 (by decide) (hts (.fieldLink RX12 59 "MistHeapsModel" "spot" "I") kc_every2_2) (fun _ h9 => h9) rfl dX12_every_22 ?_
            refine lv_iconst (v := 1) hx hb dX12_every_25 (by decide) ?_
            refine lv_iadd hx hb dX12_every_26 ?_
            refine qi_as (y := nI (p1 + 1)) (nI_add p1 1) ?_
            refine va_put (D := (dC, dI)) (ci := 14) (v := .int (nI (p1 + 1))) (ty := .int) (C := RX12) (T := TX12) (N := 23) hx hb hts kc_every2_0 tyX12 tyX12_ok nmX12 hown hK hP hD hS 0 rfl rfl 5 (by decide) (hts (.fieldLink RX12 59 "MistHeapsModel" "spot" "I") kc_every2_2) (fun _ h9 => h9) rfl (by decide +kernel) rfl rfl (Nat.le_of_ble_eq_true rfl) dX12_every_27 (fun H locs hP hD hS => ?_)
            have hP : va_P (dC, dI) vwCl [(zo14irriiiiiirriirrrrlriiii m0 th aS aI im (nI a) (nI (p1 + 1)) (nI E) 0 2 aB aT se dn aG aO aN aD bv aY rn kd nu tv), (zaI aS cS 901 f1)] H := hP
            have hD : va_D A [(zo14irriiiiiirriirrrrlriiii m0 th aS aI im (nI a) (nI (p1 + 1)) (nI E) 0 2 aB aT se dn aG aO aN aD bv aY rn kd nu tv), (zaI aS cS 901 f1)] := hD
            refine lv_aload_n hx hb dX12_every_30 rfl (lv_at hl 0 rfl) ?_
            have hPc := hP.sub (ws' := [(zo14irriiiiiirriirrrrlriiii m0 th aS aI im (nI a) (nI (p1 + 1)) (nI E) 0 2 aB aT se dn aG aO aN aD bv aY rn kd nu tv), (zaI aS cS 901 f1)]) [0, 1] rfl
            have hDc := hD.sub (ws' := [(zo14irriiiiiirriirrrrlriiii m0 th aS aI im (nI a) (nI (p1 + 1)) (nI E) 0 2 aB aT se dn aG aO aN aD bv aY rn kd nu tv), (zaI aS cS 901 f1)]) [0, 1] (by decide) rfl
            have hKc := hK.sub (tys' := [(cS, .int)]) [0] rfl
            have hFc := va_free (wc := [(zo14irriiiiiirriirrrrlriiii m0 th aS aI im (nI a) (nI (p1 + 1)) (nI E) 0 2 aB aT se dn aG aO aN aD bv aY rn kd nu tv), (zaI aS cS 901 f1)]) hD hS hA [0, 1] rfl
            refine va_callv (va_runV (As := []) (rest := []) ⟨hx, hb, hml, hown, hts⟩ (c_factor2 l dC dI sK sV m0 aS aI aB aT aG aO aN aD aY th im (nI a) (nI (p1 + 1)) (nI E) 0 2 se dn rn kd nu tv bv cS f1 a (p1 + 1) E k1 (d + 1) H.size ((hI).mono (by omega) (by omega))) (cwV 0 hts gX12_every_X12_factor rfl rfl rfl hd_yX12_factor ⟨Nat.le_of_ble_eq_true rfl, Nat.le_of_ble_eq_true rfl⟩) ⟨fun a U g mk q => by obtain ⟨q0, q1, qP, qK, qD, qhE⟩ := q; exact ⟨q0, q1, qP, va_K.moved (u := U) (U := U.calling g mk a) (Vm.Alike.refl U.vm) qK, qD, qhE.same rfl rfl⟩, va_recv hK hP (ci := 14) (q := (RX12, TX12, 23)) (q0 := 0) rfl rfl, fun U hU hW => ⟨rfl, by rw [hU], by rw [hU]; exact hPc, va_K.moved hW.alike hKc, hDc.weaken (fun _ _ _ _ => trivial), hE.call hS hU hW (fun q h => hFc q h)⟩⟩ rfl rfl hl.1 rfl (lv_room (Nat.le_of_ble_eq_true rfl)) dX12_every_31 ⟨Nat.le_of_ble_eq_true rfl, Nat.le_of_ble_eq_true rfl⟩) hS (fun q _ h => hFc q h) hFc (fun u tC H1 locs htC hvm hw_48 hB hz1 hk1 hS => ?_)
            obtain ⟨fS9_49, sp9_50, wg9_51⟩ := u
            try dsimp only at hw_48 hB
            obtain ⟨hP1, hK1, hD1⟩ := hB
            rw [htC] at hP1
            have hK1 := va_K.moved hvm.symm hK1
            obtain ⟨hP, hD⟩ := va_join (wr := []) (w1 := [(zo14irriiiiiirriirrrrlriiii m0 th aS aI im (nI a) sp9_50 (nI E) wg9_51 2 aB aT se dn aG aO aN aD bv aY rn kd nu tv), (zaI aS cS 901 fS9_49)]) hP hD [0, 1] [] rfl rfl (by decide) (by decide) hk1 hFc hP1 hD1
            have hK := (hK.sub (tys' := []) [] rfl).app hK1
            generalize H1 = H at hP hS ⊢
            have hP : va_P (dC, dI) vwCl [(zo14irriiiiiirriirrrrlriiii m0 th aS aI im (nI a) sp9_50 (nI E) wg9_51 2 aB aT se dn aG aO aN aD bv aY rn kd nu tv), (zaI aS cS 901 fS9_49)] H := hP
            have hD : va_D A [(zo14irriiiiiirriirrrrlriiii m0 th aS aI im (nI a) sp9_50 (nI E) wg9_51 2 aB aT se dn aG aO aN aD bv aY rn kd nu tv), (zaI aS cS 901 fS9_49)] := hD
            have hK : va_K (dC, dI) vwCl [(cS, .int)] s := hK
            obtain ⟨p_52, k_53, rfl, h_55, h_56, hF_57, q9⟩ := hw_48
            rcases q9 with rfl | ⟨rfl, h_58, hI_59, h_60⟩
            · skip
              refine lv_aload_n hx hb dX12_every_34 rfl (lv_at hl 0 rfl) ?_
              refine lv_bipush (v := (-2)) hx hb dX12_every_35 (by decide) ?_
              have hPc := hP.sub (ws' := [(zo14irriiiiiirriirrrrlriiii m0 th aS aI im (nI a) (nI p_52) (nI E) 1 2 aB aT se dn aG aO aN aD bv aY rn kd nu tv)]) [0] rfl
              have hKc := hK.sub (tys' := []) [] rfl
              refine va_csv (va_runV (As := [.int (-2)]) (rest := []) ⟨hx, hb, hml, hown, hts⟩ (c_emitsW l dC dI m0 aS aI aB aT aG aO aN aD aY th im (nI a) (nI p_52) (nI E) 1 2 se dn rn kd nu tv bv (-2)) (cwV 1 hts gX12_every_X12_emits rfl rfl rfl hd_yX12_emits ⟨Nat.le_of_ble_eq_true rfl, Nat.le_of_ble_eq_true rfl⟩) ⟨fun a U g mk q => by obtain ⟨q0, qP, qK⟩ := q; exact ⟨q0, qP, va_K.moved (u := U) (U := U.calling g mk a) (Vm.Alike.refl U.vm) qK⟩, va_recv hK hP (ci := 14) (q := (RX12, TX12, 23)) (q0 := 0) rfl rfl, fun U hU hW => ⟨rfl, by rw [hU]; exact hPc, va_K.moved hW.alike hKc⟩⟩ rfl rfl hl.1 rfl (lv_room (Nat.le_of_ble_eq_true rfl)) dX12_every_37 ⟨Nat.le_of_ble_eq_true rfl, Nat.le_of_ble_eq_true rfl⟩).run (fun hw_62 => ?_)
              refine lv_goto (tgt := 4) hx hb dX12_every_40 (by decide) ?_
              exact ih4 (p_52) (k) (1) (fS9_49) (by omega) (by omega) ((hF).tr hF_57) (Or.inl rfl) _ _ (hK.sub [0] rfl) (hP.sub [0, 1] rfl) (hD.sub [0, 1] (by decide) rfl) hS ls (lv_sub hl [0] rfl)
            · skip
              have k5 := hI_59.2.2.2.2.1
              refine lv_aload_n hx hb dX12_every_34 rfl (lv_at hl 0 rfl) ?_
              refine lv_bipush (v := (-2)) hx hb dX12_every_35 (by decide) ?_
              have hPc := hP.sub (ws' := [(zo14irriiiiiirriirrrrlriiii m0 th aS aI im (nI a) (nI p_52) (nI E) 0 2 aB aT se dn aG aO aN aD bv aY rn kd nu tv), (zaI aS cS 901 fS9_49)]) [0, 1] rfl
              have hDc := hD.sub (ws' := [(zo14irriiiiiirriirrrrlriiii m0 th aS aI im (nI a) (nI p_52) (nI E) 0 2 aB aT se dn aG aO aN aD bv aY rn kd nu tv), (zaI aS cS 901 fS9_49)]) [0, 1] (by decide) rfl
              have hKc := hK.sub (tys' := [(cS, .int)]) [0] rfl
              have hFc := va_free (wc := [(zo14irriiiiiirriirrrrlriiii m0 th aS aI im (nI a) (nI p_52) (nI E) 0 2 aB aT se dn aG aO aN aD bv aY rn kd nu tv), (zaI aS cS 901 fS9_49)]) hD hS hA [0, 1] rfl
              refine va_callv (va_runV (As := [.int (-2)]) (rest := []) ⟨hx, hb, hml, hown, hts⟩ (c_emits l dC dI m0 aS aI aB aT aG aO aN aD aY th im (nI a) (nI p_52) (nI E) 0 2 se dn rn kd nu tv bv cS fS9_49 a k_53 (-2) H.size (ga) ((hI_59).2.2.2.1) (by have := (hI_59).2.2.2.2.1; omega)) (cwV 1 hts gX12_every_X12_emits rfl rfl rfl hd_yX12_emits ⟨Nat.le_of_ble_eq_true rfl, Nat.le_of_ble_eq_true rfl⟩) ⟨fun a U g mk q => by obtain ⟨q0, q1, qP, qK, qD⟩ := q; exact ⟨q0, q1, qP, va_K.moved (u := U) (U := U.calling g mk a) (Vm.Alike.refl U.vm) qK, qD⟩, va_recv hK hP (ci := 14) (q := (RX12, TX12, 23)) (q0 := 0) rfl rfl, fun U hU hW => ⟨rfl, by rw [hU], by rw [hU]; exact hPc, va_K.moved hW.alike hKc, hDc.weaken (fun _ _ _ _ => trivial)⟩⟩ rfl rfl hl.1 rfl (lv_room (Nat.le_of_ble_eq_true rfl)) dX12_every_37 ⟨Nat.le_of_ble_eq_true rfl, Nat.le_of_ble_eq_true rfl⟩) hS (fun q _ h => hFc q h) hFc (fun u tC H1 locs htC hvm hw_64 hB hz1 hk1 hS => ?_)
              obtain ⟨fS9_65, rfl⟩ : ∃ z, z = u := ⟨_, rfl⟩
              try dsimp only at hw_64 hB
              obtain ⟨hP1, hK1, hD1⟩ := hB
              rw [htC] at hP1
              have hK1 := va_K.moved hvm.symm hK1
              obtain ⟨hP, hD⟩ := va_join (wr := []) (w1 := [(zo14irriiiiiirriirrrrlriiii m0 th aS aI im (nI a) (nI p_52) (nI E) 0 2 aB aT se dn aG aO aN aD bv aY rn kd nu tv), (zaI aS cS 901 fS9_65)]) hP hD [0, 1] [] rfl rfl (by decide) (by decide) hk1 hFc hP1 hD1
              have hK := (hK.sub (tys' := []) [] rfl).app hK1
              generalize H1 = H at hP hS ⊢
              have hP : va_P (dC, dI) vwCl [(zo14irriiiiiirriirrrrlriiii m0 th aS aI im (nI a) (nI p_52) (nI E) 0 2 aB aT se dn aG aO aN aD bv aY rn kd nu tv), (zaI aS cS 901 fS9_65)] H := hP
              have hD : va_D A [(zo14irriiiiiirriirrrrlriiii m0 th aS aI im (nI a) (nI p_52) (nI E) 0 2 aB aT se dn aG aO aN aD bv aY rn kd nu tv), (zaI aS cS 901 fS9_65)] := hD
              have hK : va_K (dC, dI) vwCl [(cS, .int)] s := hK
              obtain rfl : fS9_65 = emt fS9_49 a k_53 (-2) := by rcases hw_64 with ⟨q, _⟩ | ⟨_, q⟩; exact absurd rfl q; exact q
              have hI_67 : PI (emt fS9_49 a k_53 (-2)) a (k_53 + 1) (((d + 1) + 1) - 1) p_52 E := ((hI_59).mono (by omega) (by omega)).em (by omega) (by omega) (stepd_both (by omega))
              have hF_68 : PF a fS (emt fS9_49 a k_53 (-2)) := ((hF).tr hF_57).tr (PF_emt (k := k_53) (x := (-2)) ga (by have := (hI_59).2.2.2.2.1; omega))
              refine lv_goto (tgt := 4) hx hb dX12_every_40 (by decide) ?_
              exact ih4 (p_52) ((k_53 + 1)) (0) (emt fS9_49 a k_53 (-2)) (by omega) (by omega) (hF_68) (Or.inr ⟨rfl, by omega, hI_67, by omega⟩) _ _ (hK.sub [0] rfl) (hP.sub [0, 1] rfl) (hD.sub [0, 1] (by decide) rfl) hS ls (lv_sub hl [0] rfl)
    exact L4 _ (p_6) (k_7) (0) (fS9_3) (Nat.lt_succ_self _) (by omega) ((PF.rf).tr hF_11) (Or.inr ⟨rfl, by omega, hI_13, by omega⟩) _ _ (hK.sub [0] rfl) (hP.sub [0, 1] rfl) (hD.sub [0, 1] (by decide) rfl) hS ls (lv_sub hl [0] rfl)

theorem kc_some2_0 : ∀ w ∈ wsX120, w ∈ wsX12_some := fun w h => List.mem_cons_of_mem _ (gin_wsX120 w h)
theorem kc_some2_1 : (.fieldLink RX12 65 "MistHeapsModel" "isWrong" "Z" : Cond) ∈ wsX12_some := kc_of 1147 rfl rfl rfl
theorem kc_some2_2 : (.fieldLink RX12 59 "MistHeapsModel" "spot" "I" : Cond) ∈ wsX12_some := kc_of 1145 rfl rfl rfl
set_option maxHeartbeats 4000000 in
set_option maxRecDepth 100000 in
theorem c_some2 (l : Launch) (dC : Nat → ClassId) (dI : Nat → Nat → Nat) (sK sV : Nat → Nat) (m0 aS aI aB aT aG aO aN aD aY : Nat) (th im ac sp en wg op se dn rn kd nu tv : Int32) (bv : Int64) (cS : ClassId) (fS : Nat → Int32) (a p0 E k d : Nat) (sz : Nat) (gI : PI fS a k d p0 E) : Met l yX12_some wsX12_some ({ frames := 16, cells := 0, slots := 0, locals := 343 } : Room) (va_Pc [.ref m0] (fun U => U.heap.size = sz ∧ va_P (dC, dI) vwCl [(zo14irriiiiiirriirrrrlriiii m0 th aS aI im (nI a) (nI p0) (nI E) 0 2 aB aT se dn aG aO aN aD bv aY rn kd nu tv), (zaI aS cS 901 fS)] U.heap ∧ va_K (dC, dI) vwCl [(cS, .int)] U ∧ va_D (fun _ => True) [(zo14irriiiiiirriirrrrlriiii m0 th aS aI im (nI a) (nI p0) (nI E) 0 2 aB aT se dn aG aO aN aD bv aY rn kd nu tv), (zaI aS cS 901 fS)] ∧ Gs sK sV (va_A [(zo14irriiiiiirriirrrrlriiii m0 th aS aI im (nI a) (nI p0) (nI E) 0 2 aB aT se dn aG aO aN aD bv aY rn kd nu tv), (zaI aS cS 901 fS)] sz) U)) (va_Qv (fun (u : (Nat → Int32) × (Int32) × (Int32)) => match u with | (fS9, sp9, wg9) => ∃ p9 k9 : Nat, sp9 = nI p9 ∧ p0 ≤ p9 ∧ p9 ≤ E ∧ PF a fS fS9 ∧ (wg9 = 1 ∨ (wg9 = 0 ∧ p0 + 3 ≤ p9 ∧ PI fS9 a k9 (d + 1) p9 E ∧ k9 + p0 ≤ k + p9))) (fun (u : (Nat → Int32) × (Int32) × (Int32)) (t : State) => match u with | (fS9, sp9, wg9) => va_P (dC, dI) vwCl [(zo14irriiiiiirriirrrrlriiii m0 th aS aI im (nI a) sp9 (nI E) wg9 2 aB aT se dn aG aO aN aD bv aY rn kd nu tv), (zaI aS cS 901 fS9)] t.heap ∧ va_K (dC, dI) vwCl [(cS, .int)] t ∧ va_D (va_A [(zo14irriiiiiirriirrrrlriiii m0 th aS aI im (nI a) (nI p0) (nI E) 0 2 aB aT se dn aG aO aN aD bv aY rn kd nu tv), (zaI aS cS 901 fS)] sz) [(zo14irriiiiiirriirrrrlriiii m0 th aS aI im (nI a) sp9 (nI E) wg9 2 aB aT se dn aG aO aN aD bv aY rn kd nu tv), (zaI aS cS 901 fS9)]) (va_A [(zo14irriiiiiirriirrrrlriiii m0 th aS aI im (nI a) (nI p0) (nI E) 0 2 aB aT se dn aG aO aN aD bv aY rn kd nu tv), (zaI aS cS 901 fS)] sz)) 0 0 (va_A [(zo14irriiiiiirriirrrrlriiii m0 th aS aI im (nI a) (nI p0) (nI E) 0 2 aB aT se dn aG aO aN aD bv aY rn kd nu tv), (zaI aS cS 901 fS)] sz) := by
  refine met_ofQ (cc := cX12_some) (maxL := 1) (ret := none) (by decide) rfl ?_
  intro p e s m args below meth c s₁ Q B hml hv hQ
  obtain ⟨rfl, hsz, hP, hK, hD0, hE⟩ := hv
  have hx := B.exec
  have hb := B.bytes
  have hr := B.returns
  have hts := atoms_spec (ws := wsX12_some) B.pre
  have hown : s.vm.findClass RX12 = some m.cls := findClass_of_methodNamed B.named
  have hlocks := B.notSynchronized
  subst hsz
  have hD := hD0.self (sz := s.heap.size)
  generalize hAe : va_A [(zo14irriiiiiirriirrrrlriiii m0 th aS aI im (nI a) (nI p0) (nI E) 0 2 aB aT se dn aG aO aN aD bv aY rn kd nu tv), (zaI aS cS 901 fS)] s.heap.size = A at hD hQ hE ⊢
  have hA : ∀ q : Nat, s.heap.size ≤ q → A q := fun q h => by rw [← hAe]; exact Or.inr h
  have hS : va_S A s.heap s.heap [] := va_S.rf
  have hl := lv_entry [.ref m0] (n := 1) (Nat.le_of_ble_eq_true rfl)
  rw [lg_entry_eq]
  generalize (lg_sl [.ref m0] ++ List.replicate (1 - (lg_sl [.ref m0]).length) Slot.unset).toArray = ls at hl ⊢
  generalize hag : ([.ref m0] : List Value).toArray = args at hts hQ ⊢
  have hl : lv_has ls 1 [(0, .ref m0)] := hl
  obtain ⟨H, hH⟩ : ∃ H : Heap, H = s.heap := ⟨_, rfl⟩
  rw [← hH] at hP
  rw [← hH]
  have hS : va_S A s.heap H [] := by rw [hH]; exact hS
  obtain ⟨locs, hlo⟩ : ∃ L : List Loc, L = [] := ⟨_, rfl⟩
  rw [← hlo] at hS
  rw [← hlo]
  clear hH hlo
  obtain ⟨ga, gp, gE, zk, gkp, gd, gs⟩ := id gI
  refine lv_aload_n hx hb dX12_some_0 rfl (lv_at hl 0 rfl) ?_
  have hPc := hP.sub (ws' := [(zo14irriiiiiirriirrrrlriiii m0 th aS aI im (nI a) (nI p0) (nI E) 0 2 aB aT se dn aG aO aN aD bv aY rn kd nu tv), (zaI aS cS 901 fS)]) [0, 1] rfl
  have hDc := hD.sub (ws' := [(zo14irriiiiiirriirrrrlriiii m0 th aS aI im (nI a) (nI p0) (nI E) 0 2 aB aT se dn aG aO aN aD bv aY rn kd nu tv), (zaI aS cS 901 fS)]) [0, 1] (by decide) rfl
  have hKc := hK.sub (tys' := [(cS, .int)]) [0] rfl
  have hFc := va_free (wc := [(zo14irriiiiiirriirrrrlriiii m0 th aS aI im (nI a) (nI p0) (nI E) 0 2 aB aT se dn aG aO aN aD bv aY rn kd nu tv), (zaI aS cS 901 fS)]) hD hS hA [0, 1] rfl
  refine va_callv (va_runV (As := []) (rest := []) ⟨hx, hb, hml, hown, hts⟩ (c_every2 l dC dI sK sV m0 aS aI aB aT aG aO aN aD aY th im (nI a) (nI p0) (nI E) 0 2 se dn rn kd nu tv bv cS fS a p0 E k d H.size ((gI).mono (by omega) (by omega))) (cwV 0 hts gX12_some_X12_every rfl rfl rfl hd_yX12_every ⟨Nat.le_of_ble_eq_true rfl, Nat.le_of_ble_eq_true rfl⟩) ⟨fun a U g mk q => by obtain ⟨q0, q1, qP, qK, qD, qhE⟩ := q; exact ⟨q0, q1, qP, va_K.moved (u := U) (U := U.calling g mk a) (Vm.Alike.refl U.vm) qK, qD, qhE.same rfl rfl⟩, va_recv hK hP (ci := 14) (q := (RX12, TX12, 23)) (q0 := 0) rfl rfl, fun U hU hW => ⟨rfl, by rw [hU], by rw [hU]; exact hPc, va_K.moved hW.alike hKc, hDc.weaken (fun _ _ _ _ => trivial), hE.call hS hU hW (fun q h => hFc q h)⟩⟩ rfl rfl hl.1 rfl (lv_room (Nat.le_of_ble_eq_true rfl)) dX12_some_1 ⟨Nat.le_of_ble_eq_true rfl, Nat.le_of_ble_eq_true rfl⟩) hS (fun q _ h => hFc q h) hFc (fun u tC H1 locs htC hvm hw_2 hB hz1 hk1 hS => ?_)
  obtain ⟨fS9_3, sp9_4, wg9_5⟩ := u
  try dsimp only at hw_2 hB
  obtain ⟨hP1, hK1, hD1⟩ := hB
  rw [htC] at hP1
  have hK1 := va_K.moved hvm.symm hK1
  obtain ⟨hP, hD⟩ := va_join (wr := []) (w1 := [(zo14irriiiiiirriirrrrlriiii m0 th aS aI im (nI a) sp9_4 (nI E) wg9_5 2 aB aT se dn aG aO aN aD bv aY rn kd nu tv), (zaI aS cS 901 fS9_3)]) hP hD [0, 1] [] rfl rfl (by decide) (by decide) hk1 hFc hP1 hD1
  have hK := (hK.sub (tys' := []) [] rfl).app hK1
  generalize H1 = H at hP hS ⊢
  have hP : va_P (dC, dI) vwCl [(zo14irriiiiiirriirrrrlriiii m0 th aS aI im (nI a) sp9_4 (nI E) wg9_5 2 aB aT se dn aG aO aN aD bv aY rn kd nu tv), (zaI aS cS 901 fS9_3)] H := hP
  have hD : va_D A [(zo14irriiiiiirriirrrrlriiii m0 th aS aI im (nI a) sp9_4 (nI E) wg9_5 2 aB aT se dn aG aO aN aD bv aY rn kd nu tv), (zaI aS cS 901 fS9_3)] := hD
  have hK : va_K (dC, dI) vwCl [(cS, .int)] s := hK
  obtain ⟨p_6, k_7, rfl, h_9, h_10, hF_11, q9⟩ := hw_2
  rcases q9 with rfl | ⟨rfl, h_12, hI_13, h_14⟩
  · skip
    have L4 : ∀ (nF : Nat) (p1 : Nat) (k1 : Nat) (w1 : Int32) (f1 : Nat → Int32), E - p1 < nF → (p0 ≤ p1 ∧ p1 ≤ E) → (PF a fS f1) → (w1 = 1 ∨ (w1 = 0 ∧ p0 + 3 ≤ p1 ∧ PI f1 a k1 (d + 1) p1 E ∧ k1 + p0 ≤ k + p1)) → ∀ (H : Heap) (locs : List Loc), va_K (dC, dI) vwCl [(cS, .int)] s → va_P (dC, dI) vwCl [(zo14irriiiiiirriirrrrlriiii m0 th aS aI im (nI a) (nI p1) (nI E) w1 2 aB aT se dn aG aO aN aD bv aY rn kd nu tv), (zaI aS cS 901 f1)] H → va_D A [(zo14irriiiiiirriirrrrlriiii m0 th aS aI im (nI a) (nI p1) (nI E) w1 2 aB aT se dn aG aO aN aD bv aY rn kd nu tv), (zaI aS cS 901 f1)] → va_S A s.heap H locs → ∀ (ls : Array Slot), lv_has ls 1 [(0, .ref m0)] → W p l e ({ frames := 16, cells := 0, slots := 0, locals := 343 } : Room) s m args below meth c H locs 0 0 Q (F0 m 4 ls []) := by
      intro nF
      induction nF with
      | zero => intro p1 k1 w1 f1 hm; exact absurd hm (Nat.not_lt_zero _)
      | succ nF ih4 =>
        intro p1 k1 w1 f1 hm h1 hF hw1 H locs hK hP hD hS ls hl
        obtain ⟨h1a, h1b⟩ := h1
        rcases hw1 with rfl | ⟨rfl, h3, hI, h4⟩
        · skip
          refine lv_aload_n hx hb dX12_some_4 rfl (lv_at hl 0 rfl) ?_
          refine va_get (D := (dC, dI)) (ci := 14) (v := .int 1) (C := RX12) (T := TX12) (N := 23) hx hb hts kc_some2_0 hown hK hP 0 rfl rfl 7 (by decide) (hts (.fieldLink RX12 65 "MistHeapsModel" "isWrong" "Z") kc_some2_1) (fun _ h9 => h9) rfl dX12_some_5 ?_
          refine lv_if_ne (tgt := 43) hx hb dX12_some_8 (by decide) (fun _ => ?_) (fun c_15 => absurd c_15 (by decide))
          rw [hQ]
          have hP9 := hP.sub (ws' := [(zo14irriiiiiirriirrrrlriiii m0 th aS aI im (nI a) (nI p1) (nI E) 1 2 aB aT se dn aG aO aN aD bv aY rn kd nu tv), (zaI aS cS 901 f1)]) [0, 1] rfl
          have hD9 := hD.sub (ws' := [(zo14irriiiiiirriirrrrlriiii m0 th aS aI im (nI a) (nI p1) (nI E) 1 2 aB aT se dn aG aO aN aD bv aY rn kd nu tv), (zaI aS cS 901 f1)]) [0, 1] (by decide) rfl
          have hK9 := hK.sub (tys' := [(cS, .int)]) [0] rfl
          exact W.vret hx hb hr (fun tQ htQ hWQ => ⟨⟨(f1, (nI p1), 1), rfl, ⟨p1, k, rfl, by omega, by omega, hF, Or.inl rfl⟩, by rw [htQ]; exact hP9, va_K.moved hWQ.alike hK9, hD9⟩, hS.F htQ⟩) hS.2.2 dX12_some_43
        · skip
          have k5 := hI.2.2.2.2.1
          refine lv_aload_n hx hb dX12_some_4 rfl (lv_at hl 0 rfl) ?_
          refine va_get (D := (dC, dI)) (ci := 14) (v := .int 0) (C := RX12) (T := TX12) (N := 23) hx hb hts kc_some2_0 hown hK hP 0 rfl rfl 7 (by decide) (hts (.fieldLink RX12 65 "MistHeapsModel" "isWrong" "Z") kc_some2_1) (fun _ h9 => h9) rfl dX12_some_5 ?_
          refine lv_if_ne (tgt := 43) hx hb dX12_some_8 (by decide) (fun c_16 => absurd c_16 (by decide)) (fun _ => ?_)
          refine lv_aload_n hx hb dX12_some_11 rfl (lv_at hl 0 rfl) ?_
          have hPc := hP.sub (ws' := [(zo14irriiiiiirriirrrrlriiii m0 th aS aI im (nI a) (nI p1) (nI E) 0 2 aB aT se dn aG aO aN aD bv aY rn kd nu tv), (zaI aS cS 901 f1)]) [0, 1] rfl
          have hKc := hK.sub (tys' := [(cS, .int)]) [0] rfl
          refine vp_callSi (va_runV (As := []) (rest := []) ⟨hx, hb, hml, hown, hts⟩ (c_here l dC dI m0 aS aI aB aT aG aO aN aD aY th im (nI a) (nI p1) (nI E) 0 2 se dn rn kd nu tv bv cS f1 a p1 E (by omega) (by omega) (by omega)) (cwV 0 hts gX12_some_X12_here rfl rfl rfl hd_yX12_here ⟨Nat.le_of_ble_eq_true rfl, Nat.le_of_ble_eq_true rfl⟩) ⟨fun a U g mk q => by obtain ⟨q0, qP, qK⟩ := q; exact ⟨q0, qP, va_K.moved (u := U) (U := U.calling g mk a) (Vm.Alike.refl U.vm) qK⟩, va_recv hK hP (ci := 14) (q := (RX12, TX12, 23)) (q0 := 0) rfl rfl, fun U hU hW => ⟨rfl, by rw [hU]; exact hPc, va_K.moved hW.alike hKc⟩⟩ rfl rfl hl.1 rfl (lv_room (Nat.le_of_ble_eq_true rfl)) dX12_some_12 ⟨Nat.le_of_ble_eq_true rfl, Nat.le_of_ble_eq_true rfl⟩).run (fun r_17 hw_18 => ?_)
          refine lv_bipush (v := 124) hx hb dX12_some_15 (by decide) ?_
          refine lv_icmp_ne (tgt := 43) hx hb dX12_some_17 (by decide) (fun c_19 => ?_) (fun c_19 => ?_)
          · skip
            rw [hQ]
            have hP9 := hP.sub (ws' := [(zo14irriiiiiirriirrrrlriiii m0 th aS aI im (nI a) (nI p1) (nI E) 0 2 aB aT se dn aG aO aN aD bv aY rn kd nu tv), (zaI aS cS 901 f1)]) [0, 1] rfl
            have hD9 := hD.sub (ws' := [(zo14irriiiiiirriirrrrlriiii m0 th aS aI im (nI a) (nI p1) (nI E) 0 2 aB aT se dn aG aO aN aD bv aY rn kd nu tv), (zaI aS cS 901 f1)]) [0, 1] (by decide) rfl
            have hK9 := hK.sub (tys' := [(cS, .int)]) [0] rfl
            exact W.vret hx hb hr (fun tQ htQ hWQ => ⟨⟨(f1, (nI p1), 0), rfl, ⟨p1, k1, rfl, by omega, by omega, hF, Or.inr ⟨rfl, by omega, hI, by omega⟩⟩, by rw [htQ]; exact hP9, va_K.moved hWQ.alike hK9, hD9⟩, hS.F htQ⟩) hS.2.2 dX12_some_43
          · skip
            have hlt : p1 < E := hv_lt (f := f1) (by rw [← hw_18, c_19]; decide)
            refine lv_aload_n hx hb dX12_some_20 rfl (lv_at hl 0 rfl) ?_
            refine lv_dup hx hb dX12_some_21 rfl ?_
            refine va_get (D := (dC, dI)) (ci := 14) (v := .int (nI p1)) (C := RX12) (T := TX12) (N := 23) hx hb hts kc_some2_0 hown hK hP 0 rfl rfl 5 (by decide) (hts (.fieldLink RX12 59 "MistHeapsModel" "spot" "I") kc_some2_2) (fun _ h9 => h9) rfl dX12_some_22 ?_
            refine lv_iconst (v := 1) hx hb dX12_some_25 (by decide) ?_
            refine lv_iadd hx hb dX12_some_26 ?_
            refine qi_as (y := nI (p1 + 1)) (nI_add p1 1) ?_
            refine va_put (D := (dC, dI)) (ci := 14) (v := .int (nI (p1 + 1))) (ty := .int) (C := RX12) (T := TX12) (N := 23) hx hb hts kc_some2_0 tyX12 tyX12_ok nmX12 hown hK hP hD hS 0 rfl rfl 5 (by decide) (hts (.fieldLink RX12 59 "MistHeapsModel" "spot" "I") kc_some2_2) (fun _ h9 => h9) rfl (by decide +kernel) rfl rfl (Nat.le_of_ble_eq_true rfl) dX12_some_27 (fun H locs hP hD hS => ?_)
            have hP : va_P (dC, dI) vwCl [(zo14irriiiiiirriirrrrlriiii m0 th aS aI im (nI a) (nI (p1 + 1)) (nI E) 0 2 aB aT se dn aG aO aN aD bv aY rn kd nu tv), (zaI aS cS 901 f1)] H := hP
            have hD : va_D A [(zo14irriiiiiirriirrrrlriiii m0 th aS aI im (nI a) (nI (p1 + 1)) (nI E) 0 2 aB aT se dn aG aO aN aD bv aY rn kd nu tv), (zaI aS cS 901 f1)] := hD
            refine lv_aload_n hx hb dX12_some_30 rfl (lv_at hl 0 rfl) ?_
            have hPc := hP.sub (ws' := [(zo14irriiiiiirriirrrrlriiii m0 th aS aI im (nI a) (nI (p1 + 1)) (nI E) 0 2 aB aT se dn aG aO aN aD bv aY rn kd nu tv), (zaI aS cS 901 f1)]) [0, 1] rfl
            have hDc := hD.sub (ws' := [(zo14irriiiiiirriirrrrlriiii m0 th aS aI im (nI a) (nI (p1 + 1)) (nI E) 0 2 aB aT se dn aG aO aN aD bv aY rn kd nu tv), (zaI aS cS 901 f1)]) [0, 1] (by decide) rfl
            have hKc := hK.sub (tys' := [(cS, .int)]) [0] rfl
            have hFc := va_free (wc := [(zo14irriiiiiirriirrrrlriiii m0 th aS aI im (nI a) (nI (p1 + 1)) (nI E) 0 2 aB aT se dn aG aO aN aD bv aY rn kd nu tv), (zaI aS cS 901 f1)]) hD hS hA [0, 1] rfl
            refine va_callv (va_runV (As := []) (rest := []) ⟨hx, hb, hml, hown, hts⟩ (c_every2 l dC dI sK sV m0 aS aI aB aT aG aO aN aD aY th im (nI a) (nI (p1 + 1)) (nI E) 0 2 se dn rn kd nu tv bv cS f1 a (p1 + 1) E k1 (d + 1) H.size ((hI).mono (by omega) (by omega))) (cwV 0 hts gX12_some_X12_every rfl rfl rfl hd_yX12_every ⟨Nat.le_of_ble_eq_true rfl, Nat.le_of_ble_eq_true rfl⟩) ⟨fun a U g mk q => by obtain ⟨q0, q1, qP, qK, qD, qhE⟩ := q; exact ⟨q0, q1, qP, va_K.moved (u := U) (U := U.calling g mk a) (Vm.Alike.refl U.vm) qK, qD, qhE.same rfl rfl⟩, va_recv hK hP (ci := 14) (q := (RX12, TX12, 23)) (q0 := 0) rfl rfl, fun U hU hW => ⟨rfl, by rw [hU], by rw [hU]; exact hPc, va_K.moved hW.alike hKc, hDc.weaken (fun _ _ _ _ => trivial), hE.call hS hU hW (fun q h => hFc q h)⟩⟩ rfl rfl hl.1 rfl (lv_room (Nat.le_of_ble_eq_true rfl)) dX12_some_31 ⟨Nat.le_of_ble_eq_true rfl, Nat.le_of_ble_eq_true rfl⟩) hS (fun q _ h => hFc q h) hFc (fun u tC H1 locs htC hvm hw_21 hB hz1 hk1 hS => ?_)
            obtain ⟨fS9_22, sp9_23, wg9_24⟩ := u
            try dsimp only at hw_21 hB
            obtain ⟨hP1, hK1, hD1⟩ := hB
            rw [htC] at hP1
            have hK1 := va_K.moved hvm.symm hK1
            obtain ⟨hP, hD⟩ := va_join (wr := []) (w1 := [(zo14irriiiiiirriirrrrlriiii m0 th aS aI im (nI a) sp9_23 (nI E) wg9_24 2 aB aT se dn aG aO aN aD bv aY rn kd nu tv), (zaI aS cS 901 fS9_22)]) hP hD [0, 1] [] rfl rfl (by decide) (by decide) hk1 hFc hP1 hD1
            have hK := (hK.sub (tys' := []) [] rfl).app hK1
            generalize H1 = H at hP hS ⊢
            have hP : va_P (dC, dI) vwCl [(zo14irriiiiiirriirrrrlriiii m0 th aS aI im (nI a) sp9_23 (nI E) wg9_24 2 aB aT se dn aG aO aN aD bv aY rn kd nu tv), (zaI aS cS 901 fS9_22)] H := hP
            have hD : va_D A [(zo14irriiiiiirriirrrrlriiii m0 th aS aI im (nI a) sp9_23 (nI E) wg9_24 2 aB aT se dn aG aO aN aD bv aY rn kd nu tv), (zaI aS cS 901 fS9_22)] := hD
            have hK : va_K (dC, dI) vwCl [(cS, .int)] s := hK
            obtain ⟨p_25, k_26, rfl, h_28, h_29, hF_30, q9⟩ := hw_21
            rcases q9 with rfl | ⟨rfl, h_31, hI_32, h_33⟩
            · skip
              refine lv_aload_n hx hb dX12_some_34 rfl (lv_at hl 0 rfl) ?_
              refine lv_bipush (v := (-3)) hx hb dX12_some_35 (by decide) ?_
              have hPc := hP.sub (ws' := [(zo14irriiiiiirriirrrrlriiii m0 th aS aI im (nI a) (nI p_25) (nI E) 1 2 aB aT se dn aG aO aN aD bv aY rn kd nu tv)]) [0] rfl
              have hKc := hK.sub (tys' := []) [] rfl
              refine va_csv (va_runV (As := [.int (-3)]) (rest := []) ⟨hx, hb, hml, hown, hts⟩ (c_emitsW l dC dI m0 aS aI aB aT aG aO aN aD aY th im (nI a) (nI p_25) (nI E) 1 2 se dn rn kd nu tv bv (-3)) (cwV 1 hts gX12_some_X12_emits rfl rfl rfl hd_yX12_emits ⟨Nat.le_of_ble_eq_true rfl, Nat.le_of_ble_eq_true rfl⟩) ⟨fun a U g mk q => by obtain ⟨q0, qP, qK⟩ := q; exact ⟨q0, qP, va_K.moved (u := U) (U := U.calling g mk a) (Vm.Alike.refl U.vm) qK⟩, va_recv hK hP (ci := 14) (q := (RX12, TX12, 23)) (q0 := 0) rfl rfl, fun U hU hW => ⟨rfl, by rw [hU]; exact hPc, va_K.moved hW.alike hKc⟩⟩ rfl rfl hl.1 rfl (lv_room (Nat.le_of_ble_eq_true rfl)) dX12_some_37 ⟨Nat.le_of_ble_eq_true rfl, Nat.le_of_ble_eq_true rfl⟩).run (fun hw_35 => ?_)
              refine lv_goto (tgt := 4) hx hb dX12_some_40 (by decide) ?_
              exact ih4 (p_25) (k) (1) (fS9_22) (by omega) (by omega) ((hF).tr hF_30) (Or.inl rfl) _ _ (hK.sub [0] rfl) (hP.sub [0, 1] rfl) (hD.sub [0, 1] (by decide) rfl) hS ls (lv_sub hl [0] rfl)
            · skip
              have k5 := hI_32.2.2.2.2.1
              refine lv_aload_n hx hb dX12_some_34 rfl (lv_at hl 0 rfl) ?_
              refine lv_bipush (v := (-3)) hx hb dX12_some_35 (by decide) ?_
              have hPc := hP.sub (ws' := [(zo14irriiiiiirriirrrrlriiii m0 th aS aI im (nI a) (nI p_25) (nI E) 0 2 aB aT se dn aG aO aN aD bv aY rn kd nu tv), (zaI aS cS 901 fS9_22)]) [0, 1] rfl
              have hDc := hD.sub (ws' := [(zo14irriiiiiirriirrrrlriiii m0 th aS aI im (nI a) (nI p_25) (nI E) 0 2 aB aT se dn aG aO aN aD bv aY rn kd nu tv), (zaI aS cS 901 fS9_22)]) [0, 1] (by decide) rfl
              have hKc := hK.sub (tys' := [(cS, .int)]) [0] rfl
              have hFc := va_free (wc := [(zo14irriiiiiirriirrrrlriiii m0 th aS aI im (nI a) (nI p_25) (nI E) 0 2 aB aT se dn aG aO aN aD bv aY rn kd nu tv), (zaI aS cS 901 fS9_22)]) hD hS hA [0, 1] rfl
              refine va_callv (va_runV (As := [.int (-3)]) (rest := []) ⟨hx, hb, hml, hown, hts⟩ (c_emits l dC dI m0 aS aI aB aT aG aO aN aD aY th im (nI a) (nI p_25) (nI E) 0 2 se dn rn kd nu tv bv cS fS9_22 a k_26 (-3) H.size (ga) ((hI_32).2.2.2.1) (by have := (hI_32).2.2.2.2.1; omega)) (cwV 1 hts gX12_some_X12_emits rfl rfl rfl hd_yX12_emits ⟨Nat.le_of_ble_eq_true rfl, Nat.le_of_ble_eq_true rfl⟩) ⟨fun a U g mk q => by obtain ⟨q0, q1, qP, qK, qD⟩ := q; exact ⟨q0, q1, qP, va_K.moved (u := U) (U := U.calling g mk a) (Vm.Alike.refl U.vm) qK, qD⟩, va_recv hK hP (ci := 14) (q := (RX12, TX12, 23)) (q0 := 0) rfl rfl, fun U hU hW => ⟨rfl, by rw [hU], by rw [hU]; exact hPc, va_K.moved hW.alike hKc, hDc.weaken (fun _ _ _ _ => trivial)⟩⟩ rfl rfl hl.1 rfl (lv_room (Nat.le_of_ble_eq_true rfl)) dX12_some_37 ⟨Nat.le_of_ble_eq_true rfl, Nat.le_of_ble_eq_true rfl⟩) hS (fun q _ h => hFc q h) hFc (fun u tC H1 locs htC hvm hw_37 hB hz1 hk1 hS => ?_)
              obtain ⟨fS9_38, rfl⟩ : ∃ z, z = u := ⟨_, rfl⟩
              try dsimp only at hw_37 hB
              obtain ⟨hP1, hK1, hD1⟩ := hB
              rw [htC] at hP1
              have hK1 := va_K.moved hvm.symm hK1
              obtain ⟨hP, hD⟩ := va_join (wr := []) (w1 := [(zo14irriiiiiirriirrrrlriiii m0 th aS aI im (nI a) (nI p_25) (nI E) 0 2 aB aT se dn aG aO aN aD bv aY rn kd nu tv), (zaI aS cS 901 fS9_38)]) hP hD [0, 1] [] rfl rfl (by decide) (by decide) hk1 hFc hP1 hD1
              have hK := (hK.sub (tys' := []) [] rfl).app hK1
              generalize H1 = H at hP hS ⊢
              have hP : va_P (dC, dI) vwCl [(zo14irriiiiiirriirrrrlriiii m0 th aS aI im (nI a) (nI p_25) (nI E) 0 2 aB aT se dn aG aO aN aD bv aY rn kd nu tv), (zaI aS cS 901 fS9_38)] H := hP
              have hD : va_D A [(zo14irriiiiiirriirrrrlriiii m0 th aS aI im (nI a) (nI p_25) (nI E) 0 2 aB aT se dn aG aO aN aD bv aY rn kd nu tv), (zaI aS cS 901 fS9_38)] := hD
              have hK : va_K (dC, dI) vwCl [(cS, .int)] s := hK
              obtain rfl : fS9_38 = emt fS9_22 a k_26 (-3) := by rcases hw_37 with ⟨q, _⟩ | ⟨_, q⟩; exact absurd rfl q; exact q
              have hI_40 : PI (emt fS9_22 a k_26 (-3)) a (k_26 + 1) (((d + 1) + 1) - 1) p_25 E := ((hI_32).mono (by omega) (by omega)).em (by omega) (by omega) (stepd_either (by omega))
              have hF_41 : PF a fS (emt fS9_22 a k_26 (-3)) := ((hF).tr hF_30).tr (PF_emt (k := k_26) (x := (-3)) ga (by have := (hI_32).2.2.2.2.1; omega))
              refine lv_goto (tgt := 4) hx hb dX12_some_40 (by decide) ?_
              exact ih4 (p_25) ((k_26 + 1)) (0) (emt fS9_22 a k_26 (-3)) (by omega) (by omega) (hF_41) (Or.inr ⟨rfl, by omega, hI_40, by omega⟩) _ _ (hK.sub [0] rfl) (hP.sub [0, 1] rfl) (hD.sub [0, 1] (by decide) rfl) hS ls (lv_sub hl [0] rfl)
    exact L4 _ (p_6) (k) (1) (fS9_3) (Nat.lt_succ_self _) (by omega) ((PF.rf).tr hF_11) (Or.inl rfl) _ _ (hK.sub [0] rfl) (hP.sub [0, 1] rfl) (hD.sub [0, 1] (by decide) rfl) hS ls (lv_sub hl [0] rfl)
  · skip
    have k5 := hI_13.2.2.2.2.1
    have L4 : ∀ (nF : Nat) (p1 : Nat) (k1 : Nat) (w1 : Int32) (f1 : Nat → Int32), E - p1 < nF → (p0 ≤ p1 ∧ p1 ≤ E) → (PF a fS f1) → (w1 = 1 ∨ (w1 = 0 ∧ p0 + 3 ≤ p1 ∧ PI f1 a k1 (d + 1) p1 E ∧ k1 + p0 ≤ k + p1)) → ∀ (H : Heap) (locs : List Loc), va_K (dC, dI) vwCl [(cS, .int)] s → va_P (dC, dI) vwCl [(zo14irriiiiiirriirrrrlriiii m0 th aS aI im (nI a) (nI p1) (nI E) w1 2 aB aT se dn aG aO aN aD bv aY rn kd nu tv), (zaI aS cS 901 f1)] H → va_D A [(zo14irriiiiiirriirrrrlriiii m0 th aS aI im (nI a) (nI p1) (nI E) w1 2 aB aT se dn aG aO aN aD bv aY rn kd nu tv), (zaI aS cS 901 f1)] → va_S A s.heap H locs → ∀ (ls : Array Slot), lv_has ls 1 [(0, .ref m0)] → W p l e ({ frames := 16, cells := 0, slots := 0, locals := 343 } : Room) s m args below meth c H locs 0 0 Q (F0 m 4 ls []) := by
      intro nF
      induction nF with
      | zero => intro p1 k1 w1 f1 hm; exact absurd hm (Nat.not_lt_zero _)
      | succ nF ih4 =>
        intro p1 k1 w1 f1 hm h1 hF hw1 H locs hK hP hD hS ls hl
        obtain ⟨h1a, h1b⟩ := h1
        rcases hw1 with rfl | ⟨rfl, h3, hI, h4⟩
        · skip
          refine lv_aload_n hx hb dX12_some_4 rfl (lv_at hl 0 rfl) ?_
          refine va_get (D := (dC, dI)) (ci := 14) (v := .int 1) (C := RX12) (T := TX12) (N := 23) hx hb hts kc_some2_0 hown hK hP 0 rfl rfl 7 (by decide) (hts (.fieldLink RX12 65 "MistHeapsModel" "isWrong" "Z") kc_some2_1) (fun _ h9 => h9) rfl dX12_some_5 ?_
          refine lv_if_ne (tgt := 43) hx hb dX12_some_8 (by decide) (fun _ => ?_) (fun c_42 => absurd c_42 (by decide))
          rw [hQ]
          have hP9 := hP.sub (ws' := [(zo14irriiiiiirriirrrrlriiii m0 th aS aI im (nI a) (nI p1) (nI E) 1 2 aB aT se dn aG aO aN aD bv aY rn kd nu tv), (zaI aS cS 901 f1)]) [0, 1] rfl
          have hD9 := hD.sub (ws' := [(zo14irriiiiiirriirrrrlriiii m0 th aS aI im (nI a) (nI p1) (nI E) 1 2 aB aT se dn aG aO aN aD bv aY rn kd nu tv), (zaI aS cS 901 f1)]) [0, 1] (by decide) rfl
          have hK9 := hK.sub (tys' := [(cS, .int)]) [0] rfl
          exact W.vret hx hb hr (fun tQ htQ hWQ => ⟨⟨(f1, (nI p1), 1), rfl, ⟨p1, k, rfl, by omega, by omega, hF, Or.inl rfl⟩, by rw [htQ]; exact hP9, va_K.moved hWQ.alike hK9, hD9⟩, hS.F htQ⟩) hS.2.2 dX12_some_43
        · skip
          have k5 := hI.2.2.2.2.1
          refine lv_aload_n hx hb dX12_some_4 rfl (lv_at hl 0 rfl) ?_
          refine va_get (D := (dC, dI)) (ci := 14) (v := .int 0) (C := RX12) (T := TX12) (N := 23) hx hb hts kc_some2_0 hown hK hP 0 rfl rfl 7 (by decide) (hts (.fieldLink RX12 65 "MistHeapsModel" "isWrong" "Z") kc_some2_1) (fun _ h9 => h9) rfl dX12_some_5 ?_
          refine lv_if_ne (tgt := 43) hx hb dX12_some_8 (by decide) (fun c_43 => absurd c_43 (by decide)) (fun _ => ?_)
          refine lv_aload_n hx hb dX12_some_11 rfl (lv_at hl 0 rfl) ?_
          have hPc := hP.sub (ws' := [(zo14irriiiiiirriirrrrlriiii m0 th aS aI im (nI a) (nI p1) (nI E) 0 2 aB aT se dn aG aO aN aD bv aY rn kd nu tv), (zaI aS cS 901 f1)]) [0, 1] rfl
          have hKc := hK.sub (tys' := [(cS, .int)]) [0] rfl
          refine vp_callSi (va_runV (As := []) (rest := []) ⟨hx, hb, hml, hown, hts⟩ (c_here l dC dI m0 aS aI aB aT aG aO aN aD aY th im (nI a) (nI p1) (nI E) 0 2 se dn rn kd nu tv bv cS f1 a p1 E (by omega) (by omega) (by omega)) (cwV 0 hts gX12_some_X12_here rfl rfl rfl hd_yX12_here ⟨Nat.le_of_ble_eq_true rfl, Nat.le_of_ble_eq_true rfl⟩) ⟨fun a U g mk q => by obtain ⟨q0, qP, qK⟩ := q; exact ⟨q0, qP, va_K.moved (u := U) (U := U.calling g mk a) (Vm.Alike.refl U.vm) qK⟩, va_recv hK hP (ci := 14) (q := (RX12, TX12, 23)) (q0 := 0) rfl rfl, fun U hU hW => ⟨rfl, by rw [hU]; exact hPc, va_K.moved hW.alike hKc⟩⟩ rfl rfl hl.1 rfl (lv_room (Nat.le_of_ble_eq_true rfl)) dX12_some_12 ⟨Nat.le_of_ble_eq_true rfl, Nat.le_of_ble_eq_true rfl⟩).run (fun r_44 hw_45 => ?_)
          refine lv_bipush (v := 124) hx hb dX12_some_15 (by decide) ?_
          refine lv_icmp_ne (tgt := 43) hx hb dX12_some_17 (by decide) (fun c_46 => ?_) (fun c_46 => ?_)
          · skip
            rw [hQ]
            have hP9 := hP.sub (ws' := [(zo14irriiiiiirriirrrrlriiii m0 th aS aI im (nI a) (nI p1) (nI E) 0 2 aB aT se dn aG aO aN aD bv aY rn kd nu tv), (zaI aS cS 901 f1)]) [0, 1] rfl
            have hD9 := hD.sub (ws' := [(zo14irriiiiiirriirrrrlriiii m0 th aS aI im (nI a) (nI p1) (nI E) 0 2 aB aT se dn aG aO aN aD bv aY rn kd nu tv), (zaI aS cS 901 f1)]) [0, 1] (by decide) rfl
            have hK9 := hK.sub (tys' := [(cS, .int)]) [0] rfl
            exact W.vret hx hb hr (fun tQ htQ hWQ => ⟨⟨(f1, (nI p1), 0), rfl, ⟨p1, k1, rfl, by omega, by omega, hF, Or.inr ⟨rfl, by omega, hI, by omega⟩⟩, by rw [htQ]; exact hP9, va_K.moved hWQ.alike hK9, hD9⟩, hS.F htQ⟩) hS.2.2 dX12_some_43
          · skip
            have hlt : p1 < E := hv_lt (f := f1) (by rw [← hw_45, c_46]; decide)
            refine lv_aload_n hx hb dX12_some_20 rfl (lv_at hl 0 rfl) ?_
            refine lv_dup hx hb dX12_some_21 rfl ?_
            refine va_get (D := (dC, dI)) (ci := 14) (v := .int (nI p1)) (C := RX12) (T := TX12) (N := 23) hx hb hts kc_some2_0 hown hK hP 0 rfl rfl 5 (by decide) (hts (.fieldLink RX12 59 "MistHeapsModel" "spot" "I") kc_some2_2) (fun _ h9 => h9) rfl dX12_some_22 ?_
            refine lv_iconst (v := 1) hx hb dX12_some_25 (by decide) ?_
            refine lv_iadd hx hb dX12_some_26 ?_
            refine qi_as (y := nI (p1 + 1)) (nI_add p1 1) ?_
            refine va_put (D := (dC, dI)) (ci := 14) (v := .int (nI (p1 + 1))) (ty := .int) (C := RX12) (T := TX12) (N := 23) hx hb hts kc_some2_0 tyX12 tyX12_ok nmX12 hown hK hP hD hS 0 rfl rfl 5 (by decide) (hts (.fieldLink RX12 59 "MistHeapsModel" "spot" "I") kc_some2_2) (fun _ h9 => h9) rfl (by decide +kernel) rfl rfl (Nat.le_of_ble_eq_true rfl) dX12_some_27 (fun H locs hP hD hS => ?_)
            have hP : va_P (dC, dI) vwCl [(zo14irriiiiiirriirrrrlriiii m0 th aS aI im (nI a) (nI (p1 + 1)) (nI E) 0 2 aB aT se dn aG aO aN aD bv aY rn kd nu tv), (zaI aS cS 901 f1)] H := hP
            have hD : va_D A [(zo14irriiiiiirriirrrrlriiii m0 th aS aI im (nI a) (nI (p1 + 1)) (nI E) 0 2 aB aT se dn aG aO aN aD bv aY rn kd nu tv), (zaI aS cS 901 f1)] := hD
            refine lv_aload_n hx hb dX12_some_30 rfl (lv_at hl 0 rfl) ?_
            have hPc := hP.sub (ws' := [(zo14irriiiiiirriirrrrlriiii m0 th aS aI im (nI a) (nI (p1 + 1)) (nI E) 0 2 aB aT se dn aG aO aN aD bv aY rn kd nu tv), (zaI aS cS 901 f1)]) [0, 1] rfl
            have hDc := hD.sub (ws' := [(zo14irriiiiiirriirrrrlriiii m0 th aS aI im (nI a) (nI (p1 + 1)) (nI E) 0 2 aB aT se dn aG aO aN aD bv aY rn kd nu tv), (zaI aS cS 901 f1)]) [0, 1] (by decide) rfl
            have hKc := hK.sub (tys' := [(cS, .int)]) [0] rfl
            have hFc := va_free (wc := [(zo14irriiiiiirriirrrrlriiii m0 th aS aI im (nI a) (nI (p1 + 1)) (nI E) 0 2 aB aT se dn aG aO aN aD bv aY rn kd nu tv), (zaI aS cS 901 f1)]) hD hS hA [0, 1] rfl
            refine va_callv (va_runV (As := []) (rest := []) ⟨hx, hb, hml, hown, hts⟩ (c_every2 l dC dI sK sV m0 aS aI aB aT aG aO aN aD aY th im (nI a) (nI (p1 + 1)) (nI E) 0 2 se dn rn kd nu tv bv cS f1 a (p1 + 1) E k1 (d + 1) H.size ((hI).mono (by omega) (by omega))) (cwV 0 hts gX12_some_X12_every rfl rfl rfl hd_yX12_every ⟨Nat.le_of_ble_eq_true rfl, Nat.le_of_ble_eq_true rfl⟩) ⟨fun a U g mk q => by obtain ⟨q0, q1, qP, qK, qD, qhE⟩ := q; exact ⟨q0, q1, qP, va_K.moved (u := U) (U := U.calling g mk a) (Vm.Alike.refl U.vm) qK, qD, qhE.same rfl rfl⟩, va_recv hK hP (ci := 14) (q := (RX12, TX12, 23)) (q0 := 0) rfl rfl, fun U hU hW => ⟨rfl, by rw [hU], by rw [hU]; exact hPc, va_K.moved hW.alike hKc, hDc.weaken (fun _ _ _ _ => trivial), hE.call hS hU hW (fun q h => hFc q h)⟩⟩ rfl rfl hl.1 rfl (lv_room (Nat.le_of_ble_eq_true rfl)) dX12_some_31 ⟨Nat.le_of_ble_eq_true rfl, Nat.le_of_ble_eq_true rfl⟩) hS (fun q _ h => hFc q h) hFc (fun u tC H1 locs htC hvm hw_48 hB hz1 hk1 hS => ?_)
            obtain ⟨fS9_49, sp9_50, wg9_51⟩ := u
            try dsimp only at hw_48 hB
            obtain ⟨hP1, hK1, hD1⟩ := hB
            rw [htC] at hP1
            have hK1 := va_K.moved hvm.symm hK1
            obtain ⟨hP, hD⟩ := va_join (wr := []) (w1 := [(zo14irriiiiiirriirrrrlriiii m0 th aS aI im (nI a) sp9_50 (nI E) wg9_51 2 aB aT se dn aG aO aN aD bv aY rn kd nu tv), (zaI aS cS 901 fS9_49)]) hP hD [0, 1] [] rfl rfl (by decide) (by decide) hk1 hFc hP1 hD1
            have hK := (hK.sub (tys' := []) [] rfl).app hK1
            generalize H1 = H at hP hS ⊢
            have hP : va_P (dC, dI) vwCl [(zo14irriiiiiirriirrrrlriiii m0 th aS aI im (nI a) sp9_50 (nI E) wg9_51 2 aB aT se dn aG aO aN aD bv aY rn kd nu tv), (zaI aS cS 901 fS9_49)] H := hP
            have hD : va_D A [(zo14irriiiiiirriirrrrlriiii m0 th aS aI im (nI a) sp9_50 (nI E) wg9_51 2 aB aT se dn aG aO aN aD bv aY rn kd nu tv), (zaI aS cS 901 fS9_49)] := hD
            have hK : va_K (dC, dI) vwCl [(cS, .int)] s := hK
            obtain ⟨p_52, k_53, rfl, h_55, h_56, hF_57, q9⟩ := hw_48
            rcases q9 with rfl | ⟨rfl, h_58, hI_59, h_60⟩
            · skip
              refine lv_aload_n hx hb dX12_some_34 rfl (lv_at hl 0 rfl) ?_
              refine lv_bipush (v := (-3)) hx hb dX12_some_35 (by decide) ?_
              have hPc := hP.sub (ws' := [(zo14irriiiiiirriirrrrlriiii m0 th aS aI im (nI a) (nI p_52) (nI E) 1 2 aB aT se dn aG aO aN aD bv aY rn kd nu tv)]) [0] rfl
              have hKc := hK.sub (tys' := []) [] rfl
              refine va_csv (va_runV (As := [.int (-3)]) (rest := []) ⟨hx, hb, hml, hown, hts⟩ (c_emitsW l dC dI m0 aS aI aB aT aG aO aN aD aY th im (nI a) (nI p_52) (nI E) 1 2 se dn rn kd nu tv bv (-3)) (cwV 1 hts gX12_some_X12_emits rfl rfl rfl hd_yX12_emits ⟨Nat.le_of_ble_eq_true rfl, Nat.le_of_ble_eq_true rfl⟩) ⟨fun a U g mk q => by obtain ⟨q0, qP, qK⟩ := q; exact ⟨q0, qP, va_K.moved (u := U) (U := U.calling g mk a) (Vm.Alike.refl U.vm) qK⟩, va_recv hK hP (ci := 14) (q := (RX12, TX12, 23)) (q0 := 0) rfl rfl, fun U hU hW => ⟨rfl, by rw [hU]; exact hPc, va_K.moved hW.alike hKc⟩⟩ rfl rfl hl.1 rfl (lv_room (Nat.le_of_ble_eq_true rfl)) dX12_some_37 ⟨Nat.le_of_ble_eq_true rfl, Nat.le_of_ble_eq_true rfl⟩).run (fun hw_62 => ?_)
              refine lv_goto (tgt := 4) hx hb dX12_some_40 (by decide) ?_
              exact ih4 (p_52) (k) (1) (fS9_49) (by omega) (by omega) ((hF).tr hF_57) (Or.inl rfl) _ _ (hK.sub [0] rfl) (hP.sub [0, 1] rfl) (hD.sub [0, 1] (by decide) rfl) hS ls (lv_sub hl [0] rfl)
            · skip
              have k5 := hI_59.2.2.2.2.1
              refine lv_aload_n hx hb dX12_some_34 rfl (lv_at hl 0 rfl) ?_
              refine lv_bipush (v := (-3)) hx hb dX12_some_35 (by decide) ?_
              have hPc := hP.sub (ws' := [(zo14irriiiiiirriirrrrlriiii m0 th aS aI im (nI a) (nI p_52) (nI E) 0 2 aB aT se dn aG aO aN aD bv aY rn kd nu tv), (zaI aS cS 901 fS9_49)]) [0, 1] rfl
              have hDc := hD.sub (ws' := [(zo14irriiiiiirriirrrrlriiii m0 th aS aI im (nI a) (nI p_52) (nI E) 0 2 aB aT se dn aG aO aN aD bv aY rn kd nu tv), (zaI aS cS 901 fS9_49)]) [0, 1] (by decide) rfl
              have hKc := hK.sub (tys' := [(cS, .int)]) [0] rfl
              have hFc := va_free (wc := [(zo14irriiiiiirriirrrrlriiii m0 th aS aI im (nI a) (nI p_52) (nI E) 0 2 aB aT se dn aG aO aN aD bv aY rn kd nu tv), (zaI aS cS 901 fS9_49)]) hD hS hA [0, 1] rfl
              refine va_callv (va_runV (As := [.int (-3)]) (rest := []) ⟨hx, hb, hml, hown, hts⟩ (c_emits l dC dI m0 aS aI aB aT aG aO aN aD aY th im (nI a) (nI p_52) (nI E) 0 2 se dn rn kd nu tv bv cS fS9_49 a k_53 (-3) H.size (ga) ((hI_59).2.2.2.1) (by have := (hI_59).2.2.2.2.1; omega)) (cwV 1 hts gX12_some_X12_emits rfl rfl rfl hd_yX12_emits ⟨Nat.le_of_ble_eq_true rfl, Nat.le_of_ble_eq_true rfl⟩) ⟨fun a U g mk q => by obtain ⟨q0, q1, qP, qK, qD⟩ := q; exact ⟨q0, q1, qP, va_K.moved (u := U) (U := U.calling g mk a) (Vm.Alike.refl U.vm) qK, qD⟩, va_recv hK hP (ci := 14) (q := (RX12, TX12, 23)) (q0 := 0) rfl rfl, fun U hU hW => ⟨rfl, by rw [hU], by rw [hU]; exact hPc, va_K.moved hW.alike hKc, hDc.weaken (fun _ _ _ _ => trivial)⟩⟩ rfl rfl hl.1 rfl (lv_room (Nat.le_of_ble_eq_true rfl)) dX12_some_37 ⟨Nat.le_of_ble_eq_true rfl, Nat.le_of_ble_eq_true rfl⟩) hS (fun q _ h => hFc q h) hFc (fun u tC H1 locs htC hvm hw_64 hB hz1 hk1 hS => ?_)
              obtain ⟨fS9_65, rfl⟩ : ∃ z, z = u := ⟨_, rfl⟩
              try dsimp only at hw_64 hB
              obtain ⟨hP1, hK1, hD1⟩ := hB
              rw [htC] at hP1
              have hK1 := va_K.moved hvm.symm hK1
              obtain ⟨hP, hD⟩ := va_join (wr := []) (w1 := [(zo14irriiiiiirriirrrrlriiii m0 th aS aI im (nI a) (nI p_52) (nI E) 0 2 aB aT se dn aG aO aN aD bv aY rn kd nu tv), (zaI aS cS 901 fS9_65)]) hP hD [0, 1] [] rfl rfl (by decide) (by decide) hk1 hFc hP1 hD1
              have hK := (hK.sub (tys' := []) [] rfl).app hK1
              generalize H1 = H at hP hS ⊢
              have hP : va_P (dC, dI) vwCl [(zo14irriiiiiirriirrrrlriiii m0 th aS aI im (nI a) (nI p_52) (nI E) 0 2 aB aT se dn aG aO aN aD bv aY rn kd nu tv), (zaI aS cS 901 fS9_65)] H := hP
              have hD : va_D A [(zo14irriiiiiirriirrrrlriiii m0 th aS aI im (nI a) (nI p_52) (nI E) 0 2 aB aT se dn aG aO aN aD bv aY rn kd nu tv), (zaI aS cS 901 fS9_65)] := hD
              have hK : va_K (dC, dI) vwCl [(cS, .int)] s := hK
              obtain rfl : fS9_65 = emt fS9_49 a k_53 (-3) := by rcases hw_64 with ⟨q, _⟩ | ⟨_, q⟩; exact absurd rfl q; exact q
              have hI_67 : PI (emt fS9_49 a k_53 (-3)) a (k_53 + 1) (((d + 1) + 1) - 1) p_52 E := ((hI_59).mono (by omega) (by omega)).em (by omega) (by omega) (stepd_either (by omega))
              have hF_68 : PF a fS (emt fS9_49 a k_53 (-3)) := ((hF).tr hF_57).tr (PF_emt (k := k_53) (x := (-3)) ga (by have := (hI_59).2.2.2.2.1; omega))
              refine lv_goto (tgt := 4) hx hb dX12_some_40 (by decide) ?_
              exact ih4 (p_52) ((k_53 + 1)) (0) (emt fS9_49 a k_53 (-3)) (by omega) (by omega) (hF_68) (Or.inr ⟨rfl, by omega, hI_67, by omega⟩) _ _ (hK.sub [0] rfl) (hP.sub [0, 1] rfl) (hD.sub [0, 1] (by decide) rfl) hS ls (lv_sub hl [0] rfl)
    exact L4 _ (p_6) (k_7) (0) (fS9_3) (Nat.lt_succ_self _) (by omega) ((PF.rf).tr hF_11) (Or.inr ⟨rfl, by omega, hI_13, by omega⟩) _ _ (hK.sub [0] rfl) (hP.sub [0, 1] rfl) (hD.sub [0, 1] (by decide) rfl) hS ls (lv_sub hl [0] rfl)
end mg12b
section mg12b

theorem kc_factor1_0 : ∀ w ∈ wsX120, w ∈ wsX12_factor := fun w h => List.mem_cons_of_mem _ (gin_wsX120 w h)
theorem kc_factor1_1 : (.fieldLink RX12 65 "MistHeapsModel" "isWrong" "Z" : Cond) ∈ wsX12_factor := kc_of 1147 rfl rfl rfl
theorem kc_factor1_2 : (.fieldLink RX12 89 "MistHeapsModel" "open" "I" : Cond) ∈ wsX12_factor := kc_of 1148 rfl rfl rfl
theorem kc_factor1_3 : (.fieldLink RX12 59 "MistHeapsModel" "spot" "I" : Cond) ∈ wsX12_factor := kc_of 1145 rfl rfl rfl
set_option maxHeartbeats 4000000 in
set_option maxRecDepth 100000 in
theorem c_factor1 (l : Launch) (dC : Nat → ClassId) (dI : Nat → Nat → Nat) (sK sV : Nat → Nat) (m0 aS aI aB aT aG aO aN aD aY : Nat) (th im ac sp en wg op se dn rn kd nu tv : Int32) (bv : Int64) (cS : ClassId) (fS : Nat → Int32) (a p0 E k d : Nat) (sz : Nat) (gI : PI fS a k d p0 E) : Met l yX12_factor wsX12_factor ({ frames := 17, cells := 0, slots := 0, locals := 363 } : Room) (va_Pc [.ref m0] (fun U => U.heap.size = sz ∧ va_P (dC, dI) vwCl [(zo14irriiiiiirriirrrrlriiii m0 th aS aI im (nI a) (nI p0) (nI E) 0 1 aB aT se dn aG aO aN aD bv aY rn kd nu tv), (zaI aS cS 901 fS)] U.heap ∧ va_K (dC, dI) vwCl [(cS, .int)] U ∧ va_D (fun _ => True) [(zo14irriiiiiirriirrrrlriiii m0 th aS aI im (nI a) (nI p0) (nI E) 0 1 aB aT se dn aG aO aN aD bv aY rn kd nu tv), (zaI aS cS 901 fS)] ∧ Gs sK sV (va_A [(zo14irriiiiiirriirrrrlriiii m0 th aS aI im (nI a) (nI p0) (nI E) 0 1 aB aT se dn aG aO aN aD bv aY rn kd nu tv), (zaI aS cS 901 fS)] sz) U)) (va_Qv (fun (u : (Nat → Int32) × (Int32) × (Int32)) => match u with | (fS9, sp9, wg9) => ∃ p9 k9 : Nat, sp9 = nI p9 ∧ p0 ≤ p9 ∧ p9 ≤ E ∧ PF a fS fS9 ∧ (wg9 = 1 ∨ (wg9 = 0 ∧ p0 + 3 ≤ p9 ∧ PI fS9 a k9 (d + 1) p9 E ∧ k9 + p0 ≤ k + p9))) (fun (u : (Nat → Int32) × (Int32) × (Int32)) (t : State) => match u with | (fS9, sp9, wg9) => va_P (dC, dI) vwCl [(zo14irriiiiiirriirrrrlriiii m0 th aS aI im (nI a) sp9 (nI E) wg9 1 aB aT se dn aG aO aN aD bv aY rn kd nu tv), (zaI aS cS 901 fS9)] t.heap ∧ va_K (dC, dI) vwCl [(cS, .int)] t ∧ va_D (va_A [(zo14irriiiiiirriirrrrlriiii m0 th aS aI im (nI a) (nI p0) (nI E) 0 1 aB aT se dn aG aO aN aD bv aY rn kd nu tv), (zaI aS cS 901 fS)] sz) [(zo14irriiiiiirriirrrrlriiii m0 th aS aI im (nI a) sp9 (nI E) wg9 1 aB aT se dn aG aO aN aD bv aY rn kd nu tv), (zaI aS cS 901 fS9)]) (va_A [(zo14irriiiiiirriirrrrlriiii m0 th aS aI im (nI a) (nI p0) (nI E) 0 1 aB aT se dn aG aO aN aD bv aY rn kd nu tv), (zaI aS cS 901 fS)] sz)) 0 0 (va_A [(zo14irriiiiiirriirrrrlriiii m0 th aS aI im (nI a) (nI p0) (nI E) 0 1 aB aT se dn aG aO aN aD bv aY rn kd nu tv), (zaI aS cS 901 fS)] sz) := by
  refine met_ofQ (cc := cX12_factor) (maxL := 5) (ret := none) (by decide) rfl ?_
  intro p e s m args below meth c s₁ Q B hml hv hQ
  obtain ⟨rfl, hsz, hP, hK, hD0, hE⟩ := hv
  have hx := B.exec
  have hb := B.bytes
  have hr := B.returns
  have hts := atoms_spec (ws := wsX12_factor) B.pre
  have hown : s.vm.findClass RX12 = some m.cls := findClass_of_methodNamed B.named
  have hlocks := B.notSynchronized
  subst hsz
  have hD := hD0.self (sz := s.heap.size)
  generalize hAe : va_A [(zo14irriiiiiirriirrrrlriiii m0 th aS aI im (nI a) (nI p0) (nI E) 0 1 aB aT se dn aG aO aN aD bv aY rn kd nu tv), (zaI aS cS 901 fS)] s.heap.size = A at hD hQ hE ⊢
  have hA : ∀ q : Nat, s.heap.size ≤ q → A q := fun q h => by rw [← hAe]; exact Or.inr h
  have hS : va_S A s.heap s.heap [] := va_S.rf
  have hl := lv_entry [.ref m0] (n := 5) (Nat.le_of_ble_eq_true rfl)
  rw [lg_entry_eq]
  generalize (lg_sl [.ref m0] ++ List.replicate (5 - (lg_sl [.ref m0]).length) Slot.unset).toArray = ls at hl ⊢
  generalize hag : ([.ref m0] : List Value).toArray = args at hts hQ ⊢
  have hl : lv_has ls 5 [(0, .ref m0)] := hl
  obtain ⟨H, hH⟩ : ∃ H : Heap, H = s.heap := ⟨_, rfl⟩
  rw [← hH] at hP
  rw [← hH]
  have hS : va_S A s.heap H [] := by rw [hH]; exact hS
  obtain ⟨locs, hlo⟩ : ∃ L : List Loc, L = [] := ⟨_, rfl⟩
  rw [← hlo] at hS
  rw [← hlo]
  clear hH hlo
  obtain ⟨ga, gp, gE, zk, gkp, gd, gs⟩ := id gI
  refine lv_aload_n hx hb dX12_factor_0 rfl (lv_at hl 0 rfl) ?_
  refine va_get (D := (dC, dI)) (ci := 14) (v := .int 0) (C := RX12) (T := TX12) (N := 23) hx hb hts kc_factor1_0 hown hK hP 0 rfl rfl 7 (by decide) (hts (.fieldLink RX12 65 "MistHeapsModel" "isWrong" "Z") kc_factor1_1) (fun _ h9 => h9) rfl dX12_factor_1 ?_
  refine lv_if_eq (tgt := 8) hx hb dX12_factor_4 (by decide) (fun _ => ?_) (fun c_1 => absurd c_1 (by decide))
  refine lv_aload_n hx hb dX12_factor_8 rfl (lv_at hl 0 rfl) ?_
  have hPc := hP.sub (ws' := [(zo14irriiiiiirriirrrrlriiii m0 th aS aI im (nI a) (nI p0) (nI E) 0 1 aB aT se dn aG aO aN aD bv aY rn kd nu tv), (zaI aS cS 901 fS)]) [0, 1] rfl
  have hKc := hK.sub (tys' := [(cS, .int)]) [0] rfl
  refine vp_callSi (va_runV (As := []) (rest := []) ⟨hx, hb, hml, hown, hts⟩ (c_here l dC dI m0 aS aI aB aT aG aO aN aD aY th im (nI a) (nI p0) (nI E) 0 1 se dn rn kd nu tv bv cS fS a p0 E (by omega) (by omega) (by omega)) (cwV 0 hts gX12_factor_X12_here rfl rfl rfl hd_yX12_here ⟨Nat.le_of_ble_eq_true rfl, Nat.le_of_ble_eq_true rfl⟩) ⟨fun a U g mk q => by obtain ⟨q0, qP, qK⟩ := q; exact ⟨q0, qP, va_K.moved (u := U) (U := U.calling g mk a) (Vm.Alike.refl U.vm) qK⟩, va_recv hK hP (ci := 14) (q := (RX12, TX12, 23)) (q0 := 0) rfl rfl, fun U hU hW => ⟨rfl, by rw [hU]; exact hPc, va_K.moved hW.alike hKc⟩⟩ rfl rfl hl.1 rfl (lv_room (Nat.le_of_ble_eq_true rfl)) dX12_factor_9 ⟨Nat.le_of_ble_eq_true rfl, Nat.le_of_ble_eq_true rfl⟩).run (fun r_2 hw_3 => ?_)
  refine lv_istore_n (lv' := [(1, .int r_2), (0, .ref m0)]) hx hb dX12_factor_12 rfl hl (by decide) rfl (fun ls hl => ?_)
  refine lv_iload_n hx hb dX12_factor_13 rfl (lv_at hl 0 rfl) ?_
  refine lv_bipush (v := 33) hx hb dX12_factor_14 (by decide) ?_
  refine lv_icmp_eq (tgt := 25) hx hb dX12_factor_16 (by decide) (fun c_4 => ?_) (fun c_4 => ?_)
  · skip
    subst c_4
    have hlt : p0 < E := hv_lt (f := fS) (by rw [← hw_3]; decide)
    refine lv_aload_n hx hb dX12_factor_25 rfl (lv_at hl 1 rfl) ?_
    refine lv_aload_n hx hb dX12_factor_26 rfl (lv_at hl 1 rfl) ?_
    refine va_get (D := (dC, dI)) (ci := 14) (v := .int 1) (C := RX12) (T := TX12) (N := 23) hx hb hts kc_factor1_0 hown hK hP 0 rfl rfl 8 (by decide) (hts (.fieldLink RX12 89 "MistHeapsModel" "open" "I") kc_factor1_2) (fun _ h9 => h9) rfl dX12_factor_27 ?_
    refine lv_iconst (v := 5) hx hb dX12_factor_30 (by decide) ?_
    refine lv_icmp_ne (tgt := 38) hx hb dX12_factor_31 (by decide) (fun _ => ?_) (fun c_5 => absurd c_5 (by decide))
    refine lv_iconst (v := 0) hx hb dX12_factor_38 (by decide) ?_
    refine va_put (D := (dC, dI)) (ci := 14) (v := .int 0) (ty := .boolean) (C := RX12) (T := TX12) (N := 23) hx hb hts kc_factor1_0 tyX12 tyX12_ok nmX12 hown hK hP hD hS 0 rfl rfl 7 (by decide) (hts (.fieldLink RX12 65 "MistHeapsModel" "isWrong" "Z") kc_factor1_1) (fun _ h9 => h9) rfl (by decide +kernel) rfl rfl (Nat.le_of_ble_eq_true rfl) dX12_factor_39 (fun H locs hP hD hS => ?_)
    have hP : va_P (dC, dI) vwCl [(zo14irriiiiiirriirrrrlriiii m0 th aS aI im (nI a) (nI p0) (nI E) 0 1 aB aT se dn aG aO aN aD bv aY rn kd nu tv), (zaI aS cS 901 fS)] H := hP
    have hD : va_D A [(zo14irriiiiiirriirrrrlriiii m0 th aS aI im (nI a) (nI p0) (nI E) 0 1 aB aT se dn aG aO aN aD bv aY rn kd nu tv), (zaI aS cS 901 fS)] := hD
    refine lv_aload_n hx hb dX12_factor_42 rfl (lv_at hl 1 rfl) ?_
    refine lv_dup hx hb dX12_factor_43 rfl ?_
    refine va_get (D := (dC, dI)) (ci := 14) (v := .int 1) (C := RX12) (T := TX12) (N := 23) hx hb hts kc_factor1_0 hown hK hP 0 rfl rfl 8 (by decide) (hts (.fieldLink RX12 89 "MistHeapsModel" "open" "I") kc_factor1_2) (fun _ h9 => h9) rfl dX12_factor_44 ?_
    refine lv_iconst (v := 1) hx hb dX12_factor_47 (by decide) ?_
    refine lv_iadd hx hb dX12_factor_48 ?_
    refine qi_as (y := 2) (by decide) ?_
    refine va_put (D := (dC, dI)) (ci := 14) (v := .int 2) (ty := .int) (C := RX12) (T := TX12) (N := 23) hx hb hts kc_factor1_0 tyX12 tyX12_ok nmX12 hown hK hP hD hS 0 rfl rfl 8 (by decide) (hts (.fieldLink RX12 89 "MistHeapsModel" "open" "I") kc_factor1_2) (fun _ h9 => h9) rfl (by decide +kernel) rfl rfl (Nat.le_of_ble_eq_true rfl) dX12_factor_49 (fun H locs hP hD hS => ?_)
    have hP : va_P (dC, dI) vwCl [(zo14irriiiiiirriirrrrlriiii m0 th aS aI im (nI a) (nI p0) (nI E) 0 2 aB aT se dn aG aO aN aD bv aY rn kd nu tv), (zaI aS cS 901 fS)] H := hP
    have hD : va_D A [(zo14irriiiiiirriirrrrlriiii m0 th aS aI im (nI a) (nI p0) (nI E) 0 2 aB aT se dn aG aO aN aD bv aY rn kd nu tv), (zaI aS cS 901 fS)] := hD
    refine lv_aload_n hx hb dX12_factor_52 rfl (lv_at hl 1 rfl) ?_
    refine lv_dup hx hb dX12_factor_53 rfl ?_
    refine va_get (D := (dC, dI)) (ci := 14) (v := .int (nI p0)) (C := RX12) (T := TX12) (N := 23) hx hb hts kc_factor1_0 hown hK hP 0 rfl rfl 5 (by decide) (hts (.fieldLink RX12 59 "MistHeapsModel" "spot" "I") kc_factor1_3) (fun _ h9 => h9) rfl dX12_factor_54 ?_
    refine lv_aload_n hx hb dX12_factor_57 rfl (lv_at hl 1 rfl) ?_
    refine va_get (D := (dC, dI)) (ci := 14) (v := .int 0) (C := RX12) (T := TX12) (N := 23) hx hb hts kc_factor1_0 hown hK hP 0 rfl rfl 7 (by decide) (hts (.fieldLink RX12 65 "MistHeapsModel" "isWrong" "Z") kc_factor1_1) (fun _ h9 => h9) rfl dX12_factor_58 ?_
    refine lv_if_eq (tgt := 68) hx hb dX12_factor_61 (by decide) (fun _ => ?_) (fun c_6 => absurd c_6 (by decide))
    refine lv_iconst (v := 1) hx hb dX12_factor_68 (by decide) ?_
    refine lv_iadd hx hb dX12_factor_69 ?_
    refine qi_as (y := nI (p0 + 1)) (nI_add p0 1) ?_
    refine va_put (D := (dC, dI)) (ci := 14) (v := .int (nI (p0 + 1))) (ty := .int) (C := RX12) (T := TX12) (N := 23) hx hb hts kc_factor1_0 tyX12 tyX12_ok nmX12 hown hK hP hD hS 0 rfl rfl 5 (by decide) (hts (.fieldLink RX12 59 "MistHeapsModel" "spot" "I") kc_factor1_3) (fun _ h9 => h9) rfl (by decide +kernel) rfl rfl (Nat.le_of_ble_eq_true rfl) dX12_factor_70 (fun H locs hP hD hS => ?_)
    have hP : va_P (dC, dI) vwCl [(zo14irriiiiiirriirrrrlriiii m0 th aS aI im (nI a) (nI (p0 + 1)) (nI E) 0 2 aB aT se dn aG aO aN aD bv aY rn kd nu tv), (zaI aS cS 901 fS)] H := hP
    have hD : va_D A [(zo14irriiiiiirriirrrrlriiii m0 th aS aI im (nI a) (nI (p0 + 1)) (nI E) 0 2 aB aT se dn aG aO aN aD bv aY rn kd nu tv), (zaI aS cS 901 fS)] := hD
    refine lv_iload_n hx hb dX12_factor_73 rfl (lv_at hl 0 rfl) ?_
    refine lv_bipush (v := 33) hx hb dX12_factor_74 (by decide) ?_
    refine lv_icmp_ne (tgt := 91) hx hb dX12_factor_76 (by decide) (fun c_7 => absurd c_7 (by decide)) (fun _ => ?_)
    refine lv_aload_n hx hb dX12_factor_79 rfl (lv_at hl 1 rfl) ?_
    have hPc := hP.sub (ws' := [(zo14irriiiiiirriirrrrlriiii m0 th aS aI im (nI a) (nI (p0 + 1)) (nI E) 0 2 aB aT se dn aG aO aN aD bv aY rn kd nu tv), (zaI aS cS 901 fS)]) [0, 1] rfl
    have hDc := hD.sub (ws' := [(zo14irriiiiiirriirrrrlriiii m0 th aS aI im (nI a) (nI (p0 + 1)) (nI E) 0 2 aB aT se dn aG aO aN aD bv aY rn kd nu tv), (zaI aS cS 901 fS)]) [0, 1] (by decide) rfl
    have hKc := hK.sub (tys' := [(cS, .int)]) [0] rfl
    have hFc := va_free (wc := [(zo14irriiiiiirriirrrrlriiii m0 th aS aI im (nI a) (nI (p0 + 1)) (nI E) 0 2 aB aT se dn aG aO aN aD bv aY rn kd nu tv), (zaI aS cS 901 fS)]) hD hS hA [0, 1] rfl
    refine va_callv (va_runV (As := []) (rest := []) ⟨hx, hb, hml, hown, hts⟩ (c_factor2 l dC dI sK sV m0 aS aI aB aT aG aO aN aD aY th im (nI a) (nI (p0 + 1)) (nI E) 0 2 se dn rn kd nu tv bv cS fS a (p0 + 1) E k d H.size ((gI).mono (by omega) (by omega))) (cwV 0 hts gX12_factor_X12_factor rfl rfl rfl hd_yX12_factor ⟨Nat.le_of_ble_eq_true rfl, Nat.le_of_ble_eq_true rfl⟩) ⟨fun a U g mk q => by obtain ⟨q0, q1, qP, qK, qD, qhE⟩ := q; exact ⟨q0, q1, qP, va_K.moved (u := U) (U := U.calling g mk a) (Vm.Alike.refl U.vm) qK, qD, qhE.same rfl rfl⟩, va_recv hK hP (ci := 14) (q := (RX12, TX12, 23)) (q0 := 0) rfl rfl, fun U hU hW => ⟨rfl, by rw [hU], by rw [hU]; exact hPc, va_K.moved hW.alike hKc, hDc.weaken (fun _ _ _ _ => trivial), hE.call hS hU hW (fun q h => hFc q h)⟩⟩ rfl rfl hl.1 rfl (lv_room (Nat.le_of_ble_eq_true rfl)) dX12_factor_80 ⟨Nat.le_of_ble_eq_true rfl, Nat.le_of_ble_eq_true rfl⟩) hS (fun q _ h => hFc q h) hFc (fun u tC H1 locs htC hvm hw_9 hB hz1 hk1 hS => ?_)
    obtain ⟨fS9_10, sp9_11, wg9_12⟩ := u
    try dsimp only at hw_9 hB
    obtain ⟨hP1, hK1, hD1⟩ := hB
    rw [htC] at hP1
    have hK1 := va_K.moved hvm.symm hK1
    obtain ⟨hP, hD⟩ := va_join (wr := []) (w1 := [(zo14irriiiiiirriirrrrlriiii m0 th aS aI im (nI a) sp9_11 (nI E) wg9_12 2 aB aT se dn aG aO aN aD bv aY rn kd nu tv), (zaI aS cS 901 fS9_10)]) hP hD [0, 1] [] rfl rfl (by decide) (by decide) hk1 hFc hP1 hD1
    have hK := (hK.sub (tys' := []) [] rfl).app hK1
    generalize H1 = H at hP hS ⊢
    have hP : va_P (dC, dI) vwCl [(zo14irriiiiiirriirrrrlriiii m0 th aS aI im (nI a) sp9_11 (nI E) wg9_12 2 aB aT se dn aG aO aN aD bv aY rn kd nu tv), (zaI aS cS 901 fS9_10)] H := hP
    have hD : va_D A [(zo14irriiiiiirriirrrrlriiii m0 th aS aI im (nI a) sp9_11 (nI E) wg9_12 2 aB aT se dn aG aO aN aD bv aY rn kd nu tv), (zaI aS cS 901 fS9_10)] := hD
    have hK : va_K (dC, dI) vwCl [(cS, .int)] s := hK
    obtain ⟨p_13, k_14, rfl, h_16, h_17, hF_18, q9⟩ := hw_9
    rcases q9 with rfl | ⟨rfl, h_19, hI_20, h_21⟩
    · skip
      refine lv_aload_n hx hb dX12_factor_83 rfl (lv_at hl 1 rfl) ?_
      refine lv_iconst (v := (-1)) hx hb dX12_factor_84 (by decide) ?_
      have hPc := hP.sub (ws' := [(zo14irriiiiiirriirrrrlriiii m0 th aS aI im (nI a) (nI p_13) (nI E) 1 2 aB aT se dn aG aO aN aD bv aY rn kd nu tv)]) [0] rfl
      have hKc := hK.sub (tys' := []) [] rfl
      refine va_csv (va_runV (As := [.int (-1)]) (rest := []) ⟨hx, hb, hml, hown, hts⟩ (c_emitsW l dC dI m0 aS aI aB aT aG aO aN aD aY th im (nI a) (nI p_13) (nI E) 1 2 se dn rn kd nu tv bv (-1)) (cwV 1 hts gX12_factor_X12_emits rfl rfl rfl hd_yX12_emits ⟨Nat.le_of_ble_eq_true rfl, Nat.le_of_ble_eq_true rfl⟩) ⟨fun a U g mk q => by obtain ⟨q0, qP, qK⟩ := q; exact ⟨q0, qP, va_K.moved (u := U) (U := U.calling g mk a) (Vm.Alike.refl U.vm) qK⟩, va_recv hK hP (ci := 14) (q := (RX12, TX12, 23)) (q0 := 0) rfl rfl, fun U hU hW => ⟨rfl, by rw [hU]; exact hPc, va_K.moved hW.alike hKc⟩⟩ rfl rfl hl.1 rfl (lv_room (Nat.le_of_ble_eq_true rfl)) dX12_factor_85 ⟨Nat.le_of_ble_eq_true rfl, Nat.le_of_ble_eq_true rfl⟩).run (fun hw_23 => ?_)
      refine lv_goto (tgt := 101) hx hb dX12_factor_88 (by decide) ?_
      refine lv_aload_n hx hb dX12_factor_101 rfl (lv_at hl 1 rfl) ?_
      refine lv_dup hx hb dX12_factor_102 rfl ?_
      refine va_get (D := (dC, dI)) (ci := 14) (v := .int 2) (C := RX12) (T := TX12) (N := 23) hx hb hts kc_factor1_0 hown hK hP 0 rfl rfl 8 (by decide) (hts (.fieldLink RX12 89 "MistHeapsModel" "open" "I") kc_factor1_2) (fun _ h9 => h9) rfl dX12_factor_103 ?_
      refine lv_iconst (v := 1) hx hb dX12_factor_106 (by decide) ?_
      refine lv_isub hx hb dX12_factor_107 ?_
      refine qi_as (y := 1) (by decide) ?_
      refine va_put (D := (dC, dI)) (ci := 14) (v := .int 1) (ty := .int) (C := RX12) (T := TX12) (N := 23) hx hb hts kc_factor1_0 tyX12 tyX12_ok nmX12 hown hK hP hD hS 0 rfl rfl 8 (by decide) (hts (.fieldLink RX12 89 "MistHeapsModel" "open" "I") kc_factor1_2) (fun _ h9 => h9) rfl (by decide +kernel) rfl rfl (Nat.le_of_ble_eq_true rfl) dX12_factor_108 (fun H locs hP hD hS => ?_)
      have hP : va_P (dC, dI) vwCl [(zo14irriiiiiirriirrrrlriiii m0 th aS aI im (nI a) (nI p_13) (nI E) 1 1 aB aT se dn aG aO aN aD bv aY rn kd nu tv), (zaI aS cS 901 fS9_10)] H := hP
      have hD : va_D A [(zo14irriiiiiirriirrrrlriiii m0 th aS aI im (nI a) (nI p_13) (nI E) 1 1 aB aT se dn aG aO aN aD bv aY rn kd nu tv), (zaI aS cS 901 fS9_10)] := hD
      rw [hQ]
      have hP9 := hP.sub (ws' := [(zo14irriiiiiirriirrrrlriiii m0 th aS aI im (nI a) (nI p_13) (nI E) 1 1 aB aT se dn aG aO aN aD bv aY rn kd nu tv), (zaI aS cS 901 fS9_10)]) [0, 1] rfl
      have hD9 := hD.sub (ws' := [(zo14irriiiiiirriirrrrlriiii m0 th aS aI im (nI a) (nI p_13) (nI E) 1 1 aB aT se dn aG aO aN aD bv aY rn kd nu tv), (zaI aS cS 901 fS9_10)]) [0, 1] (by decide) rfl
      have hK9 := hK.sub (tys' := [(cS, .int)]) [0] rfl
      exact W.vret hx hb hr (fun tQ htQ hWQ => ⟨⟨(fS9_10, (nI p_13), 1), rfl, ⟨p_13, k, rfl, by omega, by omega, (PF.rf).tr hF_18, Or.inl rfl⟩, by rw [htQ]; exact hP9, va_K.moved hWQ.alike hK9, hD9⟩, hS.F htQ⟩) hS.2.2 dX12_factor_111
    · skip
      have k5 := hI_20.2.2.2.2.1
      refine lv_aload_n hx hb dX12_factor_83 rfl (lv_at hl 1 rfl) ?_
      refine lv_iconst (v := (-1)) hx hb dX12_factor_84 (by decide) ?_
      have hPc := hP.sub (ws' := [(zo14irriiiiiirriirrrrlriiii m0 th aS aI im (nI a) (nI p_13) (nI E) 0 2 aB aT se dn aG aO aN aD bv aY rn kd nu tv), (zaI aS cS 901 fS9_10)]) [0, 1] rfl
      have hDc := hD.sub (ws' := [(zo14irriiiiiirriirrrrlriiii m0 th aS aI im (nI a) (nI p_13) (nI E) 0 2 aB aT se dn aG aO aN aD bv aY rn kd nu tv), (zaI aS cS 901 fS9_10)]) [0, 1] (by decide) rfl
      have hKc := hK.sub (tys' := [(cS, .int)]) [0] rfl
      have hFc := va_free (wc := [(zo14irriiiiiirriirrrrlriiii m0 th aS aI im (nI a) (nI p_13) (nI E) 0 2 aB aT se dn aG aO aN aD bv aY rn kd nu tv), (zaI aS cS 901 fS9_10)]) hD hS hA [0, 1] rfl
      refine va_callv (va_runV (As := [.int (-1)]) (rest := []) ⟨hx, hb, hml, hown, hts⟩ (c_emits l dC dI m0 aS aI aB aT aG aO aN aD aY th im (nI a) (nI p_13) (nI E) 0 2 se dn rn kd nu tv bv cS fS9_10 a k_14 (-1) H.size (ga) ((hI_20).2.2.2.1) (by have := (hI_20).2.2.2.2.1; omega)) (cwV 1 hts gX12_factor_X12_emits rfl rfl rfl hd_yX12_emits ⟨Nat.le_of_ble_eq_true rfl, Nat.le_of_ble_eq_true rfl⟩) ⟨fun a U g mk q => by obtain ⟨q0, q1, qP, qK, qD⟩ := q; exact ⟨q0, q1, qP, va_K.moved (u := U) (U := U.calling g mk a) (Vm.Alike.refl U.vm) qK, qD⟩, va_recv hK hP (ci := 14) (q := (RX12, TX12, 23)) (q0 := 0) rfl rfl, fun U hU hW => ⟨rfl, by rw [hU], by rw [hU]; exact hPc, va_K.moved hW.alike hKc, hDc.weaken (fun _ _ _ _ => trivial)⟩⟩ rfl rfl hl.1 rfl (lv_room (Nat.le_of_ble_eq_true rfl)) dX12_factor_85 ⟨Nat.le_of_ble_eq_true rfl, Nat.le_of_ble_eq_true rfl⟩) hS (fun q _ h => hFc q h) hFc (fun u tC H1 locs htC hvm hw_25 hB hz1 hk1 hS => ?_)
      obtain ⟨fS9_26, rfl⟩ : ∃ z, z = u := ⟨_, rfl⟩
      try dsimp only at hw_25 hB
      obtain ⟨hP1, hK1, hD1⟩ := hB
      rw [htC] at hP1
      have hK1 := va_K.moved hvm.symm hK1
      obtain ⟨hP, hD⟩ := va_join (wr := []) (w1 := [(zo14irriiiiiirriirrrrlriiii m0 th aS aI im (nI a) (nI p_13) (nI E) 0 2 aB aT se dn aG aO aN aD bv aY rn kd nu tv), (zaI aS cS 901 fS9_26)]) hP hD [0, 1] [] rfl rfl (by decide) (by decide) hk1 hFc hP1 hD1
      have hK := (hK.sub (tys' := []) [] rfl).app hK1
      generalize H1 = H at hP hS ⊢
      have hP : va_P (dC, dI) vwCl [(zo14irriiiiiirriirrrrlriiii m0 th aS aI im (nI a) (nI p_13) (nI E) 0 2 aB aT se dn aG aO aN aD bv aY rn kd nu tv), (zaI aS cS 901 fS9_26)] H := hP
      have hD : va_D A [(zo14irriiiiiirriirrrrlriiii m0 th aS aI im (nI a) (nI p_13) (nI E) 0 2 aB aT se dn aG aO aN aD bv aY rn kd nu tv), (zaI aS cS 901 fS9_26)] := hD
      have hK : va_K (dC, dI) vwCl [(cS, .int)] s := hK
      obtain rfl : fS9_26 = emt fS9_10 a k_14 (-1) := by rcases hw_25 with ⟨q, _⟩ | ⟨_, q⟩; exact absurd rfl q; exact q
      have hI_28 : PI (emt fS9_10 a k_14 (-1)) a (k_14 + 1) (d + 1) p_13 E := ((hI_20).mono (by omega) (by omega)).em (by omega) (by omega) (stepd_not (by omega))
      have hF_29 : PF a fS (emt fS9_10 a k_14 (-1)) := ((PF.rf).tr hF_18).tr (PF_emt (k := k_14) (x := (-1)) ga (by have := (hI_20).2.2.2.2.1; omega))
      refine lv_goto (tgt := 101) hx hb dX12_factor_88 (by decide) ?_
      refine lv_aload_n hx hb dX12_factor_101 rfl (lv_at hl 1 rfl) ?_
      refine lv_dup hx hb dX12_factor_102 rfl ?_
      refine va_get (D := (dC, dI)) (ci := 14) (v := .int 2) (C := RX12) (T := TX12) (N := 23) hx hb hts kc_factor1_0 hown hK hP 0 rfl rfl 8 (by decide) (hts (.fieldLink RX12 89 "MistHeapsModel" "open" "I") kc_factor1_2) (fun _ h9 => h9) rfl dX12_factor_103 ?_
      refine lv_iconst (v := 1) hx hb dX12_factor_106 (by decide) ?_
      refine lv_isub hx hb dX12_factor_107 ?_
      refine qi_as (y := 1) (by decide) ?_
      refine va_put (D := (dC, dI)) (ci := 14) (v := .int 1) (ty := .int) (C := RX12) (T := TX12) (N := 23) hx hb hts kc_factor1_0 tyX12 tyX12_ok nmX12 hown hK hP hD hS 0 rfl rfl 8 (by decide) (hts (.fieldLink RX12 89 "MistHeapsModel" "open" "I") kc_factor1_2) (fun _ h9 => h9) rfl (by decide +kernel) rfl rfl (Nat.le_of_ble_eq_true rfl) dX12_factor_108 (fun H locs hP hD hS => ?_)
      have hP : va_P (dC, dI) vwCl [(zo14irriiiiiirriirrrrlriiii m0 th aS aI im (nI a) (nI p_13) (nI E) 0 1 aB aT se dn aG aO aN aD bv aY rn kd nu tv), (zaI aS cS 901 (emt fS9_10 a k_14 (-1)))] H := hP
      have hD : va_D A [(zo14irriiiiiirriirrrrlriiii m0 th aS aI im (nI a) (nI p_13) (nI E) 0 1 aB aT se dn aG aO aN aD bv aY rn kd nu tv), (zaI aS cS 901 (emt fS9_10 a k_14 (-1)))] := hD
      rw [hQ]
      have hP9 := hP.sub (ws' := [(zo14irriiiiiirriirrrrlriiii m0 th aS aI im (nI a) (nI p_13) (nI E) 0 1 aB aT se dn aG aO aN aD bv aY rn kd nu tv), (zaI aS cS 901 (emt fS9_10 a k_14 (-1)))]) [0, 1] rfl
      have hD9 := hD.sub (ws' := [(zo14irriiiiiirriirrrrlriiii m0 th aS aI im (nI a) (nI p_13) (nI E) 0 1 aB aT se dn aG aO aN aD bv aY rn kd nu tv), (zaI aS cS 901 (emt fS9_10 a k_14 (-1)))]) [0, 1] (by decide) rfl
      have hK9 := hK.sub (tys' := [(cS, .int)]) [0] rfl
      exact W.vret hx hb hr (fun tQ htQ hWQ => ⟨⟨((emt fS9_10 a k_14 (-1)), (nI p_13), 0), rfl, ⟨p_13, (k_14 + 1), rfl, by omega, by omega, hF_29, Or.inr ⟨rfl, by omega, (hI_28).mono (by omega) (by omega), by omega⟩⟩, by rw [htQ]; exact hP9, va_K.moved hWQ.alike hK9, hD9⟩, hS.F htQ⟩) hS.2.2 dX12_factor_111
  · skip
    refine lv_iload_n hx hb dX12_factor_19 rfl (lv_at hl 0 rfl) ?_
    refine lv_bipush (v := 40) hx hb dX12_factor_20 (by decide) ?_
    refine lv_icmp_ne (tgt := 112) hx hb dX12_factor_22 (by decide) (fun c_30 => ?_) (fun c_30 => ?_)
    · skip
      refine lv_aload_n hx hb dX12_factor_112 rfl (lv_at hl 1 rfl) ?_
      refine va_ldcS hx hb hown (show vk_R RX12 101 "hkrcms" (sK 6) s from hE.1 6 (by decide)) dX12_factor_113 ?_
      have hPc := hP.sub (ws' := [(zo14irriiiiiirriirrrrlriiii m0 th aS aI im (nI a) (nI p0) (nI E) 0 1 aB aT se dn aG aO aN aD bv aY rn kd nu tv), (zaI aS cS 901 fS)]) [0, 1] rfl
      have hDc := hD.sub (ws' := [(zo14irriiiiiirriirrrrlriiii m0 th aS aI im (nI a) (nI p0) (nI E) 0 1 aB aT se dn aG aO aN aD bv aY rn kd nu tv), (zaI aS cS 901 fS)]) [0, 1] (by decide) rfl
      have hKc := hK.sub (tys' := [(cS, .int)]) [0] rfl
      have hFc := va_free (wc := [(zo14irriiiiiirriirrrrlriiii m0 th aS aI im (nI a) (nI p0) (nI E) 0 1 aB aT se dn aG aO aN aD bv aY rn kd nu tv), (zaI aS cS 901 fS)]) hD hS hA [0, 1] rfl
      refine va_calli (va_runV (As := [.ref (sK 6)]) (rest := []) ⟨hx, hb, hml, hown, hts⟩ (c_among l dC dI sK sV m0 aS aI aB aT aG aO aN aD aY th im (nI a) (nI p0) (nI E) 0 1 se dn rn kd nu tv bv cS fS a p0 E 6 H.size (by omega) (by omega) (by omega) (by decide)) (cwV 1 hts gX12_factor_X12_among rfl rfl rfl hd_yX12_among ⟨Nat.le_of_ble_eq_true rfl, Nat.le_of_ble_eq_true rfl⟩) ⟨fun a U g mk q => by obtain ⟨q0, q1, qP, qK, qD, qhE⟩ := q; exact ⟨q0, q1, qP, va_K.moved (u := U) (U := U.calling g mk a) (Vm.Alike.refl U.vm) qK, qD, qhE.same rfl rfl⟩, va_recv hK hP (ci := 14) (q := (RX12, TX12, 23)) (q0 := 0) rfl rfl, fun U hU hW => ⟨rfl, by rw [hU], by rw [hU]; exact hPc, va_K.moved hW.alike hKc, hDc.weaken (fun _ _ _ _ => trivial), hE.call hS hU hW (fun q h => hFc q h)⟩⟩ rfl rfl hl.1 rfl (lv_room (Nat.le_of_ble_eq_true rfl)) dX12_factor_115 ⟨Nat.le_of_ble_eq_true rfl, Nat.le_of_ble_eq_true rfl⟩) hS (fun q _ h => hFc q h) hFc (fun r_31 u tC H1 locs htC hvm hw_32 hB hz1 hk1 hS => ?_)
      obtain ⟨sp9_33, rfl⟩ : ∃ z, z = u := ⟨_, rfl⟩
      try dsimp only at hw_32 hB
      obtain ⟨hP1, hK1, hD1⟩ := hB
      rw [htC] at hP1
      have hK1 := va_K.moved hvm.symm hK1
      obtain ⟨hP, hD⟩ := va_join (wr := []) (w1 := [(zo14irriiiiiirriirrrrlriiii m0 th aS aI im (nI a) sp9_33 (nI E) 0 1 aB aT se dn aG aO aN aD bv aY rn kd nu tv), (zaI aS cS 901 fS)]) hP hD [0, 1] [] rfl rfl (by decide) (by decide) hk1 hFc hP1 hD1
      have hK := (hK.sub (tys' := []) [] rfl).app hK1
      generalize H1 = H at hP hS ⊢
      have hP : va_P (dC, dI) vwCl [(zo14irriiiiiirriirrrrlriiii m0 th aS aI im (nI a) sp9_33 (nI E) 0 1 aB aT se dn aG aO aN aD bv aY rn kd nu tv), (zaI aS cS 901 fS)] H := hP
      have hD : va_D A [(zo14irriiiiiirriirrrrlriiii m0 th aS aI im (nI a) sp9_33 (nI E) 0 1 aB aT se dn aG aO aN aD bv aY rn kd nu tv), (zaI aS cS 901 fS)] := hD
      have hK : va_K (dC, dI) vwCl [(cS, .int)] s := hK
      rcases hw_32 with ⟨rfl, rfl⟩ | ⟨j_34, hj_35, rfl, h_36, rfl⟩
      · skip
        refine lv_istore_n (lv' := [(2, .int (-1)), (1, .int r_2), (0, .ref m0)]) hx hb dX12_factor_118 rfl hl (by decide) rfl (fun ls hl => ?_)
        refine lv_aload_n hx hb dX12_factor_119 rfl (lv_at hl 2 rfl) ?_
        refine lv_iload_n hx hb dX12_factor_120 rfl (lv_at hl 0 rfl) ?_
        refine lv_iconst (v := (-1)) hx hb dX12_factor_121 (by decide) ?_
        refine lv_icmp_ne (tgt := 129) hx hb dX12_factor_122 (by decide) (fun c_37 => absurd c_37 (by decide)) (fun _ => ?_)
        refine lv_iconst (v := 1) hx hb dX12_factor_125 (by decide) ?_
        refine lv_goto (tgt := 130) hx hb dX12_factor_126 (by decide) ?_
        refine va_put (D := (dC, dI)) (ci := 14) (v := .int 1) (ty := .boolean) (C := RX12) (T := TX12) (N := 23) hx hb hts kc_factor1_0 tyX12 tyX12_ok nmX12 hown hK hP hD hS 0 rfl rfl 7 (by decide) (hts (.fieldLink RX12 65 "MistHeapsModel" "isWrong" "Z") kc_factor1_1) (fun _ h9 => h9) rfl (by decide +kernel) rfl rfl (Nat.le_of_ble_eq_true rfl) dX12_factor_130 (fun H locs hP hD hS => ?_)
        have hP : va_P (dC, dI) vwCl [(zo14irriiiiiirriirrrrlriiii m0 th aS aI im (nI a) (nI p0) (nI E) 1 1 aB aT se dn aG aO aN aD bv aY rn kd nu tv), (zaI aS cS 901 fS)] H := hP
        have hD : va_D A [(zo14irriiiiiirriirrrrlriiii m0 th aS aI im (nI a) (nI p0) (nI E) 1 1 aB aT se dn aG aO aN aD bv aY rn kd nu tv), (zaI aS cS 901 fS)] := hD
        refine lv_aload_n hx hb dX12_factor_133 rfl (lv_at hl 2 rfl) ?_
        refine va_get (D := (dC, dI)) (ci := 14) (v := .int 1) (C := RX12) (T := TX12) (N := 23) hx hb hts kc_factor1_0 hown hK hP 0 rfl rfl 7 (by decide) (hts (.fieldLink RX12 65 "MistHeapsModel" "isWrong" "Z") kc_factor1_1) (fun _ h9 => h9) rfl dX12_factor_134 ?_
        refine lv_if_eq (tgt := 144) hx hb dX12_factor_137 (by decide) (fun c_38 => absurd c_38 (by decide)) (fun _ => ?_)
        refine lv_iconst (v := 0) hx hb dX12_factor_140 (by decide) ?_
        refine lv_goto (tgt := 150) hx hb dX12_factor_141 (by decide) ?_
        refine lv_istore_n (lv' := [(3, .int 0), (2, .int (-1)), (1, .int r_2), (0, .ref m0)]) hx hb dX12_factor_150 rfl hl (by decide) rfl (fun ls hl => ?_)
        refine lv_aload_n hx hb dX12_factor_151 rfl (lv_at hl 3 rfl) ?_
        refine lv_aload_n hx hb dX12_factor_152 rfl (lv_at hl 3 rfl) ?_
        refine va_get (D := (dC, dI)) (ci := 14) (v := .int 1) (C := RX12) (T := TX12) (N := 23) hx hb hts kc_factor1_0 hown hK hP 0 rfl rfl 7 (by decide) (hts (.fieldLink RX12 65 "MistHeapsModel" "isWrong" "Z") kc_factor1_1) (fun _ h9 => h9) rfl dX12_factor_153 ?_
        refine lv_if_ne (tgt := 164) hx hb dX12_factor_156 (by decide) (fun _ => ?_) (fun c_39 => absurd c_39 (by decide))
        refine lv_iconst (v := 1) hx hb dX12_factor_164 (by decide) ?_
        refine lv_goto (tgt := 169) hx hb dX12_factor_165 (by decide) ?_
        refine va_put (D := (dC, dI)) (ci := 14) (v := .int 1) (ty := .boolean) (C := RX12) (T := TX12) (N := 23) hx hb hts kc_factor1_0 tyX12 tyX12_ok nmX12 hown hK hP hD hS 0 rfl rfl 7 (by decide) (hts (.fieldLink RX12 65 "MistHeapsModel" "isWrong" "Z") kc_factor1_1) (fun _ h9 => h9) rfl (by decide +kernel) rfl rfl (Nat.le_of_ble_eq_true rfl) dX12_factor_169 (fun H locs hP hD hS => ?_)
        have hP : va_P (dC, dI) vwCl [(zo14irriiiiiirriirrrrlriiii m0 th aS aI im (nI a) (nI p0) (nI E) 1 1 aB aT se dn aG aO aN aD bv aY rn kd nu tv), (zaI aS cS 901 fS)] H := hP
        have hD : va_D A [(zo14irriiiiiirriirrrrlriiii m0 th aS aI im (nI a) (nI p0) (nI E) 1 1 aB aT se dn aG aO aN aD bv aY rn kd nu tv), (zaI aS cS 901 fS)] := hD
        refine lv_aload_n hx hb dX12_factor_172 rfl (lv_at hl 3 rfl) ?_
        have hPc := hP.sub (ws' := [(zo14irriiiiiirriirrrrlriiii m0 th aS aI im (nI a) (nI p0) (nI E) 1 1 aB aT se dn aG aO aN aD bv aY rn kd nu tv), (zaI aS cS 901 fS)]) [0, 1] rfl
        have hDc := hD.sub (ws' := [(zo14irriiiiiirriirrrrlriiii m0 th aS aI im (nI a) (nI p0) (nI E) 1 1 aB aT se dn aG aO aN aD bv aY rn kd nu tv), (zaI aS cS 901 fS)]) [0, 1] (by decide) rfl
        have hKc := hK.sub (tys' := [(cS, .int)]) [0] rfl
        have hFc := va_free (wc := [(zo14irriiiiiirriirrrrlriiii m0 th aS aI im (nI a) (nI p0) (nI E) 1 1 aB aT se dn aG aO aN aD bv aY rn kd nu tv), (zaI aS cS 901 fS)]) hD hS hA [0, 1] rfl
        refine va_calli (va_runV (As := []) (rest := []) ⟨hx, hb, hml, hown, hts⟩ (c_figures l dC dI m0 aS aI aB aT aG aO aN aD aY th im (nI a) (nI p0) (nI E) 1 1 se dn rn kd nu tv bv cS fS a p0 E H.size (by omega) (by omega) (by omega) (Or.inr rfl)) (cwV 0 hts gX12_factor_X12_figures rfl rfl rfl hd_yX12_figures ⟨Nat.le_of_ble_eq_true rfl, Nat.le_of_ble_eq_true rfl⟩) ⟨fun a U g mk q => by obtain ⟨q0, q1, qP, qK, qD⟩ := q; exact ⟨q0, q1, qP, va_K.moved (u := U) (U := U.calling g mk a) (Vm.Alike.refl U.vm) qK, qD⟩, va_recv hK hP (ci := 14) (q := (RX12, TX12, 23)) (q0 := 0) rfl rfl, fun U hU hW => ⟨rfl, by rw [hU], by rw [hU]; exact hPc, va_K.moved hW.alike hKc, hDc.weaken (fun _ _ _ _ => trivial)⟩⟩ rfl rfl hl.1 rfl (lv_room (Nat.le_of_ble_eq_true rfl)) dX12_factor_173 ⟨Nat.le_of_ble_eq_true rfl, Nat.le_of_ble_eq_true rfl⟩) hS (fun q _ h => hFc q h) hFc (fun r_40 u tC H1 locs htC hvm hw_41 hB hz1 hk1 hS => ?_)
        obtain ⟨sp9_42, wg9_43⟩ := u
        try dsimp only at hw_41 hB
        obtain ⟨hP1, hK1, hD1⟩ := hB
        rw [htC] at hP1
        have hK1 := va_K.moved hvm.symm hK1
        obtain ⟨hP, hD⟩ := va_join (wr := []) (w1 := [(zo14irriiiiiirriirrrrlriiii m0 th aS aI im (nI a) sp9_42 (nI E) wg9_43 1 aB aT se dn aG aO aN aD bv aY rn kd nu tv), (zaI aS cS 901 fS)]) hP hD [0, 1] [] rfl rfl (by decide) (by decide) hk1 hFc hP1 hD1
        have hK := (hK.sub (tys' := []) [] rfl).app hK1
        generalize H1 = H at hP hS ⊢
        have hP : va_P (dC, dI) vwCl [(zo14irriiiiiirriirrrrlriiii m0 th aS aI im (nI a) sp9_42 (nI E) wg9_43 1 aB aT se dn aG aO aN aD bv aY rn kd nu tv), (zaI aS cS 901 fS)] H := hP
        have hD : va_D A [(zo14irriiiiiirriirrrrlriiii m0 th aS aI im (nI a) sp9_42 (nI E) wg9_43 1 aB aT se dn aG aO aN aD bv aY rn kd nu tv), (zaI aS cS 901 fS)] := hD
        have hK : va_K (dC, dI) vwCl [(cS, .int)] s := hK
        obtain ⟨p_44, v_45, h_46, h_47, rfl, rfl, h_48, h_49, h_50⟩ := hw_41
        rcases h_49 with rfl | rfl
        · skip
          exact absurd (h_50 rfl).1 (by decide)
        · skip
          refine lv_istore (lv' := [(4, .int (nI v_45)), (3, .int 0), (2, .int (-1)), (1, .int r_2), (0, .ref m0)]) hx hb dX12_factor_176 hl (by decide) rfl (fun ls hl => ?_)
          refine lv_aload_n hx hb dX12_factor_178 rfl (lv_at hl 4 rfl) ?_
          refine lv_iload_n hx hb dX12_factor_179 rfl (lv_at hl 2 rfl) ?_
          refine lv_bipush (v := 8) hx hb dX12_factor_180 (by decide) ?_
          refine lv_iload_n hx hb dX12_factor_182 rfl (lv_at hl 1 rfl) ?_
          refine lv_imul hx hb dX12_factor_183 ?_
          refine qi_as (y := 0) (by decide) ?_
          refine lv_iadd hx hb dX12_factor_184 ?_
          refine qi_as (y := (-1)) (by decide) ?_
          refine lv_bipush (v := 32) hx hb dX12_factor_185 (by decide) ?_
          refine lv_iload hx hb dX12_factor_187 (lv_at hl 0 rfl) ?_
          refine lv_imul hx hb dX12_factor_189 ?_
          refine qi_as (y := nI (32 * v_45)) (pk_mul 32 v_45) ?_
          refine lv_iadd hx hb dX12_factor_190 ?_
          have hPc := hP.sub (ws' := [(zo14irriiiiiirriirrrrlriiii m0 th aS aI im (nI a) (nI p_44) (nI E) 1 1 aB aT se dn aG aO aN aD bv aY rn kd nu tv)]) [0] rfl
          have hKc := hK.sub (tys' := []) [] rfl
          refine va_csv (va_runV (As := [.int ((-1) + (nI (32 * v_45)))]) (rest := []) ⟨hx, hb, hml, hown, hts⟩ (c_emitsW l dC dI m0 aS aI aB aT aG aO aN aD aY th im (nI a) (nI p_44) (nI E) 1 1 se dn rn kd nu tv bv ((-1) + (nI (32 * v_45)))) (cwV 1 hts gX12_factor_X12_emits rfl rfl rfl hd_yX12_emits ⟨Nat.le_of_ble_eq_true rfl, Nat.le_of_ble_eq_true rfl⟩) ⟨fun a U g mk q => by obtain ⟨q0, qP, qK⟩ := q; exact ⟨q0, qP, va_K.moved (u := U) (U := U.calling g mk a) (Vm.Alike.refl U.vm) qK⟩, va_recv hK hP (ci := 14) (q := (RX12, TX12, 23)) (q0 := 0) rfl rfl, fun U hU hW => ⟨rfl, by rw [hU]; exact hPc, va_K.moved hW.alike hKc⟩⟩ rfl rfl hl.1 rfl (lv_room (Nat.le_of_ble_eq_true rfl)) dX12_factor_191 ⟨Nat.le_of_ble_eq_true rfl, Nat.le_of_ble_eq_true rfl⟩).run (fun hw_52 => ?_)
          rw [hQ]
          have hP9 := hP.sub (ws' := [(zo14irriiiiiirriirrrrlriiii m0 th aS aI im (nI a) (nI p_44) (nI E) 1 1 aB aT se dn aG aO aN aD bv aY rn kd nu tv), (zaI aS cS 901 fS)]) [0, 1] rfl
          have hD9 := hD.sub (ws' := [(zo14irriiiiiirriirrrrlriiii m0 th aS aI im (nI a) (nI p_44) (nI E) 1 1 aB aT se dn aG aO aN aD bv aY rn kd nu tv), (zaI aS cS 901 fS)]) [0, 1] (by decide) rfl
          have hK9 := hK.sub (tys' := [(cS, .int)]) [0] rfl
          exact W.vret hx hb hr (fun tQ htQ hWQ => ⟨⟨(fS, (nI p_44), 1), rfl, ⟨p_44, k, rfl, by omega, by omega, PF.rf, Or.inl rfl⟩, by rw [htQ]; exact hP9, va_K.moved hWQ.alike hK9, hD9⟩, hS.F htQ⟩) hS.2.2 dX12_factor_194
      · skip
        have hj_35 : j_34 < 6 := hj_35
        refine lv_istore_n (lv' := [(2, .int (nI j_34)), (1, .int r_2), (0, .ref m0)]) hx hb dX12_factor_118 rfl hl (by decide) rfl (fun ls hl => ?_)
        refine lv_aload_n hx hb dX12_factor_119 rfl (lv_at hl 2 rfl) ?_
        refine lv_iload_n hx hb dX12_factor_120 rfl (lv_at hl 0 rfl) ?_
        refine lv_iconst (v := (-1)) hx hb dX12_factor_121 (by decide) ?_
        refine lv_icmp_ne (tgt := 129) hx hb dX12_factor_122 (by decide) (fun c_53 => ?_) (fun c_53 => ?_)
        · skip
          refine lv_iconst (v := 0) hx hb dX12_factor_129 (by decide) ?_
          refine va_put (D := (dC, dI)) (ci := 14) (v := .int 0) (ty := .boolean) (C := RX12) (T := TX12) (N := 23) hx hb hts kc_factor1_0 tyX12 tyX12_ok nmX12 hown hK hP hD hS 0 rfl rfl 7 (by decide) (hts (.fieldLink RX12 65 "MistHeapsModel" "isWrong" "Z") kc_factor1_1) (fun _ h9 => h9) rfl (by decide +kernel) rfl rfl (Nat.le_of_ble_eq_true rfl) dX12_factor_130 (fun H locs hP hD hS => ?_)
          have hP : va_P (dC, dI) vwCl [(zo14irriiiiiirriirrrrlriiii m0 th aS aI im (nI a) (nI (p0 + 1)) (nI E) 0 1 aB aT se dn aG aO aN aD bv aY rn kd nu tv), (zaI aS cS 901 fS)] H := hP
          have hD : va_D A [(zo14irriiiiiirriirrrrlriiii m0 th aS aI im (nI a) (nI (p0 + 1)) (nI E) 0 1 aB aT se dn aG aO aN aD bv aY rn kd nu tv), (zaI aS cS 901 fS)] := hD
          refine lv_aload_n hx hb dX12_factor_133 rfl (lv_at hl 2 rfl) ?_
          refine va_get (D := (dC, dI)) (ci := 14) (v := .int 0) (C := RX12) (T := TX12) (N := 23) hx hb hts kc_factor1_0 hown hK hP 0 rfl rfl 7 (by decide) (hts (.fieldLink RX12 65 "MistHeapsModel" "isWrong" "Z") kc_factor1_1) (fun _ h9 => h9) rfl dX12_factor_134 ?_
          refine lv_if_eq (tgt := 144) hx hb dX12_factor_137 (by decide) (fun _ => ?_) (fun c_54 => absurd c_54 (by decide))
          refine lv_aload_n hx hb dX12_factor_144 rfl (lv_at hl 2 rfl) ?_
          refine va_ldcS hx hb hown (show vk_R RX12 107 "<=>" (sK 7) s from hE.1 7 (by decide)) dX12_factor_145 ?_
          have hPc := hP.sub (ws' := [(zo14irriiiiiirriirrrrlriiii m0 th aS aI im (nI a) (nI (p0 + 1)) (nI E) 0 1 aB aT se dn aG aO aN aD bv aY rn kd nu tv), (zaI aS cS 901 fS)]) [0, 1] rfl
          have hDc := hD.sub (ws' := [(zo14irriiiiiirriirrrrlriiii m0 th aS aI im (nI a) (nI (p0 + 1)) (nI E) 0 1 aB aT se dn aG aO aN aD bv aY rn kd nu tv), (zaI aS cS 901 fS)]) [0, 1] (by decide) rfl
          have hKc := hK.sub (tys' := [(cS, .int)]) [0] rfl
          have hFc := va_free (wc := [(zo14irriiiiiirriirrrrlriiii m0 th aS aI im (nI a) (nI (p0 + 1)) (nI E) 0 1 aB aT se dn aG aO aN aD bv aY rn kd nu tv), (zaI aS cS 901 fS)]) hD hS hA [0, 1] rfl
          refine va_calli (va_runV (As := [.ref (sK 7)]) (rest := []) ⟨hx, hb, hml, hown, hts⟩ (c_among l dC dI sK sV m0 aS aI aB aT aG aO aN aD aY th im (nI a) (nI (p0 + 1)) (nI E) 0 1 se dn rn kd nu tv bv cS fS a (p0 + 1) E 7 H.size (by omega) (by omega) (by omega) (by decide)) (cwV 1 hts gX12_factor_X12_among rfl rfl rfl hd_yX12_among ⟨Nat.le_of_ble_eq_true rfl, Nat.le_of_ble_eq_true rfl⟩) ⟨fun a U g mk q => by obtain ⟨q0, q1, qP, qK, qD, qhE⟩ := q; exact ⟨q0, q1, qP, va_K.moved (u := U) (U := U.calling g mk a) (Vm.Alike.refl U.vm) qK, qD, qhE.same rfl rfl⟩, va_recv hK hP (ci := 14) (q := (RX12, TX12, 23)) (q0 := 0) rfl rfl, fun U hU hW => ⟨rfl, by rw [hU], by rw [hU]; exact hPc, va_K.moved hW.alike hKc, hDc.weaken (fun _ _ _ _ => trivial), hE.call hS hU hW (fun q h => hFc q h)⟩⟩ rfl rfl hl.1 rfl (lv_room (Nat.le_of_ble_eq_true rfl)) dX12_factor_147 ⟨Nat.le_of_ble_eq_true rfl, Nat.le_of_ble_eq_true rfl⟩) hS (fun q _ h => hFc q h) hFc (fun r_55 u tC H1 locs htC hvm hw_56 hB hz1 hk1 hS => ?_)
          obtain ⟨sp9_57, rfl⟩ : ∃ z, z = u := ⟨_, rfl⟩
          try dsimp only at hw_56 hB
          obtain ⟨hP1, hK1, hD1⟩ := hB
          rw [htC] at hP1
          have hK1 := va_K.moved hvm.symm hK1
          obtain ⟨hP, hD⟩ := va_join (wr := []) (w1 := [(zo14irriiiiiirriirrrrlriiii m0 th aS aI im (nI a) sp9_57 (nI E) 0 1 aB aT se dn aG aO aN aD bv aY rn kd nu tv), (zaI aS cS 901 fS)]) hP hD [0, 1] [] rfl rfl (by decide) (by decide) hk1 hFc hP1 hD1
          have hK := (hK.sub (tys' := []) [] rfl).app hK1
          generalize H1 = H at hP hS ⊢
          have hP : va_P (dC, dI) vwCl [(zo14irriiiiiirriirrrrlriiii m0 th aS aI im (nI a) sp9_57 (nI E) 0 1 aB aT se dn aG aO aN aD bv aY rn kd nu tv), (zaI aS cS 901 fS)] H := hP
          have hD : va_D A [(zo14irriiiiiirriirrrrlriiii m0 th aS aI im (nI a) sp9_57 (nI E) 0 1 aB aT se dn aG aO aN aD bv aY rn kd nu tv), (zaI aS cS 901 fS)] := hD
          have hK : va_K (dC, dI) vwCl [(cS, .int)] s := hK
          rcases hw_56 with ⟨rfl, rfl⟩ | ⟨j_58, hj_59, rfl, h_60, rfl⟩
          · skip
            refine lv_istore_n (lv' := [(3, .int (-1)), (2, .int (nI j_34)), (1, .int r_2), (0, .ref m0)]) hx hb dX12_factor_150 rfl hl (by decide) rfl (fun ls hl => ?_)
            refine lv_aload_n hx hb dX12_factor_151 rfl (lv_at hl 3 rfl) ?_
            refine lv_aload_n hx hb dX12_factor_152 rfl (lv_at hl 3 rfl) ?_
            refine va_get (D := (dC, dI)) (ci := 14) (v := .int 0) (C := RX12) (T := TX12) (N := 23) hx hb hts kc_factor1_0 hown hK hP 0 rfl rfl 7 (by decide) (hts (.fieldLink RX12 65 "MistHeapsModel" "isWrong" "Z") kc_factor1_1) (fun _ h9 => h9) rfl dX12_factor_153 ?_
            refine lv_if_ne (tgt := 164) hx hb dX12_factor_156 (by decide) (fun c_61 => absurd c_61 (by decide)) (fun _ => ?_)
            refine lv_iload_n hx hb dX12_factor_159 rfl (lv_at hl 0 rfl) ?_
            refine lv_iconst (v := (-1)) hx hb dX12_factor_160 (by decide) ?_
            refine lv_icmp_ne (tgt := 168) hx hb dX12_factor_161 (by decide) (fun c_62 => absurd c_62 (by decide)) (fun _ => ?_)
            refine lv_iconst (v := 1) hx hb dX12_factor_164 (by decide) ?_
            refine lv_goto (tgt := 169) hx hb dX12_factor_165 (by decide) ?_
            refine va_put (D := (dC, dI)) (ci := 14) (v := .int 1) (ty := .boolean) (C := RX12) (T := TX12) (N := 23) hx hb hts kc_factor1_0 tyX12 tyX12_ok nmX12 hown hK hP hD hS 0 rfl rfl 7 (by decide) (hts (.fieldLink RX12 65 "MistHeapsModel" "isWrong" "Z") kc_factor1_1) (fun _ h9 => h9) rfl (by decide +kernel) rfl rfl (Nat.le_of_ble_eq_true rfl) dX12_factor_169 (fun H locs hP hD hS => ?_)
            have hP : va_P (dC, dI) vwCl [(zo14irriiiiiirriirrrrlriiii m0 th aS aI im (nI a) (nI (p0 + 1)) (nI E) 1 1 aB aT se dn aG aO aN aD bv aY rn kd nu tv), (zaI aS cS 901 fS)] H := hP
            have hD : va_D A [(zo14irriiiiiirriirrrrlriiii m0 th aS aI im (nI a) (nI (p0 + 1)) (nI E) 1 1 aB aT se dn aG aO aN aD bv aY rn kd nu tv), (zaI aS cS 901 fS)] := hD
            refine lv_aload_n hx hb dX12_factor_172 rfl (lv_at hl 3 rfl) ?_
            have hPc := hP.sub (ws' := [(zo14irriiiiiirriirrrrlriiii m0 th aS aI im (nI a) (nI (p0 + 1)) (nI E) 1 1 aB aT se dn aG aO aN aD bv aY rn kd nu tv), (zaI aS cS 901 fS)]) [0, 1] rfl
            have hDc := hD.sub (ws' := [(zo14irriiiiiirriirrrrlriiii m0 th aS aI im (nI a) (nI (p0 + 1)) (nI E) 1 1 aB aT se dn aG aO aN aD bv aY rn kd nu tv), (zaI aS cS 901 fS)]) [0, 1] (by decide) rfl
            have hKc := hK.sub (tys' := [(cS, .int)]) [0] rfl
            have hFc := va_free (wc := [(zo14irriiiiiirriirrrrlriiii m0 th aS aI im (nI a) (nI (p0 + 1)) (nI E) 1 1 aB aT se dn aG aO aN aD bv aY rn kd nu tv), (zaI aS cS 901 fS)]) hD hS hA [0, 1] rfl
            refine va_calli (va_runV (As := []) (rest := []) ⟨hx, hb, hml, hown, hts⟩ (c_figures l dC dI m0 aS aI aB aT aG aO aN aD aY th im (nI a) (nI (p0 + 1)) (nI E) 1 1 se dn rn kd nu tv bv cS fS a (p0 + 1) E H.size (by omega) (by omega) (by omega) (Or.inr rfl)) (cwV 0 hts gX12_factor_X12_figures rfl rfl rfl hd_yX12_figures ⟨Nat.le_of_ble_eq_true rfl, Nat.le_of_ble_eq_true rfl⟩) ⟨fun a U g mk q => by obtain ⟨q0, q1, qP, qK, qD⟩ := q; exact ⟨q0, q1, qP, va_K.moved (u := U) (U := U.calling g mk a) (Vm.Alike.refl U.vm) qK, qD⟩, va_recv hK hP (ci := 14) (q := (RX12, TX12, 23)) (q0 := 0) rfl rfl, fun U hU hW => ⟨rfl, by rw [hU], by rw [hU]; exact hPc, va_K.moved hW.alike hKc, hDc.weaken (fun _ _ _ _ => trivial)⟩⟩ rfl rfl hl.1 rfl (lv_room (Nat.le_of_ble_eq_true rfl)) dX12_factor_173 ⟨Nat.le_of_ble_eq_true rfl, Nat.le_of_ble_eq_true rfl⟩) hS (fun q _ h => hFc q h) hFc (fun r_63 u tC H1 locs htC hvm hw_64 hB hz1 hk1 hS => ?_)
            obtain ⟨sp9_65, wg9_66⟩ := u
            try dsimp only at hw_64 hB
            obtain ⟨hP1, hK1, hD1⟩ := hB
            rw [htC] at hP1
            have hK1 := va_K.moved hvm.symm hK1
            obtain ⟨hP, hD⟩ := va_join (wr := []) (w1 := [(zo14irriiiiiirriirrrrlriiii m0 th aS aI im (nI a) sp9_65 (nI E) wg9_66 1 aB aT se dn aG aO aN aD bv aY rn kd nu tv), (zaI aS cS 901 fS)]) hP hD [0, 1] [] rfl rfl (by decide) (by decide) hk1 hFc hP1 hD1
            have hK := (hK.sub (tys' := []) [] rfl).app hK1
            generalize H1 = H at hP hS ⊢
            have hP : va_P (dC, dI) vwCl [(zo14irriiiiiirriirrrrlriiii m0 th aS aI im (nI a) sp9_65 (nI E) wg9_66 1 aB aT se dn aG aO aN aD bv aY rn kd nu tv), (zaI aS cS 901 fS)] H := hP
            have hD : va_D A [(zo14irriiiiiirriirrrrlriiii m0 th aS aI im (nI a) sp9_65 (nI E) wg9_66 1 aB aT se dn aG aO aN aD bv aY rn kd nu tv), (zaI aS cS 901 fS)] := hD
            have hK : va_K (dC, dI) vwCl [(cS, .int)] s := hK
            obtain ⟨p_67, v_68, h_69, h_70, rfl, rfl, h_71, h_72, h_73⟩ := hw_64
            rcases h_72 with rfl | rfl
            · skip
              exact absurd (h_73 rfl).1 (by decide)
            · skip
              refine lv_istore (lv' := [(4, .int (nI v_68)), (3, .int (-1)), (2, .int (nI j_34)), (1, .int r_2), (0, .ref m0)]) hx hb dX12_factor_176 hl (by decide) rfl (fun ls hl => ?_)
              refine lv_aload_n hx hb dX12_factor_178 rfl (lv_at hl 4 rfl) ?_
              refine lv_iload_n hx hb dX12_factor_179 rfl (lv_at hl 2 rfl) ?_
              refine lv_bipush (v := 8) hx hb dX12_factor_180 (by decide) ?_
              refine lv_iload_n hx hb dX12_factor_182 rfl (lv_at hl 1 rfl) ?_
              refine lv_imul hx hb dX12_factor_183 ?_
              refine qi_as (y := (-8)) (by decide) ?_
              refine lv_iadd hx hb dX12_factor_184 ?_
              refine lv_bipush (v := 32) hx hb dX12_factor_185 (by decide) ?_
              refine lv_iload hx hb dX12_factor_187 (lv_at hl 0 rfl) ?_
              refine lv_imul hx hb dX12_factor_189 ?_
              refine qi_as (y := nI (32 * v_68)) (pk_mul 32 v_68) ?_
              refine lv_iadd hx hb dX12_factor_190 ?_
              have hPc := hP.sub (ws' := [(zo14irriiiiiirriirrrrlriiii m0 th aS aI im (nI a) (nI p_67) (nI E) 1 1 aB aT se dn aG aO aN aD bv aY rn kd nu tv)]) [0] rfl
              have hKc := hK.sub (tys' := []) [] rfl
              refine va_csv (va_runV (As := [.int (((nI j_34) + (-8)) + (nI (32 * v_68)))]) (rest := []) ⟨hx, hb, hml, hown, hts⟩ (c_emitsW l dC dI m0 aS aI aB aT aG aO aN aD aY th im (nI a) (nI p_67) (nI E) 1 1 se dn rn kd nu tv bv (((nI j_34) + (-8)) + (nI (32 * v_68)))) (cwV 1 hts gX12_factor_X12_emits rfl rfl rfl hd_yX12_emits ⟨Nat.le_of_ble_eq_true rfl, Nat.le_of_ble_eq_true rfl⟩) ⟨fun a U g mk q => by obtain ⟨q0, qP, qK⟩ := q; exact ⟨q0, qP, va_K.moved (u := U) (U := U.calling g mk a) (Vm.Alike.refl U.vm) qK⟩, va_recv hK hP (ci := 14) (q := (RX12, TX12, 23)) (q0 := 0) rfl rfl, fun U hU hW => ⟨rfl, by rw [hU]; exact hPc, va_K.moved hW.alike hKc⟩⟩ rfl rfl hl.1 rfl (lv_room (Nat.le_of_ble_eq_true rfl)) dX12_factor_191 ⟨Nat.le_of_ble_eq_true rfl, Nat.le_of_ble_eq_true rfl⟩).run (fun hw_75 => ?_)
              rw [hQ]
              have hP9 := hP.sub (ws' := [(zo14irriiiiiirriirrrrlriiii m0 th aS aI im (nI a) (nI p_67) (nI E) 1 1 aB aT se dn aG aO aN aD bv aY rn kd nu tv), (zaI aS cS 901 fS)]) [0, 1] rfl
              have hD9 := hD.sub (ws' := [(zo14irriiiiiirriirrrrlriiii m0 th aS aI im (nI a) (nI p_67) (nI E) 1 1 aB aT se dn aG aO aN aD bv aY rn kd nu tv), (zaI aS cS 901 fS)]) [0, 1] (by decide) rfl
              have hK9 := hK.sub (tys' := [(cS, .int)]) [0] rfl
              exact W.vret hx hb hr (fun tQ htQ hWQ => ⟨⟨(fS, (nI p_67), 1), rfl, ⟨p_67, k, rfl, by omega, by omega, PF.rf, Or.inl rfl⟩, by rw [htQ]; exact hP9, va_K.moved hWQ.alike hK9, hD9⟩, hS.F htQ⟩) hS.2.2 dX12_factor_194
          · skip
            have hj_59 : j_58 < 3 := hj_59
            refine lv_istore_n (lv' := [(3, .int (nI j_58)), (2, .int (nI j_34)), (1, .int r_2), (0, .ref m0)]) hx hb dX12_factor_150 rfl hl (by decide) rfl (fun ls hl => ?_)
            refine lv_aload_n hx hb dX12_factor_151 rfl (lv_at hl 3 rfl) ?_
            refine lv_aload_n hx hb dX12_factor_152 rfl (lv_at hl 3 rfl) ?_
            refine va_get (D := (dC, dI)) (ci := 14) (v := .int 0) (C := RX12) (T := TX12) (N := 23) hx hb hts kc_factor1_0 hown hK hP 0 rfl rfl 7 (by decide) (hts (.fieldLink RX12 65 "MistHeapsModel" "isWrong" "Z") kc_factor1_1) (fun _ h9 => h9) rfl dX12_factor_153 ?_
            refine lv_if_ne (tgt := 164) hx hb dX12_factor_156 (by decide) (fun c_76 => absurd c_76 (by decide)) (fun _ => ?_)
            refine lv_iload_n hx hb dX12_factor_159 rfl (lv_at hl 0 rfl) ?_
            refine lv_iconst (v := (-1)) hx hb dX12_factor_160 (by decide) ?_
            refine lv_icmp_ne (tgt := 168) hx hb dX12_factor_161 (by decide) (fun c_77 => ?_) (fun c_77 => ?_)
            · skip
              refine lv_iconst (v := 0) hx hb dX12_factor_168 (by decide) ?_
              refine va_put (D := (dC, dI)) (ci := 14) (v := .int 0) (ty := .boolean) (C := RX12) (T := TX12) (N := 23) hx hb hts kc_factor1_0 tyX12 tyX12_ok nmX12 hown hK hP hD hS 0 rfl rfl 7 (by decide) (hts (.fieldLink RX12 65 "MistHeapsModel" "isWrong" "Z") kc_factor1_1) (fun _ h9 => h9) rfl (by decide +kernel) rfl rfl (Nat.le_of_ble_eq_true rfl) dX12_factor_169 (fun H locs hP hD hS => ?_)
              have hP : va_P (dC, dI) vwCl [(zo14irriiiiiirriirrrrlriiii m0 th aS aI im (nI a) (nI ((p0 + 1) + 1)) (nI E) 0 1 aB aT se dn aG aO aN aD bv aY rn kd nu tv), (zaI aS cS 901 fS)] H := hP
              have hD : va_D A [(zo14irriiiiiirriirrrrlriiii m0 th aS aI im (nI a) (nI ((p0 + 1) + 1)) (nI E) 0 1 aB aT se dn aG aO aN aD bv aY rn kd nu tv), (zaI aS cS 901 fS)] := hD
              refine lv_aload_n hx hb dX12_factor_172 rfl (lv_at hl 3 rfl) ?_
              have hPc := hP.sub (ws' := [(zo14irriiiiiirriirrrrlriiii m0 th aS aI im (nI a) (nI ((p0 + 1) + 1)) (nI E) 0 1 aB aT se dn aG aO aN aD bv aY rn kd nu tv), (zaI aS cS 901 fS)]) [0, 1] rfl
              have hDc := hD.sub (ws' := [(zo14irriiiiiirriirrrrlriiii m0 th aS aI im (nI a) (nI ((p0 + 1) + 1)) (nI E) 0 1 aB aT se dn aG aO aN aD bv aY rn kd nu tv), (zaI aS cS 901 fS)]) [0, 1] (by decide) rfl
              have hKc := hK.sub (tys' := [(cS, .int)]) [0] rfl
              have hFc := va_free (wc := [(zo14irriiiiiirriirrrrlriiii m0 th aS aI im (nI a) (nI ((p0 + 1) + 1)) (nI E) 0 1 aB aT se dn aG aO aN aD bv aY rn kd nu tv), (zaI aS cS 901 fS)]) hD hS hA [0, 1] rfl
              refine va_calli (va_runV (As := []) (rest := []) ⟨hx, hb, hml, hown, hts⟩ (c_figures l dC dI m0 aS aI aB aT aG aO aN aD aY th im (nI a) (nI ((p0 + 1) + 1)) (nI E) 0 1 se dn rn kd nu tv bv cS fS a ((p0 + 1) + 1) E H.size (by omega) (by omega) (by omega) (Or.inl rfl)) (cwV 0 hts gX12_factor_X12_figures rfl rfl rfl hd_yX12_figures ⟨Nat.le_of_ble_eq_true rfl, Nat.le_of_ble_eq_true rfl⟩) ⟨fun a U g mk q => by obtain ⟨q0, q1, qP, qK, qD⟩ := q; exact ⟨q0, q1, qP, va_K.moved (u := U) (U := U.calling g mk a) (Vm.Alike.refl U.vm) qK, qD⟩, va_recv hK hP (ci := 14) (q := (RX12, TX12, 23)) (q0 := 0) rfl rfl, fun U hU hW => ⟨rfl, by rw [hU], by rw [hU]; exact hPc, va_K.moved hW.alike hKc, hDc.weaken (fun _ _ _ _ => trivial)⟩⟩ rfl rfl hl.1 rfl (lv_room (Nat.le_of_ble_eq_true rfl)) dX12_factor_173 ⟨Nat.le_of_ble_eq_true rfl, Nat.le_of_ble_eq_true rfl⟩) hS (fun q _ h => hFc q h) hFc (fun r_78 u tC H1 locs htC hvm hw_79 hB hz1 hk1 hS => ?_)
              obtain ⟨sp9_80, wg9_81⟩ := u
              try dsimp only at hw_79 hB
              obtain ⟨hP1, hK1, hD1⟩ := hB
              rw [htC] at hP1
              have hK1 := va_K.moved hvm.symm hK1
              obtain ⟨hP, hD⟩ := va_join (wr := []) (w1 := [(zo14irriiiiiirriirrrrlriiii m0 th aS aI im (nI a) sp9_80 (nI E) wg9_81 1 aB aT se dn aG aO aN aD bv aY rn kd nu tv), (zaI aS cS 901 fS)]) hP hD [0, 1] [] rfl rfl (by decide) (by decide) hk1 hFc hP1 hD1
              have hK := (hK.sub (tys' := []) [] rfl).app hK1
              generalize H1 = H at hP hS ⊢
              have hP : va_P (dC, dI) vwCl [(zo14irriiiiiirriirrrrlriiii m0 th aS aI im (nI a) sp9_80 (nI E) wg9_81 1 aB aT se dn aG aO aN aD bv aY rn kd nu tv), (zaI aS cS 901 fS)] H := hP
              have hD : va_D A [(zo14irriiiiiirriirrrrlriiii m0 th aS aI im (nI a) sp9_80 (nI E) wg9_81 1 aB aT se dn aG aO aN aD bv aY rn kd nu tv), (zaI aS cS 901 fS)] := hD
              have hK : va_K (dC, dI) vwCl [(cS, .int)] s := hK
              obtain ⟨p_82, v_83, h_84, h_85, rfl, rfl, h_86, h_87, h_88⟩ := hw_79
              rcases h_87 with rfl | rfl
              · skip
                obtain ⟨h_88, h_88b⟩ := h_88 rfl
                refine lv_istore (lv' := [(4, .int (nI v_83)), (3, .int (nI j_58)), (2, .int (nI j_34)), (1, .int r_2), (0, .ref m0)]) hx hb dX12_factor_176 hl (by decide) rfl (fun ls hl => ?_)
                refine lv_aload_n hx hb dX12_factor_178 rfl (lv_at hl 4 rfl) ?_
                refine lv_iload_n hx hb dX12_factor_179 rfl (lv_at hl 2 rfl) ?_
                refine lv_bipush (v := 8) hx hb dX12_factor_180 (by decide) ?_
                refine lv_iload_n hx hb dX12_factor_182 rfl (lv_at hl 1 rfl) ?_
                refine lv_imul hx hb dX12_factor_183 ?_
                refine qi_as (y := nI (8 * j_58)) (pk_mul 8 j_58) ?_
                refine lv_iadd hx hb dX12_factor_184 ?_
                refine qi_as (y := nI (j_34 + (8 * j_58))) (nI_add j_34 (8 * j_58)) ?_
                refine lv_bipush (v := 32) hx hb dX12_factor_185 (by decide) ?_
                refine lv_iload hx hb dX12_factor_187 (lv_at hl 0 rfl) ?_
                refine lv_imul hx hb dX12_factor_189 ?_
                refine qi_as (y := nI (32 * v_83)) (pk_mul 32 v_83) ?_
                refine lv_iadd hx hb dX12_factor_190 ?_
                refine qi_as (y := nI ((j_34 + (8 * j_58)) + (32 * v_83))) (nI_add (j_34 + (8 * j_58)) (32 * v_83)) ?_
                have hPc := hP.sub (ws' := [(zo14irriiiiiirriirrrrlriiii m0 th aS aI im (nI a) (nI p_82) (nI E) 0 1 aB aT se dn aG aO aN aD bv aY rn kd nu tv), (zaI aS cS 901 fS)]) [0, 1] rfl
                have hDc := hD.sub (ws' := [(zo14irriiiiiirriirrrrlriiii m0 th aS aI im (nI a) (nI p_82) (nI E) 0 1 aB aT se dn aG aO aN aD bv aY rn kd nu tv), (zaI aS cS 901 fS)]) [0, 1] (by decide) rfl
                have hKc := hK.sub (tys' := [(cS, .int)]) [0] rfl
                have hFc := va_free (wc := [(zo14irriiiiiirriirrrrlriiii m0 th aS aI im (nI a) (nI p_82) (nI E) 0 1 aB aT se dn aG aO aN aD bv aY rn kd nu tv), (zaI aS cS 901 fS)]) hD hS hA [0, 1] rfl
                refine va_callv (va_runV (As := [.int (nI ((j_34 + (8 * j_58)) + (32 * v_83)))]) (rest := []) ⟨hx, hb, hml, hown, hts⟩ (c_emits l dC dI m0 aS aI aB aT aG aO aN aD aY th im (nI a) (nI p_82) (nI E) 0 1 se dn rn kd nu tv bv cS fS a k (nI ((j_34 + (8 * j_58)) + (32 * v_83))) H.size (ga) ((gI).2.2.2.1) (by have := (gI).2.2.2.2.1; omega)) (cwV 1 hts gX12_factor_X12_emits rfl rfl rfl hd_yX12_emits ⟨Nat.le_of_ble_eq_true rfl, Nat.le_of_ble_eq_true rfl⟩) ⟨fun a U g mk q => by obtain ⟨q0, q1, qP, qK, qD⟩ := q; exact ⟨q0, q1, qP, va_K.moved (u := U) (U := U.calling g mk a) (Vm.Alike.refl U.vm) qK, qD⟩, va_recv hK hP (ci := 14) (q := (RX12, TX12, 23)) (q0 := 0) rfl rfl, fun U hU hW => ⟨rfl, by rw [hU], by rw [hU]; exact hPc, va_K.moved hW.alike hKc, hDc.weaken (fun _ _ _ _ => trivial)⟩⟩ rfl rfl hl.1 rfl (lv_room (Nat.le_of_ble_eq_true rfl)) dX12_factor_191 ⟨Nat.le_of_ble_eq_true rfl, Nat.le_of_ble_eq_true rfl⟩) hS (fun q _ h => hFc q h) hFc (fun u tC H1 locs htC hvm hw_90 hB hz1 hk1 hS => ?_)
                obtain ⟨fS9_91, rfl⟩ : ∃ z, z = u := ⟨_, rfl⟩
                try dsimp only at hw_90 hB
                obtain ⟨hP1, hK1, hD1⟩ := hB
                rw [htC] at hP1
                have hK1 := va_K.moved hvm.symm hK1
                obtain ⟨hP, hD⟩ := va_join (wr := []) (w1 := [(zo14irriiiiiirriirrrrlriiii m0 th aS aI im (nI a) (nI p_82) (nI E) 0 1 aB aT se dn aG aO aN aD bv aY rn kd nu tv), (zaI aS cS 901 fS9_91)]) hP hD [0, 1] [] rfl rfl (by decide) (by decide) hk1 hFc hP1 hD1
                have hK := (hK.sub (tys' := []) [] rfl).app hK1
                generalize H1 = H at hP hS ⊢
                have hP : va_P (dC, dI) vwCl [(zo14irriiiiiirriirrrrlriiii m0 th aS aI im (nI a) (nI p_82) (nI E) 0 1 aB aT se dn aG aO aN aD bv aY rn kd nu tv), (zaI aS cS 901 fS9_91)] H := hP
                have hD : va_D A [(zo14irriiiiiirriirrrrlriiii m0 th aS aI im (nI a) (nI p_82) (nI E) 0 1 aB aT se dn aG aO aN aD bv aY rn kd nu tv), (zaI aS cS 901 fS9_91)] := hD
                have hK : va_K (dC, dI) vwCl [(cS, .int)] s := hK
                obtain rfl : fS9_91 = emt fS a k (nI ((j_34 + (8 * j_58)) + (32 * v_83))) := by rcases hw_90 with ⟨q, _⟩ | ⟨_, q⟩; exact absurd rfl q; exact q
                have hI_93 : PI (emt fS a k (nI ((j_34 + (8 * j_58)) + (32 * v_83)))) a (k + 1) (d + 1) p_82 E := ((gI).mono (by omega) (by omega)).em (by omega) (by omega) (stepd_test (by omega) (by omega) (by omega) (by omega))
                have hF_94 : PF a fS (emt fS a k (nI ((j_34 + (8 * j_58)) + (32 * v_83)))) := (PF.rf).tr (PF_emt (k := k) (x := nI ((j_34 + (8 * j_58)) + (32 * v_83))) ga (by have := (gI).2.2.2.2.1; omega))
                rw [hQ]
                have hP9 := hP.sub (ws' := [(zo14irriiiiiirriirrrrlriiii m0 th aS aI im (nI a) (nI p_82) (nI E) 0 1 aB aT se dn aG aO aN aD bv aY rn kd nu tv), (zaI aS cS 901 (emt fS a k (nI ((j_34 + (8 * j_58)) + (32 * v_83)))))]) [0, 1] rfl
                have hD9 := hD.sub (ws' := [(zo14irriiiiiirriirrrrlriiii m0 th aS aI im (nI a) (nI p_82) (nI E) 0 1 aB aT se dn aG aO aN aD bv aY rn kd nu tv), (zaI aS cS 901 (emt fS a k (nI ((j_34 + (8 * j_58)) + (32 * v_83)))))]) [0, 1] (by decide) rfl
                have hK9 := hK.sub (tys' := [(cS, .int)]) [0] rfl
                exact W.vret hx hb hr (fun tQ htQ hWQ => ⟨⟨((emt fS a k (nI ((j_34 + (8 * j_58)) + (32 * v_83)))), (nI p_82), 0), rfl, ⟨p_82, (k + 1), rfl, by omega, by omega, hF_94, Or.inr ⟨rfl, by omega, (hI_93).mono (by omega) (by omega), by omega⟩⟩, by rw [htQ]; exact hP9, va_K.moved hWQ.alike hK9, hD9⟩, hS.F htQ⟩) hS.2.2 dX12_factor_194
              · skip
                refine lv_istore (lv' := [(4, .int (nI v_83)), (3, .int (nI j_58)), (2, .int (nI j_34)), (1, .int r_2), (0, .ref m0)]) hx hb dX12_factor_176 hl (by decide) rfl (fun ls hl => ?_)
                refine lv_aload_n hx hb dX12_factor_178 rfl (lv_at hl 4 rfl) ?_
                refine lv_iload_n hx hb dX12_factor_179 rfl (lv_at hl 2 rfl) ?_
                refine lv_bipush (v := 8) hx hb dX12_factor_180 (by decide) ?_
                refine lv_iload_n hx hb dX12_factor_182 rfl (lv_at hl 1 rfl) ?_
                refine lv_imul hx hb dX12_factor_183 ?_
                refine qi_as (y := nI (8 * j_58)) (pk_mul 8 j_58) ?_
                refine lv_iadd hx hb dX12_factor_184 ?_
                refine qi_as (y := nI (j_34 + (8 * j_58))) (nI_add j_34 (8 * j_58)) ?_
                refine lv_bipush (v := 32) hx hb dX12_factor_185 (by decide) ?_
                refine lv_iload hx hb dX12_factor_187 (lv_at hl 0 rfl) ?_
                refine lv_imul hx hb dX12_factor_189 ?_
                refine qi_as (y := nI (32 * v_83)) (pk_mul 32 v_83) ?_
                refine lv_iadd hx hb dX12_factor_190 ?_
                refine qi_as (y := nI ((j_34 + (8 * j_58)) + (32 * v_83))) (nI_add (j_34 + (8 * j_58)) (32 * v_83)) ?_
                have hPc := hP.sub (ws' := [(zo14irriiiiiirriirrrrlriiii m0 th aS aI im (nI a) (nI p_82) (nI E) 1 1 aB aT se dn aG aO aN aD bv aY rn kd nu tv)]) [0] rfl
                have hKc := hK.sub (tys' := []) [] rfl
                refine va_csv (va_runV (As := [.int (nI ((j_34 + (8 * j_58)) + (32 * v_83)))]) (rest := []) ⟨hx, hb, hml, hown, hts⟩ (c_emitsW l dC dI m0 aS aI aB aT aG aO aN aD aY th im (nI a) (nI p_82) (nI E) 1 1 se dn rn kd nu tv bv (nI ((j_34 + (8 * j_58)) + (32 * v_83)))) (cwV 1 hts gX12_factor_X12_emits rfl rfl rfl hd_yX12_emits ⟨Nat.le_of_ble_eq_true rfl, Nat.le_of_ble_eq_true rfl⟩) ⟨fun a U g mk q => by obtain ⟨q0, qP, qK⟩ := q; exact ⟨q0, qP, va_K.moved (u := U) (U := U.calling g mk a) (Vm.Alike.refl U.vm) qK⟩, va_recv hK hP (ci := 14) (q := (RX12, TX12, 23)) (q0 := 0) rfl rfl, fun U hU hW => ⟨rfl, by rw [hU]; exact hPc, va_K.moved hW.alike hKc⟩⟩ rfl rfl hl.1 rfl (lv_room (Nat.le_of_ble_eq_true rfl)) dX12_factor_191 ⟨Nat.le_of_ble_eq_true rfl, Nat.le_of_ble_eq_true rfl⟩).run (fun hw_96 => ?_)
                rw [hQ]
                have hP9 := hP.sub (ws' := [(zo14irriiiiiirriirrrrlriiii m0 th aS aI im (nI a) (nI p_82) (nI E) 1 1 aB aT se dn aG aO aN aD bv aY rn kd nu tv), (zaI aS cS 901 fS)]) [0, 1] rfl
                have hD9 := hD.sub (ws' := [(zo14irriiiiiirriirrrrlriiii m0 th aS aI im (nI a) (nI p_82) (nI E) 1 1 aB aT se dn aG aO aN aD bv aY rn kd nu tv), (zaI aS cS 901 fS)]) [0, 1] (by decide) rfl
                have hK9 := hK.sub (tys' := [(cS, .int)]) [0] rfl
                exact W.vret hx hb hr (fun tQ htQ hWQ => ⟨⟨(fS, (nI p_82), 1), rfl, ⟨p_82, k, rfl, by omega, by omega, PF.rf, Or.inl rfl⟩, by rw [htQ]; exact hP9, va_K.moved hWQ.alike hK9, hD9⟩, hS.F htQ⟩) hS.2.2 dX12_factor_194
            · skip
              refine lv_iconst (v := 1) hx hb dX12_factor_164 (by decide) ?_
              refine lv_goto (tgt := 169) hx hb dX12_factor_165 (by decide) ?_
              refine va_put (D := (dC, dI)) (ci := 14) (v := .int 1) (ty := .boolean) (C := RX12) (T := TX12) (N := 23) hx hb hts kc_factor1_0 tyX12 tyX12_ok nmX12 hown hK hP hD hS 0 rfl rfl 7 (by decide) (hts (.fieldLink RX12 65 "MistHeapsModel" "isWrong" "Z") kc_factor1_1) (fun _ h9 => h9) rfl (by decide +kernel) rfl rfl (Nat.le_of_ble_eq_true rfl) dX12_factor_169 (fun H locs hP hD hS => ?_)
              have hP : va_P (dC, dI) vwCl [(zo14irriiiiiirriirrrrlriiii m0 th aS aI im (nI a) (nI ((p0 + 1) + 1)) (nI E) 1 1 aB aT se dn aG aO aN aD bv aY rn kd nu tv), (zaI aS cS 901 fS)] H := hP
              have hD : va_D A [(zo14irriiiiiirriirrrrlriiii m0 th aS aI im (nI a) (nI ((p0 + 1) + 1)) (nI E) 1 1 aB aT se dn aG aO aN aD bv aY rn kd nu tv), (zaI aS cS 901 fS)] := hD
              refine lv_aload_n hx hb dX12_factor_172 rfl (lv_at hl 3 rfl) ?_
              have hPc := hP.sub (ws' := [(zo14irriiiiiirriirrrrlriiii m0 th aS aI im (nI a) (nI ((p0 + 1) + 1)) (nI E) 1 1 aB aT se dn aG aO aN aD bv aY rn kd nu tv), (zaI aS cS 901 fS)]) [0, 1] rfl
              have hDc := hD.sub (ws' := [(zo14irriiiiiirriirrrrlriiii m0 th aS aI im (nI a) (nI ((p0 + 1) + 1)) (nI E) 1 1 aB aT se dn aG aO aN aD bv aY rn kd nu tv), (zaI aS cS 901 fS)]) [0, 1] (by decide) rfl
              have hKc := hK.sub (tys' := [(cS, .int)]) [0] rfl
              have hFc := va_free (wc := [(zo14irriiiiiirriirrrrlriiii m0 th aS aI im (nI a) (nI ((p0 + 1) + 1)) (nI E) 1 1 aB aT se dn aG aO aN aD bv aY rn kd nu tv), (zaI aS cS 901 fS)]) hD hS hA [0, 1] rfl
              refine va_calli (va_runV (As := []) (rest := []) ⟨hx, hb, hml, hown, hts⟩ (c_figures l dC dI m0 aS aI aB aT aG aO aN aD aY th im (nI a) (nI ((p0 + 1) + 1)) (nI E) 1 1 se dn rn kd nu tv bv cS fS a ((p0 + 1) + 1) E H.size (by omega) (by omega) (by omega) (Or.inr rfl)) (cwV 0 hts gX12_factor_X12_figures rfl rfl rfl hd_yX12_figures ⟨Nat.le_of_ble_eq_true rfl, Nat.le_of_ble_eq_true rfl⟩) ⟨fun a U g mk q => by obtain ⟨q0, q1, qP, qK, qD⟩ := q; exact ⟨q0, q1, qP, va_K.moved (u := U) (U := U.calling g mk a) (Vm.Alike.refl U.vm) qK, qD⟩, va_recv hK hP (ci := 14) (q := (RX12, TX12, 23)) (q0 := 0) rfl rfl, fun U hU hW => ⟨rfl, by rw [hU], by rw [hU]; exact hPc, va_K.moved hW.alike hKc, hDc.weaken (fun _ _ _ _ => trivial)⟩⟩ rfl rfl hl.1 rfl (lv_room (Nat.le_of_ble_eq_true rfl)) dX12_factor_173 ⟨Nat.le_of_ble_eq_true rfl, Nat.le_of_ble_eq_true rfl⟩) hS (fun q _ h => hFc q h) hFc (fun r_97 u tC H1 locs htC hvm hw_98 hB hz1 hk1 hS => ?_)
              obtain ⟨sp9_99, wg9_100⟩ := u
              try dsimp only at hw_98 hB
              obtain ⟨hP1, hK1, hD1⟩ := hB
              rw [htC] at hP1
              have hK1 := va_K.moved hvm.symm hK1
              obtain ⟨hP, hD⟩ := va_join (wr := []) (w1 := [(zo14irriiiiiirriirrrrlriiii m0 th aS aI im (nI a) sp9_99 (nI E) wg9_100 1 aB aT se dn aG aO aN aD bv aY rn kd nu tv), (zaI aS cS 901 fS)]) hP hD [0, 1] [] rfl rfl (by decide) (by decide) hk1 hFc hP1 hD1
              have hK := (hK.sub (tys' := []) [] rfl).app hK1
              generalize H1 = H at hP hS ⊢
              have hP : va_P (dC, dI) vwCl [(zo14irriiiiiirriirrrrlriiii m0 th aS aI im (nI a) sp9_99 (nI E) wg9_100 1 aB aT se dn aG aO aN aD bv aY rn kd nu tv), (zaI aS cS 901 fS)] H := hP
              have hD : va_D A [(zo14irriiiiiirriirrrrlriiii m0 th aS aI im (nI a) sp9_99 (nI E) wg9_100 1 aB aT se dn aG aO aN aD bv aY rn kd nu tv), (zaI aS cS 901 fS)] := hD
              have hK : va_K (dC, dI) vwCl [(cS, .int)] s := hK
              obtain ⟨p_101, v_102, h_103, h_104, rfl, rfl, h_105, h_106, h_107⟩ := hw_98
              rcases h_106 with rfl | rfl
              · skip
                exact absurd (h_107 rfl).1 (by decide)
              · skip
                refine lv_istore (lv' := [(4, .int (nI v_102)), (3, .int (nI j_58)), (2, .int (nI j_34)), (1, .int r_2), (0, .ref m0)]) hx hb dX12_factor_176 hl (by decide) rfl (fun ls hl => ?_)
                refine lv_aload_n hx hb dX12_factor_178 rfl (lv_at hl 4 rfl) ?_
                refine lv_iload_n hx hb dX12_factor_179 rfl (lv_at hl 2 rfl) ?_
                refine lv_bipush (v := 8) hx hb dX12_factor_180 (by decide) ?_
                refine lv_iload_n hx hb dX12_factor_182 rfl (lv_at hl 1 rfl) ?_
                refine lv_imul hx hb dX12_factor_183 ?_
                refine qi_as (y := nI (8 * j_58)) (pk_mul 8 j_58) ?_
                refine lv_iadd hx hb dX12_factor_184 ?_
                refine qi_as (y := nI (j_34 + (8 * j_58))) (nI_add j_34 (8 * j_58)) ?_
                refine lv_bipush (v := 32) hx hb dX12_factor_185 (by decide) ?_
                refine lv_iload hx hb dX12_factor_187 (lv_at hl 0 rfl) ?_
                refine lv_imul hx hb dX12_factor_189 ?_
                refine qi_as (y := nI (32 * v_102)) (pk_mul 32 v_102) ?_
                refine lv_iadd hx hb dX12_factor_190 ?_
                refine qi_as (y := nI ((j_34 + (8 * j_58)) + (32 * v_102))) (nI_add (j_34 + (8 * j_58)) (32 * v_102)) ?_
                have hPc := hP.sub (ws' := [(zo14irriiiiiirriirrrrlriiii m0 th aS aI im (nI a) (nI p_101) (nI E) 1 1 aB aT se dn aG aO aN aD bv aY rn kd nu tv)]) [0] rfl
                have hKc := hK.sub (tys' := []) [] rfl
                refine va_csv (va_runV (As := [.int (nI ((j_34 + (8 * j_58)) + (32 * v_102)))]) (rest := []) ⟨hx, hb, hml, hown, hts⟩ (c_emitsW l dC dI m0 aS aI aB aT aG aO aN aD aY th im (nI a) (nI p_101) (nI E) 1 1 se dn rn kd nu tv bv (nI ((j_34 + (8 * j_58)) + (32 * v_102)))) (cwV 1 hts gX12_factor_X12_emits rfl rfl rfl hd_yX12_emits ⟨Nat.le_of_ble_eq_true rfl, Nat.le_of_ble_eq_true rfl⟩) ⟨fun a U g mk q => by obtain ⟨q0, qP, qK⟩ := q; exact ⟨q0, qP, va_K.moved (u := U) (U := U.calling g mk a) (Vm.Alike.refl U.vm) qK⟩, va_recv hK hP (ci := 14) (q := (RX12, TX12, 23)) (q0 := 0) rfl rfl, fun U hU hW => ⟨rfl, by rw [hU]; exact hPc, va_K.moved hW.alike hKc⟩⟩ rfl rfl hl.1 rfl (lv_room (Nat.le_of_ble_eq_true rfl)) dX12_factor_191 ⟨Nat.le_of_ble_eq_true rfl, Nat.le_of_ble_eq_true rfl⟩).run (fun hw_109 => ?_)
                rw [hQ]
                have hP9 := hP.sub (ws' := [(zo14irriiiiiirriirrrrlriiii m0 th aS aI im (nI a) (nI p_101) (nI E) 1 1 aB aT se dn aG aO aN aD bv aY rn kd nu tv), (zaI aS cS 901 fS)]) [0, 1] rfl
                have hD9 := hD.sub (ws' := [(zo14irriiiiiirriirrrrlriiii m0 th aS aI im (nI a) (nI p_101) (nI E) 1 1 aB aT se dn aG aO aN aD bv aY rn kd nu tv), (zaI aS cS 901 fS)]) [0, 1] (by decide) rfl
                have hK9 := hK.sub (tys' := [(cS, .int)]) [0] rfl
                exact W.vret hx hb hr (fun tQ htQ hWQ => ⟨⟨(fS, (nI p_101), 1), rfl, ⟨p_101, k, rfl, by omega, by omega, PF.rf, Or.inl rfl⟩, by rw [htQ]; exact hP9, va_K.moved hWQ.alike hK9, hD9⟩, hS.F htQ⟩) hS.2.2 dX12_factor_194
        · skip
          refine lv_iconst (v := 1) hx hb dX12_factor_125 (by decide) ?_
          refine lv_goto (tgt := 130) hx hb dX12_factor_126 (by decide) ?_
          refine va_put (D := (dC, dI)) (ci := 14) (v := .int 1) (ty := .boolean) (C := RX12) (T := TX12) (N := 23) hx hb hts kc_factor1_0 tyX12 tyX12_ok nmX12 hown hK hP hD hS 0 rfl rfl 7 (by decide) (hts (.fieldLink RX12 65 "MistHeapsModel" "isWrong" "Z") kc_factor1_1) (fun _ h9 => h9) rfl (by decide +kernel) rfl rfl (Nat.le_of_ble_eq_true rfl) dX12_factor_130 (fun H locs hP hD hS => ?_)
          have hP : va_P (dC, dI) vwCl [(zo14irriiiiiirriirrrrlriiii m0 th aS aI im (nI a) (nI (p0 + 1)) (nI E) 1 1 aB aT se dn aG aO aN aD bv aY rn kd nu tv), (zaI aS cS 901 fS)] H := hP
          have hD : va_D A [(zo14irriiiiiirriirrrrlriiii m0 th aS aI im (nI a) (nI (p0 + 1)) (nI E) 1 1 aB aT se dn aG aO aN aD bv aY rn kd nu tv), (zaI aS cS 901 fS)] := hD
          refine lv_aload_n hx hb dX12_factor_133 rfl (lv_at hl 2 rfl) ?_
          refine va_get (D := (dC, dI)) (ci := 14) (v := .int 1) (C := RX12) (T := TX12) (N := 23) hx hb hts kc_factor1_0 hown hK hP 0 rfl rfl 7 (by decide) (hts (.fieldLink RX12 65 "MistHeapsModel" "isWrong" "Z") kc_factor1_1) (fun _ h9 => h9) rfl dX12_factor_134 ?_
          refine lv_if_eq (tgt := 144) hx hb dX12_factor_137 (by decide) (fun c_110 => absurd c_110 (by decide)) (fun _ => ?_)
          refine lv_iconst (v := 0) hx hb dX12_factor_140 (by decide) ?_
          refine lv_goto (tgt := 150) hx hb dX12_factor_141 (by decide) ?_
          refine lv_istore_n (lv' := [(3, .int 0), (2, .int (nI j_34)), (1, .int r_2), (0, .ref m0)]) hx hb dX12_factor_150 rfl hl (by decide) rfl (fun ls hl => ?_)
          refine lv_aload_n hx hb dX12_factor_151 rfl (lv_at hl 3 rfl) ?_
          refine lv_aload_n hx hb dX12_factor_152 rfl (lv_at hl 3 rfl) ?_
          refine va_get (D := (dC, dI)) (ci := 14) (v := .int 1) (C := RX12) (T := TX12) (N := 23) hx hb hts kc_factor1_0 hown hK hP 0 rfl rfl 7 (by decide) (hts (.fieldLink RX12 65 "MistHeapsModel" "isWrong" "Z") kc_factor1_1) (fun _ h9 => h9) rfl dX12_factor_153 ?_
          refine lv_if_ne (tgt := 164) hx hb dX12_factor_156 (by decide) (fun _ => ?_) (fun c_111 => absurd c_111 (by decide))
          refine lv_iconst (v := 1) hx hb dX12_factor_164 (by decide) ?_
          refine lv_goto (tgt := 169) hx hb dX12_factor_165 (by decide) ?_
          refine va_put (D := (dC, dI)) (ci := 14) (v := .int 1) (ty := .boolean) (C := RX12) (T := TX12) (N := 23) hx hb hts kc_factor1_0 tyX12 tyX12_ok nmX12 hown hK hP hD hS 0 rfl rfl 7 (by decide) (hts (.fieldLink RX12 65 "MistHeapsModel" "isWrong" "Z") kc_factor1_1) (fun _ h9 => h9) rfl (by decide +kernel) rfl rfl (Nat.le_of_ble_eq_true rfl) dX12_factor_169 (fun H locs hP hD hS => ?_)
          have hP : va_P (dC, dI) vwCl [(zo14irriiiiiirriirrrrlriiii m0 th aS aI im (nI a) (nI (p0 + 1)) (nI E) 1 1 aB aT se dn aG aO aN aD bv aY rn kd nu tv), (zaI aS cS 901 fS)] H := hP
          have hD : va_D A [(zo14irriiiiiirriirrrrlriiii m0 th aS aI im (nI a) (nI (p0 + 1)) (nI E) 1 1 aB aT se dn aG aO aN aD bv aY rn kd nu tv), (zaI aS cS 901 fS)] := hD
          refine lv_aload_n hx hb dX12_factor_172 rfl (lv_at hl 3 rfl) ?_
          have hPc := hP.sub (ws' := [(zo14irriiiiiirriirrrrlriiii m0 th aS aI im (nI a) (nI (p0 + 1)) (nI E) 1 1 aB aT se dn aG aO aN aD bv aY rn kd nu tv), (zaI aS cS 901 fS)]) [0, 1] rfl
          have hDc := hD.sub (ws' := [(zo14irriiiiiirriirrrrlriiii m0 th aS aI im (nI a) (nI (p0 + 1)) (nI E) 1 1 aB aT se dn aG aO aN aD bv aY rn kd nu tv), (zaI aS cS 901 fS)]) [0, 1] (by decide) rfl
          have hKc := hK.sub (tys' := [(cS, .int)]) [0] rfl
          have hFc := va_free (wc := [(zo14irriiiiiirriirrrrlriiii m0 th aS aI im (nI a) (nI (p0 + 1)) (nI E) 1 1 aB aT se dn aG aO aN aD bv aY rn kd nu tv), (zaI aS cS 901 fS)]) hD hS hA [0, 1] rfl
          refine va_calli (va_runV (As := []) (rest := []) ⟨hx, hb, hml, hown, hts⟩ (c_figures l dC dI m0 aS aI aB aT aG aO aN aD aY th im (nI a) (nI (p0 + 1)) (nI E) 1 1 se dn rn kd nu tv bv cS fS a (p0 + 1) E H.size (by omega) (by omega) (by omega) (Or.inr rfl)) (cwV 0 hts gX12_factor_X12_figures rfl rfl rfl hd_yX12_figures ⟨Nat.le_of_ble_eq_true rfl, Nat.le_of_ble_eq_true rfl⟩) ⟨fun a U g mk q => by obtain ⟨q0, q1, qP, qK, qD⟩ := q; exact ⟨q0, q1, qP, va_K.moved (u := U) (U := U.calling g mk a) (Vm.Alike.refl U.vm) qK, qD⟩, va_recv hK hP (ci := 14) (q := (RX12, TX12, 23)) (q0 := 0) rfl rfl, fun U hU hW => ⟨rfl, by rw [hU], by rw [hU]; exact hPc, va_K.moved hW.alike hKc, hDc.weaken (fun _ _ _ _ => trivial)⟩⟩ rfl rfl hl.1 rfl (lv_room (Nat.le_of_ble_eq_true rfl)) dX12_factor_173 ⟨Nat.le_of_ble_eq_true rfl, Nat.le_of_ble_eq_true rfl⟩) hS (fun q _ h => hFc q h) hFc (fun r_112 u tC H1 locs htC hvm hw_113 hB hz1 hk1 hS => ?_)
          obtain ⟨sp9_114, wg9_115⟩ := u
          try dsimp only at hw_113 hB
          obtain ⟨hP1, hK1, hD1⟩ := hB
          rw [htC] at hP1
          have hK1 := va_K.moved hvm.symm hK1
          obtain ⟨hP, hD⟩ := va_join (wr := []) (w1 := [(zo14irriiiiiirriirrrrlriiii m0 th aS aI im (nI a) sp9_114 (nI E) wg9_115 1 aB aT se dn aG aO aN aD bv aY rn kd nu tv), (zaI aS cS 901 fS)]) hP hD [0, 1] [] rfl rfl (by decide) (by decide) hk1 hFc hP1 hD1
          have hK := (hK.sub (tys' := []) [] rfl).app hK1
          generalize H1 = H at hP hS ⊢
          have hP : va_P (dC, dI) vwCl [(zo14irriiiiiirriirrrrlriiii m0 th aS aI im (nI a) sp9_114 (nI E) wg9_115 1 aB aT se dn aG aO aN aD bv aY rn kd nu tv), (zaI aS cS 901 fS)] H := hP
          have hD : va_D A [(zo14irriiiiiirriirrrrlriiii m0 th aS aI im (nI a) sp9_114 (nI E) wg9_115 1 aB aT se dn aG aO aN aD bv aY rn kd nu tv), (zaI aS cS 901 fS)] := hD
          have hK : va_K (dC, dI) vwCl [(cS, .int)] s := hK
          obtain ⟨p_116, v_117, h_118, h_119, rfl, rfl, h_120, h_121, h_122⟩ := hw_113
          rcases h_121 with rfl | rfl
          · skip
            exact absurd (h_122 rfl).1 (by decide)
          · skip
            refine lv_istore (lv' := [(4, .int (nI v_117)), (3, .int 0), (2, .int (nI j_34)), (1, .int r_2), (0, .ref m0)]) hx hb dX12_factor_176 hl (by decide) rfl (fun ls hl => ?_)
            refine lv_aload_n hx hb dX12_factor_178 rfl (lv_at hl 4 rfl) ?_
            refine lv_iload_n hx hb dX12_factor_179 rfl (lv_at hl 2 rfl) ?_
            refine lv_bipush (v := 8) hx hb dX12_factor_180 (by decide) ?_
            refine lv_iload_n hx hb dX12_factor_182 rfl (lv_at hl 1 rfl) ?_
            refine lv_imul hx hb dX12_factor_183 ?_
            refine qi_as (y := 0) (by decide) ?_
            refine lv_iadd hx hb dX12_factor_184 ?_
            refine qi_as (y := nI (j_34 + 0)) (nI_add j_34 0) ?_
            refine lv_bipush (v := 32) hx hb dX12_factor_185 (by decide) ?_
            refine lv_iload hx hb dX12_factor_187 (lv_at hl 0 rfl) ?_
            refine lv_imul hx hb dX12_factor_189 ?_
            refine qi_as (y := nI (32 * v_117)) (pk_mul 32 v_117) ?_
            refine lv_iadd hx hb dX12_factor_190 ?_
            refine qi_as (y := nI ((j_34 + 0) + (32 * v_117))) (nI_add (j_34 + 0) (32 * v_117)) ?_
            have hPc := hP.sub (ws' := [(zo14irriiiiiirriirrrrlriiii m0 th aS aI im (nI a) (nI p_116) (nI E) 1 1 aB aT se dn aG aO aN aD bv aY rn kd nu tv)]) [0] rfl
            have hKc := hK.sub (tys' := []) [] rfl
            refine va_csv (va_runV (As := [.int (nI ((j_34 + 0) + (32 * v_117)))]) (rest := []) ⟨hx, hb, hml, hown, hts⟩ (c_emitsW l dC dI m0 aS aI aB aT aG aO aN aD aY th im (nI a) (nI p_116) (nI E) 1 1 se dn rn kd nu tv bv (nI ((j_34 + 0) + (32 * v_117)))) (cwV 1 hts gX12_factor_X12_emits rfl rfl rfl hd_yX12_emits ⟨Nat.le_of_ble_eq_true rfl, Nat.le_of_ble_eq_true rfl⟩) ⟨fun a U g mk q => by obtain ⟨q0, qP, qK⟩ := q; exact ⟨q0, qP, va_K.moved (u := U) (U := U.calling g mk a) (Vm.Alike.refl U.vm) qK⟩, va_recv hK hP (ci := 14) (q := (RX12, TX12, 23)) (q0 := 0) rfl rfl, fun U hU hW => ⟨rfl, by rw [hU]; exact hPc, va_K.moved hW.alike hKc⟩⟩ rfl rfl hl.1 rfl (lv_room (Nat.le_of_ble_eq_true rfl)) dX12_factor_191 ⟨Nat.le_of_ble_eq_true rfl, Nat.le_of_ble_eq_true rfl⟩).run (fun hw_124 => ?_)
            rw [hQ]
            have hP9 := hP.sub (ws' := [(zo14irriiiiiirriirrrrlriiii m0 th aS aI im (nI a) (nI p_116) (nI E) 1 1 aB aT se dn aG aO aN aD bv aY rn kd nu tv), (zaI aS cS 901 fS)]) [0, 1] rfl
            have hD9 := hD.sub (ws' := [(zo14irriiiiiirriirrrrlriiii m0 th aS aI im (nI a) (nI p_116) (nI E) 1 1 aB aT se dn aG aO aN aD bv aY rn kd nu tv), (zaI aS cS 901 fS)]) [0, 1] (by decide) rfl
            have hK9 := hK.sub (tys' := [(cS, .int)]) [0] rfl
            exact W.vret hx hb hr (fun tQ htQ hWQ => ⟨⟨(fS, (nI p_116), 1), rfl, ⟨p_116, k, rfl, by omega, by omega, PF.rf, Or.inl rfl⟩, by rw [htQ]; exact hP9, va_K.moved hWQ.alike hK9, hD9⟩, hS.F htQ⟩) hS.2.2 dX12_factor_194
    · skip
      subst c_30
      have hlt : p0 < E := hv_lt (f := fS) (by rw [← hw_3]; decide)
      refine lv_aload_n hx hb dX12_factor_25 rfl (lv_at hl 1 rfl) ?_
      refine lv_aload_n hx hb dX12_factor_26 rfl (lv_at hl 1 rfl) ?_
      refine va_get (D := (dC, dI)) (ci := 14) (v := .int 1) (C := RX12) (T := TX12) (N := 23) hx hb hts kc_factor1_0 hown hK hP 0 rfl rfl 8 (by decide) (hts (.fieldLink RX12 89 "MistHeapsModel" "open" "I") kc_factor1_2) (fun _ h9 => h9) rfl dX12_factor_27 ?_
      refine lv_iconst (v := 5) hx hb dX12_factor_30 (by decide) ?_
      refine lv_icmp_ne (tgt := 38) hx hb dX12_factor_31 (by decide) (fun _ => ?_) (fun c_125 => absurd c_125 (by decide))
      refine lv_iconst (v := 0) hx hb dX12_factor_38 (by decide) ?_
      refine va_put (D := (dC, dI)) (ci := 14) (v := .int 0) (ty := .boolean) (C := RX12) (T := TX12) (N := 23) hx hb hts kc_factor1_0 tyX12 tyX12_ok nmX12 hown hK hP hD hS 0 rfl rfl 7 (by decide) (hts (.fieldLink RX12 65 "MistHeapsModel" "isWrong" "Z") kc_factor1_1) (fun _ h9 => h9) rfl (by decide +kernel) rfl rfl (Nat.le_of_ble_eq_true rfl) dX12_factor_39 (fun H locs hP hD hS => ?_)
      have hP : va_P (dC, dI) vwCl [(zo14irriiiiiirriirrrrlriiii m0 th aS aI im (nI a) (nI p0) (nI E) 0 1 aB aT se dn aG aO aN aD bv aY rn kd nu tv), (zaI aS cS 901 fS)] H := hP
      have hD : va_D A [(zo14irriiiiiirriirrrrlriiii m0 th aS aI im (nI a) (nI p0) (nI E) 0 1 aB aT se dn aG aO aN aD bv aY rn kd nu tv), (zaI aS cS 901 fS)] := hD
      refine lv_aload_n hx hb dX12_factor_42 rfl (lv_at hl 1 rfl) ?_
      refine lv_dup hx hb dX12_factor_43 rfl ?_
      refine va_get (D := (dC, dI)) (ci := 14) (v := .int 1) (C := RX12) (T := TX12) (N := 23) hx hb hts kc_factor1_0 hown hK hP 0 rfl rfl 8 (by decide) (hts (.fieldLink RX12 89 "MistHeapsModel" "open" "I") kc_factor1_2) (fun _ h9 => h9) rfl dX12_factor_44 ?_
      refine lv_iconst (v := 1) hx hb dX12_factor_47 (by decide) ?_
      refine lv_iadd hx hb dX12_factor_48 ?_
      refine qi_as (y := 2) (by decide) ?_
      refine va_put (D := (dC, dI)) (ci := 14) (v := .int 2) (ty := .int) (C := RX12) (T := TX12) (N := 23) hx hb hts kc_factor1_0 tyX12 tyX12_ok nmX12 hown hK hP hD hS 0 rfl rfl 8 (by decide) (hts (.fieldLink RX12 89 "MistHeapsModel" "open" "I") kc_factor1_2) (fun _ h9 => h9) rfl (by decide +kernel) rfl rfl (Nat.le_of_ble_eq_true rfl) dX12_factor_49 (fun H locs hP hD hS => ?_)
      have hP : va_P (dC, dI) vwCl [(zo14irriiiiiirriirrrrlriiii m0 th aS aI im (nI a) (nI p0) (nI E) 0 2 aB aT se dn aG aO aN aD bv aY rn kd nu tv), (zaI aS cS 901 fS)] H := hP
      have hD : va_D A [(zo14irriiiiiirriirrrrlriiii m0 th aS aI im (nI a) (nI p0) (nI E) 0 2 aB aT se dn aG aO aN aD bv aY rn kd nu tv), (zaI aS cS 901 fS)] := hD
      refine lv_aload_n hx hb dX12_factor_52 rfl (lv_at hl 1 rfl) ?_
      refine lv_dup hx hb dX12_factor_53 rfl ?_
      refine va_get (D := (dC, dI)) (ci := 14) (v := .int (nI p0)) (C := RX12) (T := TX12) (N := 23) hx hb hts kc_factor1_0 hown hK hP 0 rfl rfl 5 (by decide) (hts (.fieldLink RX12 59 "MistHeapsModel" "spot" "I") kc_factor1_3) (fun _ h9 => h9) rfl dX12_factor_54 ?_
      refine lv_aload_n hx hb dX12_factor_57 rfl (lv_at hl 1 rfl) ?_
      refine va_get (D := (dC, dI)) (ci := 14) (v := .int 0) (C := RX12) (T := TX12) (N := 23) hx hb hts kc_factor1_0 hown hK hP 0 rfl rfl 7 (by decide) (hts (.fieldLink RX12 65 "MistHeapsModel" "isWrong" "Z") kc_factor1_1) (fun _ h9 => h9) rfl dX12_factor_58 ?_
      refine lv_if_eq (tgt := 68) hx hb dX12_factor_61 (by decide) (fun _ => ?_) (fun c_126 => absurd c_126 (by decide))
      refine lv_iconst (v := 1) hx hb dX12_factor_68 (by decide) ?_
      refine lv_iadd hx hb dX12_factor_69 ?_
      refine qi_as (y := nI (p0 + 1)) (nI_add p0 1) ?_
      refine va_put (D := (dC, dI)) (ci := 14) (v := .int (nI (p0 + 1))) (ty := .int) (C := RX12) (T := TX12) (N := 23) hx hb hts kc_factor1_0 tyX12 tyX12_ok nmX12 hown hK hP hD hS 0 rfl rfl 5 (by decide) (hts (.fieldLink RX12 59 "MistHeapsModel" "spot" "I") kc_factor1_3) (fun _ h9 => h9) rfl (by decide +kernel) rfl rfl (Nat.le_of_ble_eq_true rfl) dX12_factor_70 (fun H locs hP hD hS => ?_)
      have hP : va_P (dC, dI) vwCl [(zo14irriiiiiirriirrrrlriiii m0 th aS aI im (nI a) (nI (p0 + 1)) (nI E) 0 2 aB aT se dn aG aO aN aD bv aY rn kd nu tv), (zaI aS cS 901 fS)] H := hP
      have hD : va_D A [(zo14irriiiiiirriirrrrlriiii m0 th aS aI im (nI a) (nI (p0 + 1)) (nI E) 0 2 aB aT se dn aG aO aN aD bv aY rn kd nu tv), (zaI aS cS 901 fS)] := hD
      refine lv_iload_n hx hb dX12_factor_73 rfl (lv_at hl 0 rfl) ?_
      refine lv_bipush (v := 33) hx hb dX12_factor_74 (by decide) ?_
      refine lv_icmp_ne (tgt := 91) hx hb dX12_factor_76 (by decide) (fun _ => ?_) (fun c_127 => absurd c_127 (by decide))
      refine lv_aload_n hx hb dX12_factor_91 rfl (lv_at hl 1 rfl) ?_
      have hPc := hP.sub (ws' := [(zo14irriiiiiirriirrrrlriiii m0 th aS aI im (nI a) (nI (p0 + 1)) (nI E) 0 2 aB aT se dn aG aO aN aD bv aY rn kd nu tv), (zaI aS cS 901 fS)]) [0, 1] rfl
      have hDc := hD.sub (ws' := [(zo14irriiiiiirriirrrrlriiii m0 th aS aI im (nI a) (nI (p0 + 1)) (nI E) 0 2 aB aT se dn aG aO aN aD bv aY rn kd nu tv), (zaI aS cS 901 fS)]) [0, 1] (by decide) rfl
      have hKc := hK.sub (tys' := [(cS, .int)]) [0] rfl
      have hFc := va_free (wc := [(zo14irriiiiiirriirrrrlriiii m0 th aS aI im (nI a) (nI (p0 + 1)) (nI E) 0 2 aB aT se dn aG aO aN aD bv aY rn kd nu tv), (zaI aS cS 901 fS)]) hD hS hA [0, 1] rfl
      refine va_callv (va_runV (As := []) (rest := []) ⟨hx, hb, hml, hown, hts⟩ (c_some2 l dC dI sK sV m0 aS aI aB aT aG aO aN aD aY th im (nI a) (nI (p0 + 1)) (nI E) 0 2 se dn rn kd nu tv bv cS fS a (p0 + 1) E k d H.size ((gI).mono (by omega) (by omega))) (cwV 0 hts gX12_factor_X12_some rfl rfl rfl hd_yX12_some ⟨Nat.le_of_ble_eq_true rfl, Nat.le_of_ble_eq_true rfl⟩) ⟨fun a U g mk q => by obtain ⟨q0, q1, qP, qK, qD, qhE⟩ := q; exact ⟨q0, q1, qP, va_K.moved (u := U) (U := U.calling g mk a) (Vm.Alike.refl U.vm) qK, qD, qhE.same rfl rfl⟩, va_recv hK hP (ci := 14) (q := (RX12, TX12, 23)) (q0 := 0) rfl rfl, fun U hU hW => ⟨rfl, by rw [hU], by rw [hU]; exact hPc, va_K.moved hW.alike hKc, hDc.weaken (fun _ _ _ _ => trivial), hE.call hS hU hW (fun q h => hFc q h)⟩⟩ rfl rfl hl.1 rfl (lv_room (Nat.le_of_ble_eq_true rfl)) dX12_factor_92 ⟨Nat.le_of_ble_eq_true rfl, Nat.le_of_ble_eq_true rfl⟩) hS (fun q _ h => hFc q h) hFc (fun u tC H1 locs htC hvm hw_129 hB hz1 hk1 hS => ?_)
      obtain ⟨fS9_130, sp9_131, wg9_132⟩ := u
      try dsimp only at hw_129 hB
      obtain ⟨hP1, hK1, hD1⟩ := hB
      rw [htC] at hP1
      have hK1 := va_K.moved hvm.symm hK1
      obtain ⟨hP, hD⟩ := va_join (wr := []) (w1 := [(zo14irriiiiiirriirrrrlriiii m0 th aS aI im (nI a) sp9_131 (nI E) wg9_132 2 aB aT se dn aG aO aN aD bv aY rn kd nu tv), (zaI aS cS 901 fS9_130)]) hP hD [0, 1] [] rfl rfl (by decide) (by decide) hk1 hFc hP1 hD1
      have hK := (hK.sub (tys' := []) [] rfl).app hK1
      generalize H1 = H at hP hS ⊢
      have hP : va_P (dC, dI) vwCl [(zo14irriiiiiirriirrrrlriiii m0 th aS aI im (nI a) sp9_131 (nI E) wg9_132 2 aB aT se dn aG aO aN aD bv aY rn kd nu tv), (zaI aS cS 901 fS9_130)] H := hP
      have hD : va_D A [(zo14irriiiiiirriirrrrlriiii m0 th aS aI im (nI a) sp9_131 (nI E) wg9_132 2 aB aT se dn aG aO aN aD bv aY rn kd nu tv), (zaI aS cS 901 fS9_130)] := hD
      have hK : va_K (dC, dI) vwCl [(cS, .int)] s := hK
      obtain ⟨p_133, k_134, rfl, h_136, h_137, hF_138, q9⟩ := hw_129
      rcases q9 with rfl | ⟨rfl, h_139, hI_140, h_141⟩
      · skip
        refine lv_aload_n hx hb dX12_factor_95 rfl (lv_at hl 1 rfl) ?_
        refine lv_bipush (v := 41) hx hb dX12_factor_96 (by decide) ?_
        have hPc := hP.sub (ws' := [(zo14irriiiiiirriirrrrlriiii m0 th aS aI im (nI a) (nI p_133) (nI E) 1 2 aB aT se dn aG aO aN aD bv aY rn kd nu tv), (zaI aS cS 901 fS9_130)]) [0, 1] rfl
        have hDc := hD.sub (ws' := [(zo14irriiiiiirriirrrrlriiii m0 th aS aI im (nI a) (nI p_133) (nI E) 1 2 aB aT se dn aG aO aN aD bv aY rn kd nu tv), (zaI aS cS 901 fS9_130)]) [0, 1] (by decide) rfl
        have hKc := hK.sub (tys' := [(cS, .int)]) [0] rfl
        have hFc := va_free (wc := [(zo14irriiiiiirriirrrrlriiii m0 th aS aI im (nI a) (nI p_133) (nI E) 1 2 aB aT se dn aG aO aN aD bv aY rn kd nu tv), (zaI aS cS 901 fS9_130)]) hD hS hA [0, 1] rfl
        refine va_callv (va_runV (As := [.int 41]) (rest := []) ⟨hx, hb, hml, hown, hts⟩ (c_must l dC dI m0 aS aI aB aT aG aO aN aD aY th im (nI a) (nI p_133) (nI E) 1 2 se dn rn kd nu tv bv cS fS9_130 a p_133 E 41 H.size (by omega) (by omega) (by omega) (Or.inr rfl) (by decide)) (cwV 1 hts gX12_factor_X12_must rfl rfl rfl hd_yX12_must ⟨Nat.le_of_ble_eq_true rfl, Nat.le_of_ble_eq_true rfl⟩) ⟨fun a U g mk q => by obtain ⟨q0, q1, qP, qK, qD⟩ := q; exact ⟨q0, q1, qP, va_K.moved (u := U) (U := U.calling g mk a) (Vm.Alike.refl U.vm) qK, qD⟩, va_recv hK hP (ci := 14) (q := (RX12, TX12, 23)) (q0 := 0) rfl rfl, fun U hU hW => ⟨rfl, by rw [hU], by rw [hU]; exact hPc, va_K.moved hW.alike hKc, hDc.weaken (fun _ _ _ _ => trivial)⟩⟩ rfl rfl hl.1 rfl (lv_room (Nat.le_of_ble_eq_true rfl)) dX12_factor_98 ⟨Nat.le_of_ble_eq_true rfl, Nat.le_of_ble_eq_true rfl⟩) hS (fun q _ h => hFc q h) hFc (fun u tC H1 locs htC hvm hw_143 hB hz1 hk1 hS => ?_)
        obtain ⟨sp9_144, wg9_145⟩ := u
        try dsimp only at hw_143 hB
        obtain ⟨hP1, hK1, hD1⟩ := hB
        rw [htC] at hP1
        have hK1 := va_K.moved hvm.symm hK1
        obtain ⟨hP, hD⟩ := va_join (wr := []) (w1 := [(zo14irriiiiiirriirrrrlriiii m0 th aS aI im (nI a) sp9_144 (nI E) wg9_145 2 aB aT se dn aG aO aN aD bv aY rn kd nu tv), (zaI aS cS 901 fS9_130)]) hP hD [0, 1] [] rfl rfl (by decide) (by decide) hk1 hFc hP1 hD1
        have hK := (hK.sub (tys' := []) [] rfl).app hK1
        generalize H1 = H at hP hS ⊢
        have hP : va_P (dC, dI) vwCl [(zo14irriiiiiirriirrrrlriiii m0 th aS aI im (nI a) sp9_144 (nI E) wg9_145 2 aB aT se dn aG aO aN aD bv aY rn kd nu tv), (zaI aS cS 901 fS9_130)] H := hP
        have hD : va_D A [(zo14irriiiiiirriirrrrlriiii m0 th aS aI im (nI a) sp9_144 (nI E) wg9_145 2 aB aT se dn aG aO aN aD bv aY rn kd nu tv), (zaI aS cS 901 fS9_130)] := hD
        have hK : va_K (dC, dI) vwCl [(cS, .int)] s := hK
        obtain ⟨rfl, rfl⟩ : _ ∧ _ := by rcases hw_143 with q | ⟨_, q, _⟩; exact q; exact absurd q (by decide)
        refine lv_aload_n hx hb dX12_factor_101 rfl (lv_at hl 1 rfl) ?_
        refine lv_dup hx hb dX12_factor_102 rfl ?_
        refine va_get (D := (dC, dI)) (ci := 14) (v := .int 2) (C := RX12) (T := TX12) (N := 23) hx hb hts kc_factor1_0 hown hK hP 0 rfl rfl 8 (by decide) (hts (.fieldLink RX12 89 "MistHeapsModel" "open" "I") kc_factor1_2) (fun _ h9 => h9) rfl dX12_factor_103 ?_
        refine lv_iconst (v := 1) hx hb dX12_factor_106 (by decide) ?_
        refine lv_isub hx hb dX12_factor_107 ?_
        refine qi_as (y := 1) (by decide) ?_
        refine va_put (D := (dC, dI)) (ci := 14) (v := .int 1) (ty := .int) (C := RX12) (T := TX12) (N := 23) hx hb hts kc_factor1_0 tyX12 tyX12_ok nmX12 hown hK hP hD hS 0 rfl rfl 8 (by decide) (hts (.fieldLink RX12 89 "MistHeapsModel" "open" "I") kc_factor1_2) (fun _ h9 => h9) rfl (by decide +kernel) rfl rfl (Nat.le_of_ble_eq_true rfl) dX12_factor_108 (fun H locs hP hD hS => ?_)
        have hP : va_P (dC, dI) vwCl [(zo14irriiiiiirriirrrrlriiii m0 th aS aI im (nI a) (nI p_133) (nI E) 1 1 aB aT se dn aG aO aN aD bv aY rn kd nu tv), (zaI aS cS 901 fS9_130)] H := hP
        have hD : va_D A [(zo14irriiiiiirriirrrrlriiii m0 th aS aI im (nI a) (nI p_133) (nI E) 1 1 aB aT se dn aG aO aN aD bv aY rn kd nu tv), (zaI aS cS 901 fS9_130)] := hD
        rw [hQ]
        have hP9 := hP.sub (ws' := [(zo14irriiiiiirriirrrrlriiii m0 th aS aI im (nI a) (nI p_133) (nI E) 1 1 aB aT se dn aG aO aN aD bv aY rn kd nu tv), (zaI aS cS 901 fS9_130)]) [0, 1] rfl
        have hD9 := hD.sub (ws' := [(zo14irriiiiiirriirrrrlriiii m0 th aS aI im (nI a) (nI p_133) (nI E) 1 1 aB aT se dn aG aO aN aD bv aY rn kd nu tv), (zaI aS cS 901 fS9_130)]) [0, 1] (by decide) rfl
        have hK9 := hK.sub (tys' := [(cS, .int)]) [0] rfl
        exact W.vret hx hb hr (fun tQ htQ hWQ => ⟨⟨(fS9_130, (nI p_133), 1), rfl, ⟨p_133, k, rfl, by omega, by omega, (PF.rf).tr hF_138, Or.inl rfl⟩, by rw [htQ]; exact hP9, va_K.moved hWQ.alike hK9, hD9⟩, hS.F htQ⟩) hS.2.2 dX12_factor_111
      · skip
        have k5 := hI_140.2.2.2.2.1
        refine lv_aload_n hx hb dX12_factor_95 rfl (lv_at hl 1 rfl) ?_
        refine lv_bipush (v := 41) hx hb dX12_factor_96 (by decide) ?_
        have hPc := hP.sub (ws' := [(zo14irriiiiiirriirrrrlriiii m0 th aS aI im (nI a) (nI p_133) (nI E) 0 2 aB aT se dn aG aO aN aD bv aY rn kd nu tv), (zaI aS cS 901 fS9_130)]) [0, 1] rfl
        have hDc := hD.sub (ws' := [(zo14irriiiiiirriirrrrlriiii m0 th aS aI im (nI a) (nI p_133) (nI E) 0 2 aB aT se dn aG aO aN aD bv aY rn kd nu tv), (zaI aS cS 901 fS9_130)]) [0, 1] (by decide) rfl
        have hKc := hK.sub (tys' := [(cS, .int)]) [0] rfl
        have hFc := va_free (wc := [(zo14irriiiiiirriirrrrlriiii m0 th aS aI im (nI a) (nI p_133) (nI E) 0 2 aB aT se dn aG aO aN aD bv aY rn kd nu tv), (zaI aS cS 901 fS9_130)]) hD hS hA [0, 1] rfl
        refine va_callv (va_runV (As := [.int 41]) (rest := []) ⟨hx, hb, hml, hown, hts⟩ (c_must l dC dI m0 aS aI aB aT aG aO aN aD aY th im (nI a) (nI p_133) (nI E) 0 2 se dn rn kd nu tv bv cS fS9_130 a p_133 E 41 H.size (by omega) (by omega) (by omega) (Or.inl rfl) (by decide)) (cwV 1 hts gX12_factor_X12_must rfl rfl rfl hd_yX12_must ⟨Nat.le_of_ble_eq_true rfl, Nat.le_of_ble_eq_true rfl⟩) ⟨fun a U g mk q => by obtain ⟨q0, q1, qP, qK, qD⟩ := q; exact ⟨q0, q1, qP, va_K.moved (u := U) (U := U.calling g mk a) (Vm.Alike.refl U.vm) qK, qD⟩, va_recv hK hP (ci := 14) (q := (RX12, TX12, 23)) (q0 := 0) rfl rfl, fun U hU hW => ⟨rfl, by rw [hU], by rw [hU]; exact hPc, va_K.moved hW.alike hKc, hDc.weaken (fun _ _ _ _ => trivial)⟩⟩ rfl rfl hl.1 rfl (lv_room (Nat.le_of_ble_eq_true rfl)) dX12_factor_98 ⟨Nat.le_of_ble_eq_true rfl, Nat.le_of_ble_eq_true rfl⟩) hS (fun q _ h => hFc q h) hFc (fun u tC H1 locs htC hvm hw_147 hB hz1 hk1 hS => ?_)
        obtain ⟨sp9_148, wg9_149⟩ := u
        try dsimp only at hw_147 hB
        obtain ⟨hP1, hK1, hD1⟩ := hB
        rw [htC] at hP1
        have hK1 := va_K.moved hvm.symm hK1
        obtain ⟨hP, hD⟩ := va_join (wr := []) (w1 := [(zo14irriiiiiirriirrrrlriiii m0 th aS aI im (nI a) sp9_148 (nI E) wg9_149 2 aB aT se dn aG aO aN aD bv aY rn kd nu tv), (zaI aS cS 901 fS9_130)]) hP hD [0, 1] [] rfl rfl (by decide) (by decide) hk1 hFc hP1 hD1
        have hK := (hK.sub (tys' := []) [] rfl).app hK1
        generalize H1 = H at hP hS ⊢
        have hP : va_P (dC, dI) vwCl [(zo14irriiiiiirriirrrrlriiii m0 th aS aI im (nI a) sp9_148 (nI E) wg9_149 2 aB aT se dn aG aO aN aD bv aY rn kd nu tv), (zaI aS cS 901 fS9_130)] H := hP
        have hD : va_D A [(zo14irriiiiiirriirrrrlriiii m0 th aS aI im (nI a) sp9_148 (nI E) wg9_149 2 aB aT se dn aG aO aN aD bv aY rn kd nu tv), (zaI aS cS 901 fS9_130)] := hD
        have hK : va_K (dC, dI) vwCl [(cS, .int)] s := hK
        rcases hw_147 with ⟨rfl, rfl⟩ | ⟨rfl, h_151, h_152, rfl⟩
        · skip
          refine lv_aload_n hx hb dX12_factor_101 rfl (lv_at hl 1 rfl) ?_
          refine lv_dup hx hb dX12_factor_102 rfl ?_
          refine va_get (D := (dC, dI)) (ci := 14) (v := .int 2) (C := RX12) (T := TX12) (N := 23) hx hb hts kc_factor1_0 hown hK hP 0 rfl rfl 8 (by decide) (hts (.fieldLink RX12 89 "MistHeapsModel" "open" "I") kc_factor1_2) (fun _ h9 => h9) rfl dX12_factor_103 ?_
          refine lv_iconst (v := 1) hx hb dX12_factor_106 (by decide) ?_
          refine lv_isub hx hb dX12_factor_107 ?_
          refine qi_as (y := 1) (by decide) ?_
          refine va_put (D := (dC, dI)) (ci := 14) (v := .int 1) (ty := .int) (C := RX12) (T := TX12) (N := 23) hx hb hts kc_factor1_0 tyX12 tyX12_ok nmX12 hown hK hP hD hS 0 rfl rfl 8 (by decide) (hts (.fieldLink RX12 89 "MistHeapsModel" "open" "I") kc_factor1_2) (fun _ h9 => h9) rfl (by decide +kernel) rfl rfl (Nat.le_of_ble_eq_true rfl) dX12_factor_108 (fun H locs hP hD hS => ?_)
          have hP : va_P (dC, dI) vwCl [(zo14irriiiiiirriirrrrlriiii m0 th aS aI im (nI a) (nI p_133) (nI E) 1 1 aB aT se dn aG aO aN aD bv aY rn kd nu tv), (zaI aS cS 901 fS9_130)] H := hP
          have hD : va_D A [(zo14irriiiiiirriirrrrlriiii m0 th aS aI im (nI a) (nI p_133) (nI E) 1 1 aB aT se dn aG aO aN aD bv aY rn kd nu tv), (zaI aS cS 901 fS9_130)] := hD
          rw [hQ]
          have hP9 := hP.sub (ws' := [(zo14irriiiiiirriirrrrlriiii m0 th aS aI im (nI a) (nI p_133) (nI E) 1 1 aB aT se dn aG aO aN aD bv aY rn kd nu tv), (zaI aS cS 901 fS9_130)]) [0, 1] rfl
          have hD9 := hD.sub (ws' := [(zo14irriiiiiirriirrrrlriiii m0 th aS aI im (nI a) (nI p_133) (nI E) 1 1 aB aT se dn aG aO aN aD bv aY rn kd nu tv), (zaI aS cS 901 fS9_130)]) [0, 1] (by decide) rfl
          have hK9 := hK.sub (tys' := [(cS, .int)]) [0] rfl
          exact W.vret hx hb hr (fun tQ htQ hWQ => ⟨⟨(fS9_130, (nI p_133), 1), rfl, ⟨p_133, k, rfl, by omega, by omega, (PF.rf).tr hF_138, Or.inl rfl⟩, by rw [htQ]; exact hP9, va_K.moved hWQ.alike hK9, hD9⟩, hS.F htQ⟩) hS.2.2 dX12_factor_111
        · skip
          refine lv_aload_n hx hb dX12_factor_101 rfl (lv_at hl 1 rfl) ?_
          refine lv_dup hx hb dX12_factor_102 rfl ?_
          refine va_get (D := (dC, dI)) (ci := 14) (v := .int 2) (C := RX12) (T := TX12) (N := 23) hx hb hts kc_factor1_0 hown hK hP 0 rfl rfl 8 (by decide) (hts (.fieldLink RX12 89 "MistHeapsModel" "open" "I") kc_factor1_2) (fun _ h9 => h9) rfl dX12_factor_103 ?_
          refine lv_iconst (v := 1) hx hb dX12_factor_106 (by decide) ?_
          refine lv_isub hx hb dX12_factor_107 ?_
          refine qi_as (y := 1) (by decide) ?_
          refine va_put (D := (dC, dI)) (ci := 14) (v := .int 1) (ty := .int) (C := RX12) (T := TX12) (N := 23) hx hb hts kc_factor1_0 tyX12 tyX12_ok nmX12 hown hK hP hD hS 0 rfl rfl 8 (by decide) (hts (.fieldLink RX12 89 "MistHeapsModel" "open" "I") kc_factor1_2) (fun _ h9 => h9) rfl (by decide +kernel) rfl rfl (Nat.le_of_ble_eq_true rfl) dX12_factor_108 (fun H locs hP hD hS => ?_)
          have hP : va_P (dC, dI) vwCl [(zo14irriiiiiirriirrrrlriiii m0 th aS aI im (nI a) (nI (p_133 + 1)) (nI E) 0 1 aB aT se dn aG aO aN aD bv aY rn kd nu tv), (zaI aS cS 901 fS9_130)] H := hP
          have hD : va_D A [(zo14irriiiiiirriirrrrlriiii m0 th aS aI im (nI a) (nI (p_133 + 1)) (nI E) 0 1 aB aT se dn aG aO aN aD bv aY rn kd nu tv), (zaI aS cS 901 fS9_130)] := hD
          rw [hQ]
          have hP9 := hP.sub (ws' := [(zo14irriiiiiirriirrrrlriiii m0 th aS aI im (nI a) (nI (p_133 + 1)) (nI E) 0 1 aB aT se dn aG aO aN aD bv aY rn kd nu tv), (zaI aS cS 901 fS9_130)]) [0, 1] rfl
          have hD9 := hD.sub (ws' := [(zo14irriiiiiirriirrrrlriiii m0 th aS aI im (nI a) (nI (p_133 + 1)) (nI E) 0 1 aB aT se dn aG aO aN aD bv aY rn kd nu tv), (zaI aS cS 901 fS9_130)]) [0, 1] (by decide) rfl
          have hK9 := hK.sub (tys' := [(cS, .int)]) [0] rfl
          exact W.vret hx hb hr (fun tQ htQ hWQ => ⟨⟨(fS9_130, (nI (p_133 + 1)), 0), rfl, ⟨p_133 + 1, k_134, rfl, by omega, by omega, (PF.rf).tr hF_138, Or.inr ⟨rfl, by omega, (hI_140).mono (by omega) (by omega), by omega⟩⟩, by rw [htQ]; exact hP9, va_K.moved hWQ.alike hK9, hD9⟩, hS.F htQ⟩) hS.2.2 dX12_factor_111

theorem kc_every1_0 : ∀ w ∈ wsX120, w ∈ wsX12_every := fun w h => List.mem_cons_of_mem _ (gin_wsX120 w h)
theorem kc_every1_1 : (.fieldLink RX12 65 "MistHeapsModel" "isWrong" "Z" : Cond) ∈ wsX12_every := kc_of 1147 rfl rfl rfl
theorem kc_every1_2 : (.fieldLink RX12 59 "MistHeapsModel" "spot" "I" : Cond) ∈ wsX12_every := kc_of 1145 rfl rfl rfl
set_option maxHeartbeats 4000000 in
set_option maxRecDepth 100000 in
theorem c_every1 (l : Launch) (dC : Nat → ClassId) (dI : Nat → Nat → Nat) (sK sV : Nat → Nat) (m0 aS aI aB aT aG aO aN aD aY : Nat) (th im ac sp en wg op se dn rn kd nu tv : Int32) (bv : Int64) (cS : ClassId) (fS : Nat → Int32) (a p0 E k d : Nat) (sz : Nat) (gI : PI fS a k d p0 E) : Met l yX12_every wsX12_every ({ frames := 18, cells := 0, slots := 0, locals := 387 } : Room) (va_Pc [.ref m0] (fun U => U.heap.size = sz ∧ va_P (dC, dI) vwCl [(zo14irriiiiiirriirrrrlriiii m0 th aS aI im (nI a) (nI p0) (nI E) 0 1 aB aT se dn aG aO aN aD bv aY rn kd nu tv), (zaI aS cS 901 fS)] U.heap ∧ va_K (dC, dI) vwCl [(cS, .int)] U ∧ va_D (fun _ => True) [(zo14irriiiiiirriirrrrlriiii m0 th aS aI im (nI a) (nI p0) (nI E) 0 1 aB aT se dn aG aO aN aD bv aY rn kd nu tv), (zaI aS cS 901 fS)] ∧ Gs sK sV (va_A [(zo14irriiiiiirriirrrrlriiii m0 th aS aI im (nI a) (nI p0) (nI E) 0 1 aB aT se dn aG aO aN aD bv aY rn kd nu tv), (zaI aS cS 901 fS)] sz) U)) (va_Qv (fun (u : (Nat → Int32) × (Int32) × (Int32)) => match u with | (fS9, sp9, wg9) => ∃ p9 k9 : Nat, sp9 = nI p9 ∧ p0 ≤ p9 ∧ p9 ≤ E ∧ PF a fS fS9 ∧ (wg9 = 1 ∨ (wg9 = 0 ∧ p0 + 3 ≤ p9 ∧ PI fS9 a k9 (d + 1) p9 E ∧ k9 + p0 ≤ k + p9))) (fun (u : (Nat → Int32) × (Int32) × (Int32)) (t : State) => match u with | (fS9, sp9, wg9) => va_P (dC, dI) vwCl [(zo14irriiiiiirriirrrrlriiii m0 th aS aI im (nI a) sp9 (nI E) wg9 1 aB aT se dn aG aO aN aD bv aY rn kd nu tv), (zaI aS cS 901 fS9)] t.heap ∧ va_K (dC, dI) vwCl [(cS, .int)] t ∧ va_D (va_A [(zo14irriiiiiirriirrrrlriiii m0 th aS aI im (nI a) (nI p0) (nI E) 0 1 aB aT se dn aG aO aN aD bv aY rn kd nu tv), (zaI aS cS 901 fS)] sz) [(zo14irriiiiiirriirrrrlriiii m0 th aS aI im (nI a) sp9 (nI E) wg9 1 aB aT se dn aG aO aN aD bv aY rn kd nu tv), (zaI aS cS 901 fS9)]) (va_A [(zo14irriiiiiirriirrrrlriiii m0 th aS aI im (nI a) (nI p0) (nI E) 0 1 aB aT se dn aG aO aN aD bv aY rn kd nu tv), (zaI aS cS 901 fS)] sz)) 0 0 (va_A [(zo14irriiiiiirriirrrrlriiii m0 th aS aI im (nI a) (nI p0) (nI E) 0 1 aB aT se dn aG aO aN aD bv aY rn kd nu tv), (zaI aS cS 901 fS)] sz) := by
  refine met_ofQ (cc := cX12_every) (maxL := 1) (ret := none) (by decide) rfl ?_
  intro p e s m args below meth c s₁ Q B hml hv hQ
  obtain ⟨rfl, hsz, hP, hK, hD0, hE⟩ := hv
  have hx := B.exec
  have hb := B.bytes
  have hr := B.returns
  have hts := atoms_spec (ws := wsX12_every) B.pre
  have hown : s.vm.findClass RX12 = some m.cls := findClass_of_methodNamed B.named
  have hlocks := B.notSynchronized
  subst hsz
  have hD := hD0.self (sz := s.heap.size)
  generalize hAe : va_A [(zo14irriiiiiirriirrrrlriiii m0 th aS aI im (nI a) (nI p0) (nI E) 0 1 aB aT se dn aG aO aN aD bv aY rn kd nu tv), (zaI aS cS 901 fS)] s.heap.size = A at hD hQ hE ⊢
  have hA : ∀ q : Nat, s.heap.size ≤ q → A q := fun q h => by rw [← hAe]; exact Or.inr h
  have hS : va_S A s.heap s.heap [] := va_S.rf
  have hl := lv_entry [.ref m0] (n := 1) (Nat.le_of_ble_eq_true rfl)
  rw [lg_entry_eq]
  generalize (lg_sl [.ref m0] ++ List.replicate (1 - (lg_sl [.ref m0]).length) Slot.unset).toArray = ls at hl ⊢
  generalize hag : ([.ref m0] : List Value).toArray = args at hts hQ ⊢
  have hl : lv_has ls 1 [(0, .ref m0)] := hl
  obtain ⟨H, hH⟩ : ∃ H : Heap, H = s.heap := ⟨_, rfl⟩
  rw [← hH] at hP
  rw [← hH]
  have hS : va_S A s.heap H [] := by rw [hH]; exact hS
  obtain ⟨locs, hlo⟩ : ∃ L : List Loc, L = [] := ⟨_, rfl⟩
  rw [← hlo] at hS
  rw [← hlo]
  clear hH hlo
  obtain ⟨ga, gp, gE, zk, gkp, gd, gs⟩ := id gI
  refine lv_aload_n hx hb dX12_every_0 rfl (lv_at hl 0 rfl) ?_
  have hPc := hP.sub (ws' := [(zo14irriiiiiirriirrrrlriiii m0 th aS aI im (nI a) (nI p0) (nI E) 0 1 aB aT se dn aG aO aN aD bv aY rn kd nu tv), (zaI aS cS 901 fS)]) [0, 1] rfl
  have hDc := hD.sub (ws' := [(zo14irriiiiiirriirrrrlriiii m0 th aS aI im (nI a) (nI p0) (nI E) 0 1 aB aT se dn aG aO aN aD bv aY rn kd nu tv), (zaI aS cS 901 fS)]) [0, 1] (by decide) rfl
  have hKc := hK.sub (tys' := [(cS, .int)]) [0] rfl
  have hFc := va_free (wc := [(zo14irriiiiiirriirrrrlriiii m0 th aS aI im (nI a) (nI p0) (nI E) 0 1 aB aT se dn aG aO aN aD bv aY rn kd nu tv), (zaI aS cS 901 fS)]) hD hS hA [0, 1] rfl
  refine va_callv (va_runV (As := []) (rest := []) ⟨hx, hb, hml, hown, hts⟩ (c_factor1 l dC dI sK sV m0 aS aI aB aT aG aO aN aD aY th im (nI a) (nI p0) (nI E) 0 1 se dn rn kd nu tv bv cS fS a p0 E k d H.size ((gI).mono (by omega) (by omega))) (cwV 0 hts gX12_every_X12_factor rfl rfl rfl hd_yX12_factor ⟨Nat.le_of_ble_eq_true rfl, Nat.le_of_ble_eq_true rfl⟩) ⟨fun a U g mk q => by obtain ⟨q0, q1, qP, qK, qD, qhE⟩ := q; exact ⟨q0, q1, qP, va_K.moved (u := U) (U := U.calling g mk a) (Vm.Alike.refl U.vm) qK, qD, qhE.same rfl rfl⟩, va_recv hK hP (ci := 14) (q := (RX12, TX12, 23)) (q0 := 0) rfl rfl, fun U hU hW => ⟨rfl, by rw [hU], by rw [hU]; exact hPc, va_K.moved hW.alike hKc, hDc.weaken (fun _ _ _ _ => trivial), hE.call hS hU hW (fun q h => hFc q h)⟩⟩ rfl rfl hl.1 rfl (lv_room (Nat.le_of_ble_eq_true rfl)) dX12_every_1 ⟨Nat.le_of_ble_eq_true rfl, Nat.le_of_ble_eq_true rfl⟩) hS (fun q _ h => hFc q h) hFc (fun u tC H1 locs htC hvm hw_2 hB hz1 hk1 hS => ?_)
  obtain ⟨fS9_3, sp9_4, wg9_5⟩ := u
  try dsimp only at hw_2 hB
  obtain ⟨hP1, hK1, hD1⟩ := hB
  rw [htC] at hP1
  have hK1 := va_K.moved hvm.symm hK1
  obtain ⟨hP, hD⟩ := va_join (wr := []) (w1 := [(zo14irriiiiiirriirrrrlriiii m0 th aS aI im (nI a) sp9_4 (nI E) wg9_5 1 aB aT se dn aG aO aN aD bv aY rn kd nu tv), (zaI aS cS 901 fS9_3)]) hP hD [0, 1] [] rfl rfl (by decide) (by decide) hk1 hFc hP1 hD1
  have hK := (hK.sub (tys' := []) [] rfl).app hK1
  generalize H1 = H at hP hS ⊢
  have hP : va_P (dC, dI) vwCl [(zo14irriiiiiirriirrrrlriiii m0 th aS aI im (nI a) sp9_4 (nI E) wg9_5 1 aB aT se dn aG aO aN aD bv aY rn kd nu tv), (zaI aS cS 901 fS9_3)] H := hP
  have hD : va_D A [(zo14irriiiiiirriirrrrlriiii m0 th aS aI im (nI a) sp9_4 (nI E) wg9_5 1 aB aT se dn aG aO aN aD bv aY rn kd nu tv), (zaI aS cS 901 fS9_3)] := hD
  have hK : va_K (dC, dI) vwCl [(cS, .int)] s := hK
  obtain ⟨p_6, k_7, rfl, h_9, h_10, hF_11, q9⟩ := hw_2
  rcases q9 with rfl | ⟨rfl, h_12, hI_13, h_14⟩
  · skip
    have L4 : ∀ (nF : Nat) (p1 : Nat) (k1 : Nat) (w1 : Int32) (f1 : Nat → Int32), E - p1 < nF → (p0 ≤ p1 ∧ p1 ≤ E) → (PF a fS f1) → (w1 = 1 ∨ (w1 = 0 ∧ p0 + 3 ≤ p1 ∧ PI f1 a k1 (d + 1) p1 E ∧ k1 + p0 ≤ k + p1)) → ∀ (H : Heap) (locs : List Loc), va_K (dC, dI) vwCl [(cS, .int)] s → va_P (dC, dI) vwCl [(zo14irriiiiiirriirrrrlriiii m0 th aS aI im (nI a) (nI p1) (nI E) w1 1 aB aT se dn aG aO aN aD bv aY rn kd nu tv), (zaI aS cS 901 f1)] H → va_D A [(zo14irriiiiiirriirrrrlriiii m0 th aS aI im (nI a) (nI p1) (nI E) w1 1 aB aT se dn aG aO aN aD bv aY rn kd nu tv), (zaI aS cS 901 f1)] → va_S A s.heap H locs → ∀ (ls : Array Slot), lv_has ls 1 [(0, .ref m0)] → W p l e ({ frames := 18, cells := 0, slots := 0, locals := 387 } : Room) s m args below meth c H locs 0 0 Q (F0 m 4 ls []) := by
      intro nF
      induction nF with
      | zero => intro p1 k1 w1 f1 hm; exact absurd hm (Nat.not_lt_zero _)
      | succ nF ih4 =>
        intro p1 k1 w1 f1 hm h1 hF hw1 H locs hK hP hD hS ls hl
        obtain ⟨h1a, h1b⟩ := h1
        rcases hw1 with rfl | ⟨rfl, h3, hI, h4⟩
        · skip
          refine lv_aload_n hx hb dX12_every_4 rfl (lv_at hl 0 rfl) ?_
          refine va_get (D := (dC, dI)) (ci := 14) (v := .int 1) (C := RX12) (T := TX12) (N := 23) hx hb hts kc_every1_0 hown hK hP 0 rfl rfl 7 (by decide) (hts (.fieldLink RX12 65 "MistHeapsModel" "isWrong" "Z") kc_every1_1) (fun _ h9 => h9) rfl dX12_every_5 ?_
          refine lv_if_ne (tgt := 43) hx hb dX12_every_8 (by decide) (fun _ => ?_) (fun c_15 => absurd c_15 (by decide))
          rw [hQ]
          have hP9 := hP.sub (ws' := [(zo14irriiiiiirriirrrrlriiii m0 th aS aI im (nI a) (nI p1) (nI E) 1 1 aB aT se dn aG aO aN aD bv aY rn kd nu tv), (zaI aS cS 901 f1)]) [0, 1] rfl
          have hD9 := hD.sub (ws' := [(zo14irriiiiiirriirrrrlriiii m0 th aS aI im (nI a) (nI p1) (nI E) 1 1 aB aT se dn aG aO aN aD bv aY rn kd nu tv), (zaI aS cS 901 f1)]) [0, 1] (by decide) rfl
          have hK9 := hK.sub (tys' := [(cS, .int)]) [0] rfl
          exact W.vret hx hb hr (fun tQ htQ hWQ => ⟨⟨(f1, (nI p1), 1), rfl, ⟨p1, k, rfl, by omega, by omega, hF, Or.inl rfl⟩, by rw [htQ]; exact hP9, va_K.moved hWQ.alike hK9, hD9⟩, hS.F htQ⟩) hS.2.2 dX12_every_43
        · skip
          have k5 := hI.2.2.2.2.1
          refine lv_aload_n hx hb dX12_every_4 rfl (lv_at hl 0 rfl) ?_
          refine va_get (D := (dC, dI)) (ci := 14) (v := .int 0) (C := RX12) (T := TX12) (N := 23) hx hb hts kc_every1_0 hown hK hP 0 rfl rfl 7 (by decide) (hts (.fieldLink RX12 65 "MistHeapsModel" "isWrong" "Z") kc_every1_1) (fun _ h9 => h9) rfl dX12_every_5 ?_
          refine lv_if_ne (tgt := 43) hx hb dX12_every_8 (by decide) (fun c_16 => absurd c_16 (by decide)) (fun _ => ?_)
          refine lv_aload_n hx hb dX12_every_11 rfl (lv_at hl 0 rfl) ?_
          have hPc := hP.sub (ws' := [(zo14irriiiiiirriirrrrlriiii m0 th aS aI im (nI a) (nI p1) (nI E) 0 1 aB aT se dn aG aO aN aD bv aY rn kd nu tv), (zaI aS cS 901 f1)]) [0, 1] rfl
          have hKc := hK.sub (tys' := [(cS, .int)]) [0] rfl
          refine vp_callSi (va_runV (As := []) (rest := []) ⟨hx, hb, hml, hown, hts⟩ (c_here l dC dI m0 aS aI aB aT aG aO aN aD aY th im (nI a) (nI p1) (nI E) 0 1 se dn rn kd nu tv bv cS f1 a p1 E (by omega) (by omega) (by omega)) (cwV 0 hts gX12_every_X12_here rfl rfl rfl hd_yX12_here ⟨Nat.le_of_ble_eq_true rfl, Nat.le_of_ble_eq_true rfl⟩) ⟨fun a U g mk q => by obtain ⟨q0, qP, qK⟩ := q; exact ⟨q0, qP, va_K.moved (u := U) (U := U.calling g mk a) (Vm.Alike.refl U.vm) qK⟩, va_recv hK hP (ci := 14) (q := (RX12, TX12, 23)) (q0 := 0) rfl rfl, fun U hU hW => ⟨rfl, by rw [hU]; exact hPc, va_K.moved hW.alike hKc⟩⟩ rfl rfl hl.1 rfl (lv_room (Nat.le_of_ble_eq_true rfl)) dX12_every_12 ⟨Nat.le_of_ble_eq_true rfl, Nat.le_of_ble_eq_true rfl⟩).run (fun r_17 hw_18 => ?_)
          refine lv_bipush (v := 38) hx hb dX12_every_15 (by decide) ?_
          refine lv_icmp_ne (tgt := 43) hx hb dX12_every_17 (by decide) (fun c_19 => ?_) (fun c_19 => ?_)
          · skip
            rw [hQ]
            have hP9 := hP.sub (ws' := [(zo14irriiiiiirriirrrrlriiii m0 th aS aI im (nI a) (nI p1) (nI E) 0 1 aB aT se dn aG aO aN aD bv aY rn kd nu tv), (zaI aS cS 901 f1)]) [0, 1] rfl
            have hD9 := hD.sub (ws' := [(zo14irriiiiiirriirrrrlriiii m0 th aS aI im (nI a) (nI p1) (nI E) 0 1 aB aT se dn aG aO aN aD bv aY rn kd nu tv), (zaI aS cS 901 f1)]) [0, 1] (by decide) rfl
            have hK9 := hK.sub (tys' := [(cS, .int)]) [0] rfl
            exact W.vret hx hb hr (fun tQ htQ hWQ => ⟨⟨(f1, (nI p1), 0), rfl, ⟨p1, k1, rfl, by omega, by omega, hF, Or.inr ⟨rfl, by omega, hI, by omega⟩⟩, by rw [htQ]; exact hP9, va_K.moved hWQ.alike hK9, hD9⟩, hS.F htQ⟩) hS.2.2 dX12_every_43
          · skip
            have hlt : p1 < E := hv_lt (f := f1) (by rw [← hw_18, c_19]; decide)
            refine lv_aload_n hx hb dX12_every_20 rfl (lv_at hl 0 rfl) ?_
            refine lv_dup hx hb dX12_every_21 rfl ?_
            refine va_get (D := (dC, dI)) (ci := 14) (v := .int (nI p1)) (C := RX12) (T := TX12) (N := 23) hx hb hts kc_every1_0 hown hK hP 0 rfl rfl 5 (by decide) (hts (.fieldLink RX12 59 "MistHeapsModel" "spot" "I") kc_every1_2) (fun _ h9 => h9) rfl dX12_every_22 ?_
            refine lv_iconst (v := 1) hx hb dX12_every_25 (by decide) ?_
            refine lv_iadd hx hb dX12_every_26 ?_
            refine qi_as (y := nI (p1 + 1)) (nI_add p1 1) ?_
            refine va_put (D := (dC, dI)) (ci := 14) (v := .int (nI (p1 + 1))) (ty := .int) (C := RX12) (T := TX12) (N := 23) hx hb hts kc_every1_0 tyX12 tyX12_ok nmX12 hown hK hP hD hS 0 rfl rfl 5 (by decide) (hts (.fieldLink RX12 59 "MistHeapsModel" "spot" "I") kc_every1_2) (fun _ h9 => h9) rfl (by decide +kernel) rfl rfl (Nat.le_of_ble_eq_true rfl) dX12_every_27 (fun H locs hP hD hS => ?_)
            have hP : va_P (dC, dI) vwCl [(zo14irriiiiiirriirrrrlriiii m0 th aS aI im (nI a) (nI (p1 + 1)) (nI E) 0 1 aB aT se dn aG aO aN aD bv aY rn kd nu tv), (zaI aS cS 901 f1)] H := hP
            have hD : va_D A [(zo14irriiiiiirriirrrrlriiii m0 th aS aI im (nI a) (nI (p1 + 1)) (nI E) 0 1 aB aT se dn aG aO aN aD bv aY rn kd nu tv), (zaI aS cS 901 f1)] := hD
            refine lv_aload_n hx hb dX12_every_30 rfl (lv_at hl 0 rfl) ?_
            have hPc := hP.sub (ws' := [(zo14irriiiiiirriirrrrlriiii m0 th aS aI im (nI a) (nI (p1 + 1)) (nI E) 0 1 aB aT se dn aG aO aN aD bv aY rn kd nu tv), (zaI aS cS 901 f1)]) [0, 1] rfl
            have hDc := hD.sub (ws' := [(zo14irriiiiiirriirrrrlriiii m0 th aS aI im (nI a) (nI (p1 + 1)) (nI E) 0 1 aB aT se dn aG aO aN aD bv aY rn kd nu tv), (zaI aS cS 901 f1)]) [0, 1] (by decide) rfl
            have hKc := hK.sub (tys' := [(cS, .int)]) [0] rfl
            have hFc := va_free (wc := [(zo14irriiiiiirriirrrrlriiii m0 th aS aI im (nI a) (nI (p1 + 1)) (nI E) 0 1 aB aT se dn aG aO aN aD bv aY rn kd nu tv), (zaI aS cS 901 f1)]) hD hS hA [0, 1] rfl
            refine va_callv (va_runV (As := []) (rest := []) ⟨hx, hb, hml, hown, hts⟩ (c_factor1 l dC dI sK sV m0 aS aI aB aT aG aO aN aD aY th im (nI a) (nI (p1 + 1)) (nI E) 0 1 se dn rn kd nu tv bv cS f1 a (p1 + 1) E k1 (d + 1) H.size ((hI).mono (by omega) (by omega))) (cwV 0 hts gX12_every_X12_factor rfl rfl rfl hd_yX12_factor ⟨Nat.le_of_ble_eq_true rfl, Nat.le_of_ble_eq_true rfl⟩) ⟨fun a U g mk q => by obtain ⟨q0, q1, qP, qK, qD, qhE⟩ := q; exact ⟨q0, q1, qP, va_K.moved (u := U) (U := U.calling g mk a) (Vm.Alike.refl U.vm) qK, qD, qhE.same rfl rfl⟩, va_recv hK hP (ci := 14) (q := (RX12, TX12, 23)) (q0 := 0) rfl rfl, fun U hU hW => ⟨rfl, by rw [hU], by rw [hU]; exact hPc, va_K.moved hW.alike hKc, hDc.weaken (fun _ _ _ _ => trivial), hE.call hS hU hW (fun q h => hFc q h)⟩⟩ rfl rfl hl.1 rfl (lv_room (Nat.le_of_ble_eq_true rfl)) dX12_every_31 ⟨Nat.le_of_ble_eq_true rfl, Nat.le_of_ble_eq_true rfl⟩) hS (fun q _ h => hFc q h) hFc (fun u tC H1 locs htC hvm hw_21 hB hz1 hk1 hS => ?_)
            obtain ⟨fS9_22, sp9_23, wg9_24⟩ := u
            try dsimp only at hw_21 hB
            obtain ⟨hP1, hK1, hD1⟩ := hB
            rw [htC] at hP1
            have hK1 := va_K.moved hvm.symm hK1
            obtain ⟨hP, hD⟩ := va_join (wr := []) (w1 := [(zo14irriiiiiirriirrrrlriiii m0 th aS aI im (nI a) sp9_23 (nI E) wg9_24 1 aB aT se dn aG aO aN aD bv aY rn kd nu tv), (zaI aS cS 901 fS9_22)]) hP hD [0, 1] [] rfl rfl (by decide) (by decide) hk1 hFc hP1 hD1
            have hK := (hK.sub (tys' := []) [] rfl).app hK1
            generalize H1 = H at hP hS ⊢
            have hP : va_P (dC, dI) vwCl [(zo14irriiiiiirriirrrrlriiii m0 th aS aI im (nI a) sp9_23 (nI E) wg9_24 1 aB aT se dn aG aO aN aD bv aY rn kd nu tv), (zaI aS cS 901 fS9_22)] H := hP
            have hD : va_D A [(zo14irriiiiiirriirrrrlriiii m0 th aS aI im (nI a) sp9_23 (nI E) wg9_24 1 aB aT se dn aG aO aN aD bv aY rn kd nu tv), (zaI aS cS 901 fS9_22)] := hD
            have hK : va_K (dC, dI) vwCl [(cS, .int)] s := hK
            obtain ⟨p_25, k_26, rfl, h_28, h_29, hF_30, q9⟩ := hw_21
            rcases q9 with rfl | ⟨rfl, h_31, hI_32, h_33⟩
            · skip
              refine lv_aload_n hx hb dX12_every_34 rfl (lv_at hl 0 rfl) ?_
              refine lv_bipush (v := (-2)) hx hb dX12_every_35 (by decide) ?_
              have hPc := hP.sub (ws' := [(zo14irriiiiiirriirrrrlriiii m0 th aS aI im (nI a) (nI p_25) (nI E) 1 1 aB aT se dn aG aO aN aD bv aY rn kd nu tv)]) [0] rfl
              have hKc := hK.sub (tys' := []) [] rfl
              refine va_csv (va_runV (As := [.int (-2)]) (rest := []) ⟨hx, hb, hml, hown, hts⟩ (c_emitsW l dC dI m0 aS aI aB aT aG aO aN aD aY th im (nI a) (nI p_25) (nI E) 1 1 se dn rn kd nu tv bv (-2)) (cwV 1 hts gX12_every_X12_emits rfl rfl rfl hd_yX12_emits ⟨Nat.le_of_ble_eq_true rfl, Nat.le_of_ble_eq_true rfl⟩) ⟨fun a U g mk q => by obtain ⟨q0, qP, qK⟩ := q; exact ⟨q0, qP, va_K.moved (u := U) (U := U.calling g mk a) (Vm.Alike.refl U.vm) qK⟩, va_recv hK hP (ci := 14) (q := (RX12, TX12, 23)) (q0 := 0) rfl rfl, fun U hU hW => ⟨rfl, by rw [hU]; exact hPc, va_K.moved hW.alike hKc⟩⟩ rfl rfl hl.1 rfl (lv_room (Nat.le_of_ble_eq_true rfl)) dX12_every_37 ⟨Nat.le_of_ble_eq_true rfl, Nat.le_of_ble_eq_true rfl⟩).run (fun hw_35 => ?_)
              refine lv_goto (tgt := 4) hx hb dX12_every_40 (by decide) ?_
              exact ih4 (p_25) (k) (1) (fS9_22) (by omega) (by omega) ((hF).tr hF_30) (Or.inl rfl) _ _ (hK.sub [0] rfl) (hP.sub [0, 1] rfl) (hD.sub [0, 1] (by decide) rfl) hS ls (lv_sub hl [0] rfl)
            · skip
              have k5 := hI_32.2.2.2.2.1
              refine lv_aload_n hx hb dX12_every_34 rfl (lv_at hl 0 rfl) ?_
              refine lv_bipush (v := (-2)) hx hb dX12_every_35 (by decide) ?_
              have hPc := hP.sub (ws' := [(zo14irriiiiiirriirrrrlriiii m0 th aS aI im (nI a) (nI p_25) (nI E) 0 1 aB aT se dn aG aO aN aD bv aY rn kd nu tv), (zaI aS cS 901 fS9_22)]) [0, 1] rfl
              have hDc := hD.sub (ws' := [(zo14irriiiiiirriirrrrlriiii m0 th aS aI im (nI a) (nI p_25) (nI E) 0 1 aB aT se dn aG aO aN aD bv aY rn kd nu tv), (zaI aS cS 901 fS9_22)]) [0, 1] (by decide) rfl
              have hKc := hK.sub (tys' := [(cS, .int)]) [0] rfl
              have hFc := va_free (wc := [(zo14irriiiiiirriirrrrlriiii m0 th aS aI im (nI a) (nI p_25) (nI E) 0 1 aB aT se dn aG aO aN aD bv aY rn kd nu tv), (zaI aS cS 901 fS9_22)]) hD hS hA [0, 1] rfl
              refine va_callv (va_runV (As := [.int (-2)]) (rest := []) ⟨hx, hb, hml, hown, hts⟩ (c_emits l dC dI m0 aS aI aB aT aG aO aN aD aY th im (nI a) (nI p_25) (nI E) 0 1 se dn rn kd nu tv bv cS fS9_22 a k_26 (-2) H.size (ga) ((hI_32).2.2.2.1) (by have := (hI_32).2.2.2.2.1; omega)) (cwV 1 hts gX12_every_X12_emits rfl rfl rfl hd_yX12_emits ⟨Nat.le_of_ble_eq_true rfl, Nat.le_of_ble_eq_true rfl⟩) ⟨fun a U g mk q => by obtain ⟨q0, q1, qP, qK, qD⟩ := q; exact ⟨q0, q1, qP, va_K.moved (u := U) (U := U.calling g mk a) (Vm.Alike.refl U.vm) qK, qD⟩, va_recv hK hP (ci := 14) (q := (RX12, TX12, 23)) (q0 := 0) rfl rfl, fun U hU hW => ⟨rfl, by rw [hU], by rw [hU]; exact hPc, va_K.moved hW.alike hKc, hDc.weaken (fun _ _ _ _ => trivial)⟩⟩ rfl rfl hl.1 rfl (lv_room (Nat.le_of_ble_eq_true rfl)) dX12_every_37 ⟨Nat.le_of_ble_eq_true rfl, Nat.le_of_ble_eq_true rfl⟩) hS (fun q _ h => hFc q h) hFc (fun u tC H1 locs htC hvm hw_37 hB hz1 hk1 hS => ?_)
              obtain ⟨fS9_38, rfl⟩ : ∃ z, z = u := ⟨_, rfl⟩
              try dsimp only at hw_37 hB
              obtain ⟨hP1, hK1, hD1⟩ := hB
              rw [htC] at hP1
              have hK1 := va_K.moved hvm.symm hK1
              obtain ⟨hP, hD⟩ := va_join (wr := []) (w1 := [(zo14irriiiiiirriirrrrlriiii m0 th aS aI im (nI a) (nI p_25) (nI E) 0 1 aB aT se dn aG aO aN aD bv aY rn kd nu tv), (zaI aS cS 901 fS9_38)]) hP hD [0, 1] [] rfl rfl (by decide) (by decide) hk1 hFc hP1 hD1
              have hK := (hK.sub (tys' := []) [] rfl).app hK1
              generalize H1 = H at hP hS ⊢
              have hP : va_P (dC, dI) vwCl [(zo14irriiiiiirriirrrrlriiii m0 th aS aI im (nI a) (nI p_25) (nI E) 0 1 aB aT se dn aG aO aN aD bv aY rn kd nu tv), (zaI aS cS 901 fS9_38)] H := hP
              have hD : va_D A [(zo14irriiiiiirriirrrrlriiii m0 th aS aI im (nI a) (nI p_25) (nI E) 0 1 aB aT se dn aG aO aN aD bv aY rn kd nu tv), (zaI aS cS 901 fS9_38)] := hD
              have hK : va_K (dC, dI) vwCl [(cS, .int)] s := hK
              obtain rfl : fS9_38 = emt fS9_22 a k_26 (-2) := by rcases hw_37 with ⟨q, _⟩ | ⟨_, q⟩; exact absurd rfl q; exact q
              have hI_40 : PI (emt fS9_22 a k_26 (-2)) a (k_26 + 1) (((d + 1) + 1) - 1) p_25 E := ((hI_32).mono (by omega) (by omega)).em (by omega) (by omega) (stepd_both (by omega))
              have hF_41 : PF a fS (emt fS9_22 a k_26 (-2)) := ((hF).tr hF_30).tr (PF_emt (k := k_26) (x := (-2)) ga (by have := (hI_32).2.2.2.2.1; omega))
              refine lv_goto (tgt := 4) hx hb dX12_every_40 (by decide) ?_
              exact ih4 (p_25) ((k_26 + 1)) (0) (emt fS9_22 a k_26 (-2)) (by omega) (by omega) (hF_41) (Or.inr ⟨rfl, by omega, hI_40, by omega⟩) _ _ (hK.sub [0] rfl) (hP.sub [0, 1] rfl) (hD.sub [0, 1] (by decide) rfl) hS ls (lv_sub hl [0] rfl)
    exact L4 _ (p_6) (k) (1) (fS9_3) (Nat.lt_succ_self _) (by omega) ((PF.rf).tr hF_11) (Or.inl rfl) _ _ (hK.sub [0] rfl) (hP.sub [0, 1] rfl) (hD.sub [0, 1] (by decide) rfl) hS ls (lv_sub hl [0] rfl)
  · skip
    have k5 := hI_13.2.2.2.2.1
    have L4 : ∀ (nF : Nat) (p1 : Nat) (k1 : Nat) (w1 : Int32) (f1 : Nat → Int32), E - p1 < nF → (p0 ≤ p1 ∧ p1 ≤ E) → (PF a fS f1) → (w1 = 1 ∨ (w1 = 0 ∧ p0 + 3 ≤ p1 ∧ PI f1 a k1 (d + 1) p1 E ∧ k1 + p0 ≤ k + p1)) → ∀ (H : Heap) (locs : List Loc), va_K (dC, dI) vwCl [(cS, .int)] s → va_P (dC, dI) vwCl [(zo14irriiiiiirriirrrrlriiii m0 th aS aI im (nI a) (nI p1) (nI E) w1 1 aB aT se dn aG aO aN aD bv aY rn kd nu tv), (zaI aS cS 901 f1)] H → va_D A [(zo14irriiiiiirriirrrrlriiii m0 th aS aI im (nI a) (nI p1) (nI E) w1 1 aB aT se dn aG aO aN aD bv aY rn kd nu tv), (zaI aS cS 901 f1)] → va_S A s.heap H locs → ∀ (ls : Array Slot), lv_has ls 1 [(0, .ref m0)] → W p l e ({ frames := 18, cells := 0, slots := 0, locals := 387 } : Room) s m args below meth c H locs 0 0 Q (F0 m 4 ls []) := by
      intro nF
      induction nF with
      | zero => intro p1 k1 w1 f1 hm; exact absurd hm (Nat.not_lt_zero _)
      | succ nF ih4 =>
        intro p1 k1 w1 f1 hm h1 hF hw1 H locs hK hP hD hS ls hl
        obtain ⟨h1a, h1b⟩ := h1
        rcases hw1 with rfl | ⟨rfl, h3, hI, h4⟩
        · skip
          refine lv_aload_n hx hb dX12_every_4 rfl (lv_at hl 0 rfl) ?_
          refine va_get (D := (dC, dI)) (ci := 14) (v := .int 1) (C := RX12) (T := TX12) (N := 23) hx hb hts kc_every1_0 hown hK hP 0 rfl rfl 7 (by decide) (hts (.fieldLink RX12 65 "MistHeapsModel" "isWrong" "Z") kc_every1_1) (fun _ h9 => h9) rfl dX12_every_5 ?_
          refine lv_if_ne (tgt := 43) hx hb dX12_every_8 (by decide) (fun _ => ?_) (fun c_42 => absurd c_42 (by decide))
          rw [hQ]
          have hP9 := hP.sub (ws' := [(zo14irriiiiiirriirrrrlriiii m0 th aS aI im (nI a) (nI p1) (nI E) 1 1 aB aT se dn aG aO aN aD bv aY rn kd nu tv), (zaI aS cS 901 f1)]) [0, 1] rfl
          have hD9 := hD.sub (ws' := [(zo14irriiiiiirriirrrrlriiii m0 th aS aI im (nI a) (nI p1) (nI E) 1 1 aB aT se dn aG aO aN aD bv aY rn kd nu tv), (zaI aS cS 901 f1)]) [0, 1] (by decide) rfl
          have hK9 := hK.sub (tys' := [(cS, .int)]) [0] rfl
          exact W.vret hx hb hr (fun tQ htQ hWQ => ⟨⟨(f1, (nI p1), 1), rfl, ⟨p1, k, rfl, by omega, by omega, hF, Or.inl rfl⟩, by rw [htQ]; exact hP9, va_K.moved hWQ.alike hK9, hD9⟩, hS.F htQ⟩) hS.2.2 dX12_every_43
        · skip
          have k5 := hI.2.2.2.2.1
          refine lv_aload_n hx hb dX12_every_4 rfl (lv_at hl 0 rfl) ?_
          refine va_get (D := (dC, dI)) (ci := 14) (v := .int 0) (C := RX12) (T := TX12) (N := 23) hx hb hts kc_every1_0 hown hK hP 0 rfl rfl 7 (by decide) (hts (.fieldLink RX12 65 "MistHeapsModel" "isWrong" "Z") kc_every1_1) (fun _ h9 => h9) rfl dX12_every_5 ?_
          refine lv_if_ne (tgt := 43) hx hb dX12_every_8 (by decide) (fun c_43 => absurd c_43 (by decide)) (fun _ => ?_)
          refine lv_aload_n hx hb dX12_every_11 rfl (lv_at hl 0 rfl) ?_
          have hPc := hP.sub (ws' := [(zo14irriiiiiirriirrrrlriiii m0 th aS aI im (nI a) (nI p1) (nI E) 0 1 aB aT se dn aG aO aN aD bv aY rn kd nu tv), (zaI aS cS 901 f1)]) [0, 1] rfl
          have hKc := hK.sub (tys' := [(cS, .int)]) [0] rfl
          refine vp_callSi (va_runV (As := []) (rest := []) ⟨hx, hb, hml, hown, hts⟩ (c_here l dC dI m0 aS aI aB aT aG aO aN aD aY th im (nI a) (nI p1) (nI E) 0 1 se dn rn kd nu tv bv cS f1 a p1 E (by omega) (by omega) (by omega)) (cwV 0 hts gX12_every_X12_here rfl rfl rfl hd_yX12_here ⟨Nat.le_of_ble_eq_true rfl, Nat.le_of_ble_eq_true rfl⟩) ⟨fun a U g mk q => by obtain ⟨q0, qP, qK⟩ := q; exact ⟨q0, qP, va_K.moved (u := U) (U := U.calling g mk a) (Vm.Alike.refl U.vm) qK⟩, va_recv hK hP (ci := 14) (q := (RX12, TX12, 23)) (q0 := 0) rfl rfl, fun U hU hW => ⟨rfl, by rw [hU]; exact hPc, va_K.moved hW.alike hKc⟩⟩ rfl rfl hl.1 rfl (lv_room (Nat.le_of_ble_eq_true rfl)) dX12_every_12 ⟨Nat.le_of_ble_eq_true rfl, Nat.le_of_ble_eq_true rfl⟩).run (fun r_44 hw_45 => ?_)
          refine lv_bipush (v := 38) hx hb dX12_every_15 (by decide) ?_
          refine lv_icmp_ne (tgt := 43) hx hb dX12_every_17 (by decide) (fun c_46 => ?_) (fun c_46 => ?_)
          · skip
            rw [hQ]
            have hP9 := hP.sub (ws' := [(zo14irriiiiiirriirrrrlriiii m0 th aS aI im (nI a) (nI p1) (nI E) 0 1 aB aT se dn aG aO aN aD bv aY rn kd nu tv), (zaI aS cS 901 f1)]) [0, 1] rfl
            have hD9 := hD.sub (ws' := [(zo14irriiiiiirriirrrrlriiii m0 th aS aI im (nI a) (nI p1) (nI E) 0 1 aB aT se dn aG aO aN aD bv aY rn kd nu tv), (zaI aS cS 901 f1)]) [0, 1] (by decide) rfl
            have hK9 := hK.sub (tys' := [(cS, .int)]) [0] rfl
            exact W.vret hx hb hr (fun tQ htQ hWQ => ⟨⟨(f1, (nI p1), 0), rfl, ⟨p1, k1, rfl, by omega, by omega, hF, Or.inr ⟨rfl, by omega, hI, by omega⟩⟩, by rw [htQ]; exact hP9, va_K.moved hWQ.alike hK9, hD9⟩, hS.F htQ⟩) hS.2.2 dX12_every_43
          · skip
            have hlt : p1 < E := hv_lt (f := f1) (by rw [← hw_45, c_46]; decide)
            refine lv_aload_n hx hb dX12_every_20 rfl (lv_at hl 0 rfl) ?_
            refine lv_dup hx hb dX12_every_21 rfl ?_
            refine va_get (D := (dC, dI)) (ci := 14) (v := .int (nI p1)) (C := RX12) (T := TX12) (N := 23) hx hb hts kc_every1_0 hown hK hP 0 rfl rfl 5 (by decide) (hts (.fieldLink RX12 59 "MistHeapsModel" "spot" "I") kc_every1_2) (fun _ h9 => h9) rfl dX12_every_22 ?_
            refine lv_iconst (v := 1) hx hb dX12_every_25 (by decide) ?_
            refine lv_iadd hx hb dX12_every_26 ?_
            refine qi_as (y := nI (p1 + 1)) (nI_add p1 1) ?_
            refine va_put (D := (dC, dI)) (ci := 14) (v := .int (nI (p1 + 1))) (ty := .int) (C := RX12) (T := TX12) (N := 23) hx hb hts kc_every1_0 tyX12 tyX12_ok nmX12 hown hK hP hD hS 0 rfl rfl 5 (by decide) (hts (.fieldLink RX12 59 "MistHeapsModel" "spot" "I") kc_every1_2) (fun _ h9 => h9) rfl (by decide +kernel) rfl rfl (Nat.le_of_ble_eq_true rfl) dX12_every_27 (fun H locs hP hD hS => ?_)
            have hP : va_P (dC, dI) vwCl [(zo14irriiiiiirriirrrrlriiii m0 th aS aI im (nI a) (nI (p1 + 1)) (nI E) 0 1 aB aT se dn aG aO aN aD bv aY rn kd nu tv), (zaI aS cS 901 f1)] H := hP
            have hD : va_D A [(zo14irriiiiiirriirrrrlriiii m0 th aS aI im (nI a) (nI (p1 + 1)) (nI E) 0 1 aB aT se dn aG aO aN aD bv aY rn kd nu tv), (zaI aS cS 901 f1)] := hD
            refine lv_aload_n hx hb dX12_every_30 rfl (lv_at hl 0 rfl) ?_
            have hPc := hP.sub (ws' := [(zo14irriiiiiirriirrrrlriiii m0 th aS aI im (nI a) (nI (p1 + 1)) (nI E) 0 1 aB aT se dn aG aO aN aD bv aY rn kd nu tv), (zaI aS cS 901 f1)]) [0, 1] rfl
            have hDc := hD.sub (ws' := [(zo14irriiiiiirriirrrrlriiii m0 th aS aI im (nI a) (nI (p1 + 1)) (nI E) 0 1 aB aT se dn aG aO aN aD bv aY rn kd nu tv), (zaI aS cS 901 f1)]) [0, 1] (by decide) rfl
            have hKc := hK.sub (tys' := [(cS, .int)]) [0] rfl
            have hFc := va_free (wc := [(zo14irriiiiiirriirrrrlriiii m0 th aS aI im (nI a) (nI (p1 + 1)) (nI E) 0 1 aB aT se dn aG aO aN aD bv aY rn kd nu tv), (zaI aS cS 901 f1)]) hD hS hA [0, 1] rfl
            refine va_callv (va_runV (As := []) (rest := []) ⟨hx, hb, hml, hown, hts⟩ (c_factor1 l dC dI sK sV m0 aS aI aB aT aG aO aN aD aY th im (nI a) (nI (p1 + 1)) (nI E) 0 1 se dn rn kd nu tv bv cS f1 a (p1 + 1) E k1 (d + 1) H.size ((hI).mono (by omega) (by omega))) (cwV 0 hts gX12_every_X12_factor rfl rfl rfl hd_yX12_factor ⟨Nat.le_of_ble_eq_true rfl, Nat.le_of_ble_eq_true rfl⟩) ⟨fun a U g mk q => by obtain ⟨q0, q1, qP, qK, qD, qhE⟩ := q; exact ⟨q0, q1, qP, va_K.moved (u := U) (U := U.calling g mk a) (Vm.Alike.refl U.vm) qK, qD, qhE.same rfl rfl⟩, va_recv hK hP (ci := 14) (q := (RX12, TX12, 23)) (q0 := 0) rfl rfl, fun U hU hW => ⟨rfl, by rw [hU], by rw [hU]; exact hPc, va_K.moved hW.alike hKc, hDc.weaken (fun _ _ _ _ => trivial), hE.call hS hU hW (fun q h => hFc q h)⟩⟩ rfl rfl hl.1 rfl (lv_room (Nat.le_of_ble_eq_true rfl)) dX12_every_31 ⟨Nat.le_of_ble_eq_true rfl, Nat.le_of_ble_eq_true rfl⟩) hS (fun q _ h => hFc q h) hFc (fun u tC H1 locs htC hvm hw_48 hB hz1 hk1 hS => ?_)
            obtain ⟨fS9_49, sp9_50, wg9_51⟩ := u
            try dsimp only at hw_48 hB
            obtain ⟨hP1, hK1, hD1⟩ := hB
            rw [htC] at hP1
            have hK1 := va_K.moved hvm.symm hK1
            obtain ⟨hP, hD⟩ := va_join (wr := []) (w1 := [(zo14irriiiiiirriirrrrlriiii m0 th aS aI im (nI a) sp9_50 (nI E) wg9_51 1 aB aT se dn aG aO aN aD bv aY rn kd nu tv), (zaI aS cS 901 fS9_49)]) hP hD [0, 1] [] rfl rfl (by decide) (by decide) hk1 hFc hP1 hD1
            have hK := (hK.sub (tys' := []) [] rfl).app hK1
            generalize H1 = H at hP hS ⊢
            have hP : va_P (dC, dI) vwCl [(zo14irriiiiiirriirrrrlriiii m0 th aS aI im (nI a) sp9_50 (nI E) wg9_51 1 aB aT se dn aG aO aN aD bv aY rn kd nu tv), (zaI aS cS 901 fS9_49)] H := hP
            have hD : va_D A [(zo14irriiiiiirriirrrrlriiii m0 th aS aI im (nI a) sp9_50 (nI E) wg9_51 1 aB aT se dn aG aO aN aD bv aY rn kd nu tv), (zaI aS cS 901 fS9_49)] := hD
            have hK : va_K (dC, dI) vwCl [(cS, .int)] s := hK
            obtain ⟨p_52, k_53, rfl, h_55, h_56, hF_57, q9⟩ := hw_48
            rcases q9 with rfl | ⟨rfl, h_58, hI_59, h_60⟩
            · skip
              refine lv_aload_n hx hb dX12_every_34 rfl (lv_at hl 0 rfl) ?_
              refine lv_bipush (v := (-2)) hx hb dX12_every_35 (by decide) ?_
              have hPc := hP.sub (ws' := [(zo14irriiiiiirriirrrrlriiii m0 th aS aI im (nI a) (nI p_52) (nI E) 1 1 aB aT se dn aG aO aN aD bv aY rn kd nu tv)]) [0] rfl
              have hKc := hK.sub (tys' := []) [] rfl
              refine va_csv (va_runV (As := [.int (-2)]) (rest := []) ⟨hx, hb, hml, hown, hts⟩ (c_emitsW l dC dI m0 aS aI aB aT aG aO aN aD aY th im (nI a) (nI p_52) (nI E) 1 1 se dn rn kd nu tv bv (-2)) (cwV 1 hts gX12_every_X12_emits rfl rfl rfl hd_yX12_emits ⟨Nat.le_of_ble_eq_true rfl, Nat.le_of_ble_eq_true rfl⟩) ⟨fun a U g mk q => by obtain ⟨q0, qP, qK⟩ := q; exact ⟨q0, qP, va_K.moved (u := U) (U := U.calling g mk a) (Vm.Alike.refl U.vm) qK⟩, va_recv hK hP (ci := 14) (q := (RX12, TX12, 23)) (q0 := 0) rfl rfl, fun U hU hW => ⟨rfl, by rw [hU]; exact hPc, va_K.moved hW.alike hKc⟩⟩ rfl rfl hl.1 rfl (lv_room (Nat.le_of_ble_eq_true rfl)) dX12_every_37 ⟨Nat.le_of_ble_eq_true rfl, Nat.le_of_ble_eq_true rfl⟩).run (fun hw_62 => ?_)
              refine lv_goto (tgt := 4) hx hb dX12_every_40 (by decide) ?_
              exact ih4 (p_52) (k) (1) (fS9_49) (by omega) (by omega) ((hF).tr hF_57) (Or.inl rfl) _ _ (hK.sub [0] rfl) (hP.sub [0, 1] rfl) (hD.sub [0, 1] (by decide) rfl) hS ls (lv_sub hl [0] rfl)
            · skip
              have k5 := hI_59.2.2.2.2.1
              refine lv_aload_n hx hb dX12_every_34 rfl (lv_at hl 0 rfl) ?_
              refine lv_bipush (v := (-2)) hx hb dX12_every_35 (by decide) ?_
              have hPc := hP.sub (ws' := [(zo14irriiiiiirriirrrrlriiii m0 th aS aI im (nI a) (nI p_52) (nI E) 0 1 aB aT se dn aG aO aN aD bv aY rn kd nu tv), (zaI aS cS 901 fS9_49)]) [0, 1] rfl
              have hDc := hD.sub (ws' := [(zo14irriiiiiirriirrrrlriiii m0 th aS aI im (nI a) (nI p_52) (nI E) 0 1 aB aT se dn aG aO aN aD bv aY rn kd nu tv), (zaI aS cS 901 fS9_49)]) [0, 1] (by decide) rfl
              have hKc := hK.sub (tys' := [(cS, .int)]) [0] rfl
              have hFc := va_free (wc := [(zo14irriiiiiirriirrrrlriiii m0 th aS aI im (nI a) (nI p_52) (nI E) 0 1 aB aT se dn aG aO aN aD bv aY rn kd nu tv), (zaI aS cS 901 fS9_49)]) hD hS hA [0, 1] rfl
              refine va_callv (va_runV (As := [.int (-2)]) (rest := []) ⟨hx, hb, hml, hown, hts⟩ (c_emits l dC dI m0 aS aI aB aT aG aO aN aD aY th im (nI a) (nI p_52) (nI E) 0 1 se dn rn kd nu tv bv cS fS9_49 a k_53 (-2) H.size (ga) ((hI_59).2.2.2.1) (by have := (hI_59).2.2.2.2.1; omega)) (cwV 1 hts gX12_every_X12_emits rfl rfl rfl hd_yX12_emits ⟨Nat.le_of_ble_eq_true rfl, Nat.le_of_ble_eq_true rfl⟩) ⟨fun a U g mk q => by obtain ⟨q0, q1, qP, qK, qD⟩ := q; exact ⟨q0, q1, qP, va_K.moved (u := U) (U := U.calling g mk a) (Vm.Alike.refl U.vm) qK, qD⟩, va_recv hK hP (ci := 14) (q := (RX12, TX12, 23)) (q0 := 0) rfl rfl, fun U hU hW => ⟨rfl, by rw [hU], by rw [hU]; exact hPc, va_K.moved hW.alike hKc, hDc.weaken (fun _ _ _ _ => trivial)⟩⟩ rfl rfl hl.1 rfl (lv_room (Nat.le_of_ble_eq_true rfl)) dX12_every_37 ⟨Nat.le_of_ble_eq_true rfl, Nat.le_of_ble_eq_true rfl⟩) hS (fun q _ h => hFc q h) hFc (fun u tC H1 locs htC hvm hw_64 hB hz1 hk1 hS => ?_)
              obtain ⟨fS9_65, rfl⟩ : ∃ z, z = u := ⟨_, rfl⟩
              try dsimp only at hw_64 hB
              obtain ⟨hP1, hK1, hD1⟩ := hB
              rw [htC] at hP1
              have hK1 := va_K.moved hvm.symm hK1
              obtain ⟨hP, hD⟩ := va_join (wr := []) (w1 := [(zo14irriiiiiirriirrrrlriiii m0 th aS aI im (nI a) (nI p_52) (nI E) 0 1 aB aT se dn aG aO aN aD bv aY rn kd nu tv), (zaI aS cS 901 fS9_65)]) hP hD [0, 1] [] rfl rfl (by decide) (by decide) hk1 hFc hP1 hD1
              have hK := (hK.sub (tys' := []) [] rfl).app hK1
              generalize H1 = H at hP hS ⊢
              have hP : va_P (dC, dI) vwCl [(zo14irriiiiiirriirrrrlriiii m0 th aS aI im (nI a) (nI p_52) (nI E) 0 1 aB aT se dn aG aO aN aD bv aY rn kd nu tv), (zaI aS cS 901 fS9_65)] H := hP
              have hD : va_D A [(zo14irriiiiiirriirrrrlriiii m0 th aS aI im (nI a) (nI p_52) (nI E) 0 1 aB aT se dn aG aO aN aD bv aY rn kd nu tv), (zaI aS cS 901 fS9_65)] := hD
              have hK : va_K (dC, dI) vwCl [(cS, .int)] s := hK
              obtain rfl : fS9_65 = emt fS9_49 a k_53 (-2) := by rcases hw_64 with ⟨q, _⟩ | ⟨_, q⟩; exact absurd rfl q; exact q
              have hI_67 : PI (emt fS9_49 a k_53 (-2)) a (k_53 + 1) (((d + 1) + 1) - 1) p_52 E := ((hI_59).mono (by omega) (by omega)).em (by omega) (by omega) (stepd_both (by omega))
              have hF_68 : PF a fS (emt fS9_49 a k_53 (-2)) := ((hF).tr hF_57).tr (PF_emt (k := k_53) (x := (-2)) ga (by have := (hI_59).2.2.2.2.1; omega))
              refine lv_goto (tgt := 4) hx hb dX12_every_40 (by decide) ?_
              exact ih4 (p_52) ((k_53 + 1)) (0) (emt fS9_49 a k_53 (-2)) (by omega) (by omega) (hF_68) (Or.inr ⟨rfl, by omega, hI_67, by omega⟩) _ _ (hK.sub [0] rfl) (hP.sub [0, 1] rfl) (hD.sub [0, 1] (by decide) rfl) hS ls (lv_sub hl [0] rfl)
    exact L4 _ (p_6) (k_7) (0) (fS9_3) (Nat.lt_succ_self _) (by omega) ((PF.rf).tr hF_11) (Or.inr ⟨rfl, by omega, hI_13, by omega⟩) _ _ (hK.sub [0] rfl) (hP.sub [0, 1] rfl) (hD.sub [0, 1] (by decide) rfl) hS ls (lv_sub hl [0] rfl)

theorem kc_some1_0 : ∀ w ∈ wsX120, w ∈ wsX12_some := fun w h => List.mem_cons_of_mem _ (gin_wsX120 w h)
theorem kc_some1_1 : (.fieldLink RX12 65 "MistHeapsModel" "isWrong" "Z" : Cond) ∈ wsX12_some := kc_of 1147 rfl rfl rfl
theorem kc_some1_2 : (.fieldLink RX12 59 "MistHeapsModel" "spot" "I" : Cond) ∈ wsX12_some := kc_of 1145 rfl rfl rfl
set_option maxHeartbeats 4000000 in
set_option maxRecDepth 100000 in
theorem c_some1 (l : Launch) (dC : Nat → ClassId) (dI : Nat → Nat → Nat) (sK sV : Nat → Nat) (m0 aS aI aB aT aG aO aN aD aY : Nat) (th im ac sp en wg op se dn rn kd nu tv : Int32) (bv : Int64) (cS : ClassId) (fS : Nat → Int32) (a p0 E k d : Nat) (sz : Nat) (gI : PI fS a k d p0 E) : Met l yX12_some wsX12_some ({ frames := 19, cells := 0, slots := 0, locals := 407 } : Room) (va_Pc [.ref m0] (fun U => U.heap.size = sz ∧ va_P (dC, dI) vwCl [(zo14irriiiiiirriirrrrlriiii m0 th aS aI im (nI a) (nI p0) (nI E) 0 1 aB aT se dn aG aO aN aD bv aY rn kd nu tv), (zaI aS cS 901 fS)] U.heap ∧ va_K (dC, dI) vwCl [(cS, .int)] U ∧ va_D (fun _ => True) [(zo14irriiiiiirriirrrrlriiii m0 th aS aI im (nI a) (nI p0) (nI E) 0 1 aB aT se dn aG aO aN aD bv aY rn kd nu tv), (zaI aS cS 901 fS)] ∧ Gs sK sV (va_A [(zo14irriiiiiirriirrrrlriiii m0 th aS aI im (nI a) (nI p0) (nI E) 0 1 aB aT se dn aG aO aN aD bv aY rn kd nu tv), (zaI aS cS 901 fS)] sz) U)) (va_Qv (fun (u : (Nat → Int32) × (Int32) × (Int32)) => match u with | (fS9, sp9, wg9) => ∃ p9 k9 : Nat, sp9 = nI p9 ∧ p0 ≤ p9 ∧ p9 ≤ E ∧ PF a fS fS9 ∧ (wg9 = 1 ∨ (wg9 = 0 ∧ p0 + 3 ≤ p9 ∧ PI fS9 a k9 (d + 1) p9 E ∧ k9 + p0 ≤ k + p9))) (fun (u : (Nat → Int32) × (Int32) × (Int32)) (t : State) => match u with | (fS9, sp9, wg9) => va_P (dC, dI) vwCl [(zo14irriiiiiirriirrrrlriiii m0 th aS aI im (nI a) sp9 (nI E) wg9 1 aB aT se dn aG aO aN aD bv aY rn kd nu tv), (zaI aS cS 901 fS9)] t.heap ∧ va_K (dC, dI) vwCl [(cS, .int)] t ∧ va_D (va_A [(zo14irriiiiiirriirrrrlriiii m0 th aS aI im (nI a) (nI p0) (nI E) 0 1 aB aT se dn aG aO aN aD bv aY rn kd nu tv), (zaI aS cS 901 fS)] sz) [(zo14irriiiiiirriirrrrlriiii m0 th aS aI im (nI a) sp9 (nI E) wg9 1 aB aT se dn aG aO aN aD bv aY rn kd nu tv), (zaI aS cS 901 fS9)]) (va_A [(zo14irriiiiiirriirrrrlriiii m0 th aS aI im (nI a) (nI p0) (nI E) 0 1 aB aT se dn aG aO aN aD bv aY rn kd nu tv), (zaI aS cS 901 fS)] sz)) 0 0 (va_A [(zo14irriiiiiirriirrrrlriiii m0 th aS aI im (nI a) (nI p0) (nI E) 0 1 aB aT se dn aG aO aN aD bv aY rn kd nu tv), (zaI aS cS 901 fS)] sz) := by
  refine met_ofQ (cc := cX12_some) (maxL := 1) (ret := none) (by decide) rfl ?_
  intro p e s m args below meth c s₁ Q B hml hv hQ
  obtain ⟨rfl, hsz, hP, hK, hD0, hE⟩ := hv
  have hx := B.exec
  have hb := B.bytes
  have hr := B.returns
  have hts := atoms_spec (ws := wsX12_some) B.pre
  have hown : s.vm.findClass RX12 = some m.cls := findClass_of_methodNamed B.named
  have hlocks := B.notSynchronized
  subst hsz
  have hD := hD0.self (sz := s.heap.size)
  generalize hAe : va_A [(zo14irriiiiiirriirrrrlriiii m0 th aS aI im (nI a) (nI p0) (nI E) 0 1 aB aT se dn aG aO aN aD bv aY rn kd nu tv), (zaI aS cS 901 fS)] s.heap.size = A at hD hQ hE ⊢
  have hA : ∀ q : Nat, s.heap.size ≤ q → A q := fun q h => by rw [← hAe]; exact Or.inr h
  have hS : va_S A s.heap s.heap [] := va_S.rf
  have hl := lv_entry [.ref m0] (n := 1) (Nat.le_of_ble_eq_true rfl)
  rw [lg_entry_eq]
  generalize (lg_sl [.ref m0] ++ List.replicate (1 - (lg_sl [.ref m0]).length) Slot.unset).toArray = ls at hl ⊢
  generalize hag : ([.ref m0] : List Value).toArray = args at hts hQ ⊢
  have hl : lv_has ls 1 [(0, .ref m0)] := hl
  obtain ⟨H, hH⟩ : ∃ H : Heap, H = s.heap := ⟨_, rfl⟩
  rw [← hH] at hP
  rw [← hH]
  have hS : va_S A s.heap H [] := by rw [hH]; exact hS
  obtain ⟨locs, hlo⟩ : ∃ L : List Loc, L = [] := ⟨_, rfl⟩
  rw [← hlo] at hS
  rw [← hlo]
  clear hH hlo
  obtain ⟨ga, gp, gE, zk, gkp, gd, gs⟩ := id gI
  refine lv_aload_n hx hb dX12_some_0 rfl (lv_at hl 0 rfl) ?_
  have hPc := hP.sub (ws' := [(zo14irriiiiiirriirrrrlriiii m0 th aS aI im (nI a) (nI p0) (nI E) 0 1 aB aT se dn aG aO aN aD bv aY rn kd nu tv), (zaI aS cS 901 fS)]) [0, 1] rfl
  have hDc := hD.sub (ws' := [(zo14irriiiiiirriirrrrlriiii m0 th aS aI im (nI a) (nI p0) (nI E) 0 1 aB aT se dn aG aO aN aD bv aY rn kd nu tv), (zaI aS cS 901 fS)]) [0, 1] (by decide) rfl
  have hKc := hK.sub (tys' := [(cS, .int)]) [0] rfl
  have hFc := va_free (wc := [(zo14irriiiiiirriirrrrlriiii m0 th aS aI im (nI a) (nI p0) (nI E) 0 1 aB aT se dn aG aO aN aD bv aY rn kd nu tv), (zaI aS cS 901 fS)]) hD hS hA [0, 1] rfl
  refine va_callv (va_runV (As := []) (rest := []) ⟨hx, hb, hml, hown, hts⟩ (c_every1 l dC dI sK sV m0 aS aI aB aT aG aO aN aD aY th im (nI a) (nI p0) (nI E) 0 1 se dn rn kd nu tv bv cS fS a p0 E k d H.size ((gI).mono (by omega) (by omega))) (cwV 0 hts gX12_some_X12_every rfl rfl rfl hd_yX12_every ⟨Nat.le_of_ble_eq_true rfl, Nat.le_of_ble_eq_true rfl⟩) ⟨fun a U g mk q => by obtain ⟨q0, q1, qP, qK, qD, qhE⟩ := q; exact ⟨q0, q1, qP, va_K.moved (u := U) (U := U.calling g mk a) (Vm.Alike.refl U.vm) qK, qD, qhE.same rfl rfl⟩, va_recv hK hP (ci := 14) (q := (RX12, TX12, 23)) (q0 := 0) rfl rfl, fun U hU hW => ⟨rfl, by rw [hU], by rw [hU]; exact hPc, va_K.moved hW.alike hKc, hDc.weaken (fun _ _ _ _ => trivial), hE.call hS hU hW (fun q h => hFc q h)⟩⟩ rfl rfl hl.1 rfl (lv_room (Nat.le_of_ble_eq_true rfl)) dX12_some_1 ⟨Nat.le_of_ble_eq_true rfl, Nat.le_of_ble_eq_true rfl⟩) hS (fun q _ h => hFc q h) hFc (fun u tC H1 locs htC hvm hw_2 hB hz1 hk1 hS => ?_)
  obtain ⟨fS9_3, sp9_4, wg9_5⟩ := u
  try dsimp only at hw_2 hB
  obtain ⟨hP1, hK1, hD1⟩ := hB
  rw [htC] at hP1
  have hK1 := va_K.moved hvm.symm hK1
  obtain ⟨hP, hD⟩ := va_join (wr := []) (w1 := [(zo14irriiiiiirriirrrrlriiii m0 th aS aI im (nI a) sp9_4 (nI E) wg9_5 1 aB aT se dn aG aO aN aD bv aY rn kd nu tv), (zaI aS cS 901 fS9_3)]) hP hD [0, 1] [] rfl rfl (by decide) (by decide) hk1 hFc hP1 hD1
  have hK := (hK.sub (tys' := []) [] rfl).app hK1
  generalize H1 = H at hP hS ⊢
  have hP : va_P (dC, dI) vwCl [(zo14irriiiiiirriirrrrlriiii m0 th aS aI im (nI a) sp9_4 (nI E) wg9_5 1 aB aT se dn aG aO aN aD bv aY rn kd nu tv), (zaI aS cS 901 fS9_3)] H := hP
  have hD : va_D A [(zo14irriiiiiirriirrrrlriiii m0 th aS aI im (nI a) sp9_4 (nI E) wg9_5 1 aB aT se dn aG aO aN aD bv aY rn kd nu tv), (zaI aS cS 901 fS9_3)] := hD
  have hK : va_K (dC, dI) vwCl [(cS, .int)] s := hK
  obtain ⟨p_6, k_7, rfl, h_9, h_10, hF_11, q9⟩ := hw_2
  rcases q9 with rfl | ⟨rfl, h_12, hI_13, h_14⟩
  · skip
    have L4 : ∀ (nF : Nat) (p1 : Nat) (k1 : Nat) (w1 : Int32) (f1 : Nat → Int32), E - p1 < nF → (p0 ≤ p1 ∧ p1 ≤ E) → (PF a fS f1) → (w1 = 1 ∨ (w1 = 0 ∧ p0 + 3 ≤ p1 ∧ PI f1 a k1 (d + 1) p1 E ∧ k1 + p0 ≤ k + p1)) → ∀ (H : Heap) (locs : List Loc), va_K (dC, dI) vwCl [(cS, .int)] s → va_P (dC, dI) vwCl [(zo14irriiiiiirriirrrrlriiii m0 th aS aI im (nI a) (nI p1) (nI E) w1 1 aB aT se dn aG aO aN aD bv aY rn kd nu tv), (zaI aS cS 901 f1)] H → va_D A [(zo14irriiiiiirriirrrrlriiii m0 th aS aI im (nI a) (nI p1) (nI E) w1 1 aB aT se dn aG aO aN aD bv aY rn kd nu tv), (zaI aS cS 901 f1)] → va_S A s.heap H locs → ∀ (ls : Array Slot), lv_has ls 1 [(0, .ref m0)] → W p l e ({ frames := 19, cells := 0, slots := 0, locals := 407 } : Room) s m args below meth c H locs 0 0 Q (F0 m 4 ls []) := by
      intro nF
      induction nF with
      | zero => intro p1 k1 w1 f1 hm; exact absurd hm (Nat.not_lt_zero _)
      | succ nF ih4 =>
        intro p1 k1 w1 f1 hm h1 hF hw1 H locs hK hP hD hS ls hl
        obtain ⟨h1a, h1b⟩ := h1
        rcases hw1 with rfl | ⟨rfl, h3, hI, h4⟩
        · skip
          refine lv_aload_n hx hb dX12_some_4 rfl (lv_at hl 0 rfl) ?_
          refine va_get (D := (dC, dI)) (ci := 14) (v := .int 1) (C := RX12) (T := TX12) (N := 23) hx hb hts kc_some1_0 hown hK hP 0 rfl rfl 7 (by decide) (hts (.fieldLink RX12 65 "MistHeapsModel" "isWrong" "Z") kc_some1_1) (fun _ h9 => h9) rfl dX12_some_5 ?_
          refine lv_if_ne (tgt := 43) hx hb dX12_some_8 (by decide) (fun _ => ?_) (fun c_15 => absurd c_15 (by decide))
          rw [hQ]
          have hP9 := hP.sub (ws' := [(zo14irriiiiiirriirrrrlriiii m0 th aS aI im (nI a) (nI p1) (nI E) 1 1 aB aT se dn aG aO aN aD bv aY rn kd nu tv), (zaI aS cS 901 f1)]) [0, 1] rfl
          have hD9 := hD.sub (ws' := [(zo14irriiiiiirriirrrrlriiii m0 th aS aI im (nI a) (nI p1) (nI E) 1 1 aB aT se dn aG aO aN aD bv aY rn kd nu tv), (zaI aS cS 901 f1)]) [0, 1] (by decide) rfl
          have hK9 := hK.sub (tys' := [(cS, .int)]) [0] rfl
          exact W.vret hx hb hr (fun tQ htQ hWQ => ⟨⟨(f1, (nI p1), 1), rfl, ⟨p1, k, rfl, by omega, by omega, hF, Or.inl rfl⟩, by rw [htQ]; exact hP9, va_K.moved hWQ.alike hK9, hD9⟩, hS.F htQ⟩) hS.2.2 dX12_some_43
        · skip
          have k5 := hI.2.2.2.2.1
          refine lv_aload_n hx hb dX12_some_4 rfl (lv_at hl 0 rfl) ?_
          refine va_get (D := (dC, dI)) (ci := 14) (v := .int 0) (C := RX12) (T := TX12) (N := 23) hx hb hts kc_some1_0 hown hK hP 0 rfl rfl 7 (by decide) (hts (.fieldLink RX12 65 "MistHeapsModel" "isWrong" "Z") kc_some1_1) (fun _ h9 => h9) rfl dX12_some_5 ?_
          refine lv_if_ne (tgt := 43) hx hb dX12_some_8 (by decide) (fun c_16 => absurd c_16 (by decide)) (fun _ => ?_)
          refine lv_aload_n hx hb dX12_some_11 rfl (lv_at hl 0 rfl) ?_
          have hPc := hP.sub (ws' := [(zo14irriiiiiirriirrrrlriiii m0 th aS aI im (nI a) (nI p1) (nI E) 0 1 aB aT se dn aG aO aN aD bv aY rn kd nu tv), (zaI aS cS 901 f1)]) [0, 1] rfl
          have hKc := hK.sub (tys' := [(cS, .int)]) [0] rfl
          refine vp_callSi (va_runV (As := []) (rest := []) ⟨hx, hb, hml, hown, hts⟩ (c_here l dC dI m0 aS aI aB aT aG aO aN aD aY th im (nI a) (nI p1) (nI E) 0 1 se dn rn kd nu tv bv cS f1 a p1 E (by omega) (by omega) (by omega)) (cwV 0 hts gX12_some_X12_here rfl rfl rfl hd_yX12_here ⟨Nat.le_of_ble_eq_true rfl, Nat.le_of_ble_eq_true rfl⟩) ⟨fun a U g mk q => by obtain ⟨q0, qP, qK⟩ := q; exact ⟨q0, qP, va_K.moved (u := U) (U := U.calling g mk a) (Vm.Alike.refl U.vm) qK⟩, va_recv hK hP (ci := 14) (q := (RX12, TX12, 23)) (q0 := 0) rfl rfl, fun U hU hW => ⟨rfl, by rw [hU]; exact hPc, va_K.moved hW.alike hKc⟩⟩ rfl rfl hl.1 rfl (lv_room (Nat.le_of_ble_eq_true rfl)) dX12_some_12 ⟨Nat.le_of_ble_eq_true rfl, Nat.le_of_ble_eq_true rfl⟩).run (fun r_17 hw_18 => ?_)
          refine lv_bipush (v := 124) hx hb dX12_some_15 (by decide) ?_
          refine lv_icmp_ne (tgt := 43) hx hb dX12_some_17 (by decide) (fun c_19 => ?_) (fun c_19 => ?_)
          · skip
            rw [hQ]
            have hP9 := hP.sub (ws' := [(zo14irriiiiiirriirrrrlriiii m0 th aS aI im (nI a) (nI p1) (nI E) 0 1 aB aT se dn aG aO aN aD bv aY rn kd nu tv), (zaI aS cS 901 f1)]) [0, 1] rfl
            have hD9 := hD.sub (ws' := [(zo14irriiiiiirriirrrrlriiii m0 th aS aI im (nI a) (nI p1) (nI E) 0 1 aB aT se dn aG aO aN aD bv aY rn kd nu tv), (zaI aS cS 901 f1)]) [0, 1] (by decide) rfl
            have hK9 := hK.sub (tys' := [(cS, .int)]) [0] rfl
            exact W.vret hx hb hr (fun tQ htQ hWQ => ⟨⟨(f1, (nI p1), 0), rfl, ⟨p1, k1, rfl, by omega, by omega, hF, Or.inr ⟨rfl, by omega, hI, by omega⟩⟩, by rw [htQ]; exact hP9, va_K.moved hWQ.alike hK9, hD9⟩, hS.F htQ⟩) hS.2.2 dX12_some_43
          · skip
            have hlt : p1 < E := hv_lt (f := f1) (by rw [← hw_18, c_19]; decide)
            refine lv_aload_n hx hb dX12_some_20 rfl (lv_at hl 0 rfl) ?_
            refine lv_dup hx hb dX12_some_21 rfl ?_
            refine va_get (D := (dC, dI)) (ci := 14) (v := .int (nI p1)) (C := RX12) (T := TX12) (N := 23) hx hb hts kc_some1_0 hown hK hP 0 rfl rfl 5 (by decide) (hts (.fieldLink RX12 59 "MistHeapsModel" "spot" "I") kc_some1_2) (fun _ h9 => h9) rfl dX12_some_22 ?_
            refine lv_iconst (v := 1) hx hb dX12_some_25 (by decide) ?_
            refine lv_iadd hx hb dX12_some_26 ?_
            refine qi_as (y := nI (p1 + 1)) (nI_add p1 1) ?_
            refine va_put (D := (dC, dI)) (ci := 14) (v := .int (nI (p1 + 1))) (ty := .int) (C := RX12) (T := TX12) (N := 23) hx hb hts kc_some1_0 tyX12 tyX12_ok nmX12 hown hK hP hD hS 0 rfl rfl 5 (by decide) (hts (.fieldLink RX12 59 "MistHeapsModel" "spot" "I") kc_some1_2) (fun _ h9 => h9) rfl (by decide +kernel) rfl rfl (Nat.le_of_ble_eq_true rfl) dX12_some_27 (fun H locs hP hD hS => ?_)
            have hP : va_P (dC, dI) vwCl [(zo14irriiiiiirriirrrrlriiii m0 th aS aI im (nI a) (nI (p1 + 1)) (nI E) 0 1 aB aT se dn aG aO aN aD bv aY rn kd nu tv), (zaI aS cS 901 f1)] H := hP
            have hD : va_D A [(zo14irriiiiiirriirrrrlriiii m0 th aS aI im (nI a) (nI (p1 + 1)) (nI E) 0 1 aB aT se dn aG aO aN aD bv aY rn kd nu tv), (zaI aS cS 901 f1)] := hD
            refine lv_aload_n hx hb dX12_some_30 rfl (lv_at hl 0 rfl) ?_
            have hPc := hP.sub (ws' := [(zo14irriiiiiirriirrrrlriiii m0 th aS aI im (nI a) (nI (p1 + 1)) (nI E) 0 1 aB aT se dn aG aO aN aD bv aY rn kd nu tv), (zaI aS cS 901 f1)]) [0, 1] rfl
            have hDc := hD.sub (ws' := [(zo14irriiiiiirriirrrrlriiii m0 th aS aI im (nI a) (nI (p1 + 1)) (nI E) 0 1 aB aT se dn aG aO aN aD bv aY rn kd nu tv), (zaI aS cS 901 f1)]) [0, 1] (by decide) rfl
            have hKc := hK.sub (tys' := [(cS, .int)]) [0] rfl
            have hFc := va_free (wc := [(zo14irriiiiiirriirrrrlriiii m0 th aS aI im (nI a) (nI (p1 + 1)) (nI E) 0 1 aB aT se dn aG aO aN aD bv aY rn kd nu tv), (zaI aS cS 901 f1)]) hD hS hA [0, 1] rfl
            refine va_callv (va_runV (As := []) (rest := []) ⟨hx, hb, hml, hown, hts⟩ (c_every1 l dC dI sK sV m0 aS aI aB aT aG aO aN aD aY th im (nI a) (nI (p1 + 1)) (nI E) 0 1 se dn rn kd nu tv bv cS f1 a (p1 + 1) E k1 (d + 1) H.size ((hI).mono (by omega) (by omega))) (cwV 0 hts gX12_some_X12_every rfl rfl rfl hd_yX12_every ⟨Nat.le_of_ble_eq_true rfl, Nat.le_of_ble_eq_true rfl⟩) ⟨fun a U g mk q => by obtain ⟨q0, q1, qP, qK, qD, qhE⟩ := q; exact ⟨q0, q1, qP, va_K.moved (u := U) (U := U.calling g mk a) (Vm.Alike.refl U.vm) qK, qD, qhE.same rfl rfl⟩, va_recv hK hP (ci := 14) (q := (RX12, TX12, 23)) (q0 := 0) rfl rfl, fun U hU hW => ⟨rfl, by rw [hU], by rw [hU]; exact hPc, va_K.moved hW.alike hKc, hDc.weaken (fun _ _ _ _ => trivial), hE.call hS hU hW (fun q h => hFc q h)⟩⟩ rfl rfl hl.1 rfl (lv_room (Nat.le_of_ble_eq_true rfl)) dX12_some_31 ⟨Nat.le_of_ble_eq_true rfl, Nat.le_of_ble_eq_true rfl⟩) hS (fun q _ h => hFc q h) hFc (fun u tC H1 locs htC hvm hw_21 hB hz1 hk1 hS => ?_)
            obtain ⟨fS9_22, sp9_23, wg9_24⟩ := u
            try dsimp only at hw_21 hB
            obtain ⟨hP1, hK1, hD1⟩ := hB
            rw [htC] at hP1
            have hK1 := va_K.moved hvm.symm hK1
            obtain ⟨hP, hD⟩ := va_join (wr := []) (w1 := [(zo14irriiiiiirriirrrrlriiii m0 th aS aI im (nI a) sp9_23 (nI E) wg9_24 1 aB aT se dn aG aO aN aD bv aY rn kd nu tv), (zaI aS cS 901 fS9_22)]) hP hD [0, 1] [] rfl rfl (by decide) (by decide) hk1 hFc hP1 hD1
            have hK := (hK.sub (tys' := []) [] rfl).app hK1
            generalize H1 = H at hP hS ⊢
            have hP : va_P (dC, dI) vwCl [(zo14irriiiiiirriirrrrlriiii m0 th aS aI im (nI a) sp9_23 (nI E) wg9_24 1 aB aT se dn aG aO aN aD bv aY rn kd nu tv), (zaI aS cS 901 fS9_22)] H := hP
            have hD : va_D A [(zo14irriiiiiirriirrrrlriiii m0 th aS aI im (nI a) sp9_23 (nI E) wg9_24 1 aB aT se dn aG aO aN aD bv aY rn kd nu tv), (zaI aS cS 901 fS9_22)] := hD
            have hK : va_K (dC, dI) vwCl [(cS, .int)] s := hK
            obtain ⟨p_25, k_26, rfl, h_28, h_29, hF_30, q9⟩ := hw_21
            rcases q9 with rfl | ⟨rfl, h_31, hI_32, h_33⟩
            · skip
              refine lv_aload_n hx hb dX12_some_34 rfl (lv_at hl 0 rfl) ?_
              refine lv_bipush (v := (-3)) hx hb dX12_some_35 (by decide) ?_
              have hPc := hP.sub (ws' := [(zo14irriiiiiirriirrrrlriiii m0 th aS aI im (nI a) (nI p_25) (nI E) 1 1 aB aT se dn aG aO aN aD bv aY rn kd nu tv)]) [0] rfl
              have hKc := hK.sub (tys' := []) [] rfl
              refine va_csv (va_runV (As := [.int (-3)]) (rest := []) ⟨hx, hb, hml, hown, hts⟩ (c_emitsW l dC dI m0 aS aI aB aT aG aO aN aD aY th im (nI a) (nI p_25) (nI E) 1 1 se dn rn kd nu tv bv (-3)) (cwV 1 hts gX12_some_X12_emits rfl rfl rfl hd_yX12_emits ⟨Nat.le_of_ble_eq_true rfl, Nat.le_of_ble_eq_true rfl⟩) ⟨fun a U g mk q => by obtain ⟨q0, qP, qK⟩ := q; exact ⟨q0, qP, va_K.moved (u := U) (U := U.calling g mk a) (Vm.Alike.refl U.vm) qK⟩, va_recv hK hP (ci := 14) (q := (RX12, TX12, 23)) (q0 := 0) rfl rfl, fun U hU hW => ⟨rfl, by rw [hU]; exact hPc, va_K.moved hW.alike hKc⟩⟩ rfl rfl hl.1 rfl (lv_room (Nat.le_of_ble_eq_true rfl)) dX12_some_37 ⟨Nat.le_of_ble_eq_true rfl, Nat.le_of_ble_eq_true rfl⟩).run (fun hw_35 => ?_)
              refine lv_goto (tgt := 4) hx hb dX12_some_40 (by decide) ?_
              exact ih4 (p_25) (k) (1) (fS9_22) (by omega) (by omega) ((hF).tr hF_30) (Or.inl rfl) _ _ (hK.sub [0] rfl) (hP.sub [0, 1] rfl) (hD.sub [0, 1] (by decide) rfl) hS ls (lv_sub hl [0] rfl)
            · skip
              have k5 := hI_32.2.2.2.2.1
              refine lv_aload_n hx hb dX12_some_34 rfl (lv_at hl 0 rfl) ?_
              refine lv_bipush (v := (-3)) hx hb dX12_some_35 (by decide) ?_
              have hPc := hP.sub (ws' := [(zo14irriiiiiirriirrrrlriiii m0 th aS aI im (nI a) (nI p_25) (nI E) 0 1 aB aT se dn aG aO aN aD bv aY rn kd nu tv), (zaI aS cS 901 fS9_22)]) [0, 1] rfl
              have hDc := hD.sub (ws' := [(zo14irriiiiiirriirrrrlriiii m0 th aS aI im (nI a) (nI p_25) (nI E) 0 1 aB aT se dn aG aO aN aD bv aY rn kd nu tv), (zaI aS cS 901 fS9_22)]) [0, 1] (by decide) rfl
              have hKc := hK.sub (tys' := [(cS, .int)]) [0] rfl
              have hFc := va_free (wc := [(zo14irriiiiiirriirrrrlriiii m0 th aS aI im (nI a) (nI p_25) (nI E) 0 1 aB aT se dn aG aO aN aD bv aY rn kd nu tv), (zaI aS cS 901 fS9_22)]) hD hS hA [0, 1] rfl
              refine va_callv (va_runV (As := [.int (-3)]) (rest := []) ⟨hx, hb, hml, hown, hts⟩ (c_emits l dC dI m0 aS aI aB aT aG aO aN aD aY th im (nI a) (nI p_25) (nI E) 0 1 se dn rn kd nu tv bv cS fS9_22 a k_26 (-3) H.size (ga) ((hI_32).2.2.2.1) (by have := (hI_32).2.2.2.2.1; omega)) (cwV 1 hts gX12_some_X12_emits rfl rfl rfl hd_yX12_emits ⟨Nat.le_of_ble_eq_true rfl, Nat.le_of_ble_eq_true rfl⟩) ⟨fun a U g mk q => by obtain ⟨q0, q1, qP, qK, qD⟩ := q; exact ⟨q0, q1, qP, va_K.moved (u := U) (U := U.calling g mk a) (Vm.Alike.refl U.vm) qK, qD⟩, va_recv hK hP (ci := 14) (q := (RX12, TX12, 23)) (q0 := 0) rfl rfl, fun U hU hW => ⟨rfl, by rw [hU], by rw [hU]; exact hPc, va_K.moved hW.alike hKc, hDc.weaken (fun _ _ _ _ => trivial)⟩⟩ rfl rfl hl.1 rfl (lv_room (Nat.le_of_ble_eq_true rfl)) dX12_some_37 ⟨Nat.le_of_ble_eq_true rfl, Nat.le_of_ble_eq_true rfl⟩) hS (fun q _ h => hFc q h) hFc (fun u tC H1 locs htC hvm hw_37 hB hz1 hk1 hS => ?_)
              obtain ⟨fS9_38, rfl⟩ : ∃ z, z = u := ⟨_, rfl⟩
              try dsimp only at hw_37 hB
              obtain ⟨hP1, hK1, hD1⟩ := hB
              rw [htC] at hP1
              have hK1 := va_K.moved hvm.symm hK1
              obtain ⟨hP, hD⟩ := va_join (wr := []) (w1 := [(zo14irriiiiiirriirrrrlriiii m0 th aS aI im (nI a) (nI p_25) (nI E) 0 1 aB aT se dn aG aO aN aD bv aY rn kd nu tv), (zaI aS cS 901 fS9_38)]) hP hD [0, 1] [] rfl rfl (by decide) (by decide) hk1 hFc hP1 hD1
              have hK := (hK.sub (tys' := []) [] rfl).app hK1
              generalize H1 = H at hP hS ⊢
              have hP : va_P (dC, dI) vwCl [(zo14irriiiiiirriirrrrlriiii m0 th aS aI im (nI a) (nI p_25) (nI E) 0 1 aB aT se dn aG aO aN aD bv aY rn kd nu tv), (zaI aS cS 901 fS9_38)] H := hP
              have hD : va_D A [(zo14irriiiiiirriirrrrlriiii m0 th aS aI im (nI a) (nI p_25) (nI E) 0 1 aB aT se dn aG aO aN aD bv aY rn kd nu tv), (zaI aS cS 901 fS9_38)] := hD
              have hK : va_K (dC, dI) vwCl [(cS, .int)] s := hK
              obtain rfl : fS9_38 = emt fS9_22 a k_26 (-3) := by rcases hw_37 with ⟨q, _⟩ | ⟨_, q⟩; exact absurd rfl q; exact q
              have hI_40 : PI (emt fS9_22 a k_26 (-3)) a (k_26 + 1) (((d + 1) + 1) - 1) p_25 E := ((hI_32).mono (by omega) (by omega)).em (by omega) (by omega) (stepd_either (by omega))
              have hF_41 : PF a fS (emt fS9_22 a k_26 (-3)) := ((hF).tr hF_30).tr (PF_emt (k := k_26) (x := (-3)) ga (by have := (hI_32).2.2.2.2.1; omega))
              refine lv_goto (tgt := 4) hx hb dX12_some_40 (by decide) ?_
              exact ih4 (p_25) ((k_26 + 1)) (0) (emt fS9_22 a k_26 (-3)) (by omega) (by omega) (hF_41) (Or.inr ⟨rfl, by omega, hI_40, by omega⟩) _ _ (hK.sub [0] rfl) (hP.sub [0, 1] rfl) (hD.sub [0, 1] (by decide) rfl) hS ls (lv_sub hl [0] rfl)
    exact L4 _ (p_6) (k) (1) (fS9_3) (Nat.lt_succ_self _) (by omega) ((PF.rf).tr hF_11) (Or.inl rfl) _ _ (hK.sub [0] rfl) (hP.sub [0, 1] rfl) (hD.sub [0, 1] (by decide) rfl) hS ls (lv_sub hl [0] rfl)
  · skip
    have k5 := hI_13.2.2.2.2.1
    have L4 : ∀ (nF : Nat) (p1 : Nat) (k1 : Nat) (w1 : Int32) (f1 : Nat → Int32), E - p1 < nF → (p0 ≤ p1 ∧ p1 ≤ E) → (PF a fS f1) → (w1 = 1 ∨ (w1 = 0 ∧ p0 + 3 ≤ p1 ∧ PI f1 a k1 (d + 1) p1 E ∧ k1 + p0 ≤ k + p1)) → ∀ (H : Heap) (locs : List Loc), va_K (dC, dI) vwCl [(cS, .int)] s → va_P (dC, dI) vwCl [(zo14irriiiiiirriirrrrlriiii m0 th aS aI im (nI a) (nI p1) (nI E) w1 1 aB aT se dn aG aO aN aD bv aY rn kd nu tv), (zaI aS cS 901 f1)] H → va_D A [(zo14irriiiiiirriirrrrlriiii m0 th aS aI im (nI a) (nI p1) (nI E) w1 1 aB aT se dn aG aO aN aD bv aY rn kd nu tv), (zaI aS cS 901 f1)] → va_S A s.heap H locs → ∀ (ls : Array Slot), lv_has ls 1 [(0, .ref m0)] → W p l e ({ frames := 19, cells := 0, slots := 0, locals := 407 } : Room) s m args below meth c H locs 0 0 Q (F0 m 4 ls []) := by
      intro nF
      induction nF with
      | zero => intro p1 k1 w1 f1 hm; exact absurd hm (Nat.not_lt_zero _)
      | succ nF ih4 =>
        intro p1 k1 w1 f1 hm h1 hF hw1 H locs hK hP hD hS ls hl
        obtain ⟨h1a, h1b⟩ := h1
        rcases hw1 with rfl | ⟨rfl, h3, hI, h4⟩
        · skip
          refine lv_aload_n hx hb dX12_some_4 rfl (lv_at hl 0 rfl) ?_
          refine va_get (D := (dC, dI)) (ci := 14) (v := .int 1) (C := RX12) (T := TX12) (N := 23) hx hb hts kc_some1_0 hown hK hP 0 rfl rfl 7 (by decide) (hts (.fieldLink RX12 65 "MistHeapsModel" "isWrong" "Z") kc_some1_1) (fun _ h9 => h9) rfl dX12_some_5 ?_
          refine lv_if_ne (tgt := 43) hx hb dX12_some_8 (by decide) (fun _ => ?_) (fun c_42 => absurd c_42 (by decide))
          rw [hQ]
          have hP9 := hP.sub (ws' := [(zo14irriiiiiirriirrrrlriiii m0 th aS aI im (nI a) (nI p1) (nI E) 1 1 aB aT se dn aG aO aN aD bv aY rn kd nu tv), (zaI aS cS 901 f1)]) [0, 1] rfl
          have hD9 := hD.sub (ws' := [(zo14irriiiiiirriirrrrlriiii m0 th aS aI im (nI a) (nI p1) (nI E) 1 1 aB aT se dn aG aO aN aD bv aY rn kd nu tv), (zaI aS cS 901 f1)]) [0, 1] (by decide) rfl
          have hK9 := hK.sub (tys' := [(cS, .int)]) [0] rfl
          exact W.vret hx hb hr (fun tQ htQ hWQ => ⟨⟨(f1, (nI p1), 1), rfl, ⟨p1, k, rfl, by omega, by omega, hF, Or.inl rfl⟩, by rw [htQ]; exact hP9, va_K.moved hWQ.alike hK9, hD9⟩, hS.F htQ⟩) hS.2.2 dX12_some_43
        · skip
          have k5 := hI.2.2.2.2.1
          refine lv_aload_n hx hb dX12_some_4 rfl (lv_at hl 0 rfl) ?_
          refine va_get (D := (dC, dI)) (ci := 14) (v := .int 0) (C := RX12) (T := TX12) (N := 23) hx hb hts kc_some1_0 hown hK hP 0 rfl rfl 7 (by decide) (hts (.fieldLink RX12 65 "MistHeapsModel" "isWrong" "Z") kc_some1_1) (fun _ h9 => h9) rfl dX12_some_5 ?_
          refine lv_if_ne (tgt := 43) hx hb dX12_some_8 (by decide) (fun c_43 => absurd c_43 (by decide)) (fun _ => ?_)
          refine lv_aload_n hx hb dX12_some_11 rfl (lv_at hl 0 rfl) ?_
          have hPc := hP.sub (ws' := [(zo14irriiiiiirriirrrrlriiii m0 th aS aI im (nI a) (nI p1) (nI E) 0 1 aB aT se dn aG aO aN aD bv aY rn kd nu tv), (zaI aS cS 901 f1)]) [0, 1] rfl
          have hKc := hK.sub (tys' := [(cS, .int)]) [0] rfl
          refine vp_callSi (va_runV (As := []) (rest := []) ⟨hx, hb, hml, hown, hts⟩ (c_here l dC dI m0 aS aI aB aT aG aO aN aD aY th im (nI a) (nI p1) (nI E) 0 1 se dn rn kd nu tv bv cS f1 a p1 E (by omega) (by omega) (by omega)) (cwV 0 hts gX12_some_X12_here rfl rfl rfl hd_yX12_here ⟨Nat.le_of_ble_eq_true rfl, Nat.le_of_ble_eq_true rfl⟩) ⟨fun a U g mk q => by obtain ⟨q0, qP, qK⟩ := q; exact ⟨q0, qP, va_K.moved (u := U) (U := U.calling g mk a) (Vm.Alike.refl U.vm) qK⟩, va_recv hK hP (ci := 14) (q := (RX12, TX12, 23)) (q0 := 0) rfl rfl, fun U hU hW => ⟨rfl, by rw [hU]; exact hPc, va_K.moved hW.alike hKc⟩⟩ rfl rfl hl.1 rfl (lv_room (Nat.le_of_ble_eq_true rfl)) dX12_some_12 ⟨Nat.le_of_ble_eq_true rfl, Nat.le_of_ble_eq_true rfl⟩).run (fun r_44 hw_45 => ?_)
          refine lv_bipush (v := 124) hx hb dX12_some_15 (by decide) ?_
          refine lv_icmp_ne (tgt := 43) hx hb dX12_some_17 (by decide) (fun c_46 => ?_) (fun c_46 => ?_)
          · skip
            rw [hQ]
            have hP9 := hP.sub (ws' := [(zo14irriiiiiirriirrrrlriiii m0 th aS aI im (nI a) (nI p1) (nI E) 0 1 aB aT se dn aG aO aN aD bv aY rn kd nu tv), (zaI aS cS 901 f1)]) [0, 1] rfl
            have hD9 := hD.sub (ws' := [(zo14irriiiiiirriirrrrlriiii m0 th aS aI im (nI a) (nI p1) (nI E) 0 1 aB aT se dn aG aO aN aD bv aY rn kd nu tv), (zaI aS cS 901 f1)]) [0, 1] (by decide) rfl
            have hK9 := hK.sub (tys' := [(cS, .int)]) [0] rfl
            exact W.vret hx hb hr (fun tQ htQ hWQ => ⟨⟨(f1, (nI p1), 0), rfl, ⟨p1, k1, rfl, by omega, by omega, hF, Or.inr ⟨rfl, by omega, hI, by omega⟩⟩, by rw [htQ]; exact hP9, va_K.moved hWQ.alike hK9, hD9⟩, hS.F htQ⟩) hS.2.2 dX12_some_43
          · skip
            have hlt : p1 < E := hv_lt (f := f1) (by rw [← hw_45, c_46]; decide)
            refine lv_aload_n hx hb dX12_some_20 rfl (lv_at hl 0 rfl) ?_
            refine lv_dup hx hb dX12_some_21 rfl ?_
            refine va_get (D := (dC, dI)) (ci := 14) (v := .int (nI p1)) (C := RX12) (T := TX12) (N := 23) hx hb hts kc_some1_0 hown hK hP 0 rfl rfl 5 (by decide) (hts (.fieldLink RX12 59 "MistHeapsModel" "spot" "I") kc_some1_2) (fun _ h9 => h9) rfl dX12_some_22 ?_
            refine lv_iconst (v := 1) hx hb dX12_some_25 (by decide) ?_
            refine lv_iadd hx hb dX12_some_26 ?_
            refine qi_as (y := nI (p1 + 1)) (nI_add p1 1) ?_
            refine va_put (D := (dC, dI)) (ci := 14) (v := .int (nI (p1 + 1))) (ty := .int) (C := RX12) (T := TX12) (N := 23) hx hb hts kc_some1_0 tyX12 tyX12_ok nmX12 hown hK hP hD hS 0 rfl rfl 5 (by decide) (hts (.fieldLink RX12 59 "MistHeapsModel" "spot" "I") kc_some1_2) (fun _ h9 => h9) rfl (by decide +kernel) rfl rfl (Nat.le_of_ble_eq_true rfl) dX12_some_27 (fun H locs hP hD hS => ?_)
            have hP : va_P (dC, dI) vwCl [(zo14irriiiiiirriirrrrlriiii m0 th aS aI im (nI a) (nI (p1 + 1)) (nI E) 0 1 aB aT se dn aG aO aN aD bv aY rn kd nu tv), (zaI aS cS 901 f1)] H := hP
            have hD : va_D A [(zo14irriiiiiirriirrrrlriiii m0 th aS aI im (nI a) (nI (p1 + 1)) (nI E) 0 1 aB aT se dn aG aO aN aD bv aY rn kd nu tv), (zaI aS cS 901 f1)] := hD
            refine lv_aload_n hx hb dX12_some_30 rfl (lv_at hl 0 rfl) ?_
            have hPc := hP.sub (ws' := [(zo14irriiiiiirriirrrrlriiii m0 th aS aI im (nI a) (nI (p1 + 1)) (nI E) 0 1 aB aT se dn aG aO aN aD bv aY rn kd nu tv), (zaI aS cS 901 f1)]) [0, 1] rfl
            have hDc := hD.sub (ws' := [(zo14irriiiiiirriirrrrlriiii m0 th aS aI im (nI a) (nI (p1 + 1)) (nI E) 0 1 aB aT se dn aG aO aN aD bv aY rn kd nu tv), (zaI aS cS 901 f1)]) [0, 1] (by decide) rfl
            have hKc := hK.sub (tys' := [(cS, .int)]) [0] rfl
            have hFc := va_free (wc := [(zo14irriiiiiirriirrrrlriiii m0 th aS aI im (nI a) (nI (p1 + 1)) (nI E) 0 1 aB aT se dn aG aO aN aD bv aY rn kd nu tv), (zaI aS cS 901 f1)]) hD hS hA [0, 1] rfl
            refine va_callv (va_runV (As := []) (rest := []) ⟨hx, hb, hml, hown, hts⟩ (c_every1 l dC dI sK sV m0 aS aI aB aT aG aO aN aD aY th im (nI a) (nI (p1 + 1)) (nI E) 0 1 se dn rn kd nu tv bv cS f1 a (p1 + 1) E k1 (d + 1) H.size ((hI).mono (by omega) (by omega))) (cwV 0 hts gX12_some_X12_every rfl rfl rfl hd_yX12_every ⟨Nat.le_of_ble_eq_true rfl, Nat.le_of_ble_eq_true rfl⟩) ⟨fun a U g mk q => by obtain ⟨q0, q1, qP, qK, qD, qhE⟩ := q; exact ⟨q0, q1, qP, va_K.moved (u := U) (U := U.calling g mk a) (Vm.Alike.refl U.vm) qK, qD, qhE.same rfl rfl⟩, va_recv hK hP (ci := 14) (q := (RX12, TX12, 23)) (q0 := 0) rfl rfl, fun U hU hW => ⟨rfl, by rw [hU], by rw [hU]; exact hPc, va_K.moved hW.alike hKc, hDc.weaken (fun _ _ _ _ => trivial), hE.call hS hU hW (fun q h => hFc q h)⟩⟩ rfl rfl hl.1 rfl (lv_room (Nat.le_of_ble_eq_true rfl)) dX12_some_31 ⟨Nat.le_of_ble_eq_true rfl, Nat.le_of_ble_eq_true rfl⟩) hS (fun q _ h => hFc q h) hFc (fun u tC H1 locs htC hvm hw_48 hB hz1 hk1 hS => ?_)
            obtain ⟨fS9_49, sp9_50, wg9_51⟩ := u
            try dsimp only at hw_48 hB
            obtain ⟨hP1, hK1, hD1⟩ := hB
            rw [htC] at hP1
            have hK1 := va_K.moved hvm.symm hK1
            obtain ⟨hP, hD⟩ := va_join (wr := []) (w1 := [(zo14irriiiiiirriirrrrlriiii m0 th aS aI im (nI a) sp9_50 (nI E) wg9_51 1 aB aT se dn aG aO aN aD bv aY rn kd nu tv), (zaI aS cS 901 fS9_49)]) hP hD [0, 1] [] rfl rfl (by decide) (by decide) hk1 hFc hP1 hD1
            have hK := (hK.sub (tys' := []) [] rfl).app hK1
            generalize H1 = H at hP hS ⊢
            have hP : va_P (dC, dI) vwCl [(zo14irriiiiiirriirrrrlriiii m0 th aS aI im (nI a) sp9_50 (nI E) wg9_51 1 aB aT se dn aG aO aN aD bv aY rn kd nu tv), (zaI aS cS 901 fS9_49)] H := hP
            have hD : va_D A [(zo14irriiiiiirriirrrrlriiii m0 th aS aI im (nI a) sp9_50 (nI E) wg9_51 1 aB aT se dn aG aO aN aD bv aY rn kd nu tv), (zaI aS cS 901 fS9_49)] := hD
            have hK : va_K (dC, dI) vwCl [(cS, .int)] s := hK
            obtain ⟨p_52, k_53, rfl, h_55, h_56, hF_57, q9⟩ := hw_48
            rcases q9 with rfl | ⟨rfl, h_58, hI_59, h_60⟩
            · skip
              refine lv_aload_n hx hb dX12_some_34 rfl (lv_at hl 0 rfl) ?_
              refine lv_bipush (v := (-3)) hx hb dX12_some_35 (by decide) ?_
              have hPc := hP.sub (ws' := [(zo14irriiiiiirriirrrrlriiii m0 th aS aI im (nI a) (nI p_52) (nI E) 1 1 aB aT se dn aG aO aN aD bv aY rn kd nu tv)]) [0] rfl
              have hKc := hK.sub (tys' := []) [] rfl
              refine va_csv (va_runV (As := [.int (-3)]) (rest := []) ⟨hx, hb, hml, hown, hts⟩ (c_emitsW l dC dI m0 aS aI aB aT aG aO aN aD aY th im (nI a) (nI p_52) (nI E) 1 1 se dn rn kd nu tv bv (-3)) (cwV 1 hts gX12_some_X12_emits rfl rfl rfl hd_yX12_emits ⟨Nat.le_of_ble_eq_true rfl, Nat.le_of_ble_eq_true rfl⟩) ⟨fun a U g mk q => by obtain ⟨q0, qP, qK⟩ := q; exact ⟨q0, qP, va_K.moved (u := U) (U := U.calling g mk a) (Vm.Alike.refl U.vm) qK⟩, va_recv hK hP (ci := 14) (q := (RX12, TX12, 23)) (q0 := 0) rfl rfl, fun U hU hW => ⟨rfl, by rw [hU]; exact hPc, va_K.moved hW.alike hKc⟩⟩ rfl rfl hl.1 rfl (lv_room (Nat.le_of_ble_eq_true rfl)) dX12_some_37 ⟨Nat.le_of_ble_eq_true rfl, Nat.le_of_ble_eq_true rfl⟩).run (fun hw_62 => ?_)
              refine lv_goto (tgt := 4) hx hb dX12_some_40 (by decide) ?_
              exact ih4 (p_52) (k) (1) (fS9_49) (by omega) (by omega) ((hF).tr hF_57) (Or.inl rfl) _ _ (hK.sub [0] rfl) (hP.sub [0, 1] rfl) (hD.sub [0, 1] (by decide) rfl) hS ls (lv_sub hl [0] rfl)
            · skip
              have k5 := hI_59.2.2.2.2.1
              refine lv_aload_n hx hb dX12_some_34 rfl (lv_at hl 0 rfl) ?_
              refine lv_bipush (v := (-3)) hx hb dX12_some_35 (by decide) ?_
              have hPc := hP.sub (ws' := [(zo14irriiiiiirriirrrrlriiii m0 th aS aI im (nI a) (nI p_52) (nI E) 0 1 aB aT se dn aG aO aN aD bv aY rn kd nu tv), (zaI aS cS 901 fS9_49)]) [0, 1] rfl
              have hDc := hD.sub (ws' := [(zo14irriiiiiirriirrrrlriiii m0 th aS aI im (nI a) (nI p_52) (nI E) 0 1 aB aT se dn aG aO aN aD bv aY rn kd nu tv), (zaI aS cS 901 fS9_49)]) [0, 1] (by decide) rfl
              have hKc := hK.sub (tys' := [(cS, .int)]) [0] rfl
              have hFc := va_free (wc := [(zo14irriiiiiirriirrrrlriiii m0 th aS aI im (nI a) (nI p_52) (nI E) 0 1 aB aT se dn aG aO aN aD bv aY rn kd nu tv), (zaI aS cS 901 fS9_49)]) hD hS hA [0, 1] rfl
              refine va_callv (va_runV (As := [.int (-3)]) (rest := []) ⟨hx, hb, hml, hown, hts⟩ (c_emits l dC dI m0 aS aI aB aT aG aO aN aD aY th im (nI a) (nI p_52) (nI E) 0 1 se dn rn kd nu tv bv cS fS9_49 a k_53 (-3) H.size (ga) ((hI_59).2.2.2.1) (by have := (hI_59).2.2.2.2.1; omega)) (cwV 1 hts gX12_some_X12_emits rfl rfl rfl hd_yX12_emits ⟨Nat.le_of_ble_eq_true rfl, Nat.le_of_ble_eq_true rfl⟩) ⟨fun a U g mk q => by obtain ⟨q0, q1, qP, qK, qD⟩ := q; exact ⟨q0, q1, qP, va_K.moved (u := U) (U := U.calling g mk a) (Vm.Alike.refl U.vm) qK, qD⟩, va_recv hK hP (ci := 14) (q := (RX12, TX12, 23)) (q0 := 0) rfl rfl, fun U hU hW => ⟨rfl, by rw [hU], by rw [hU]; exact hPc, va_K.moved hW.alike hKc, hDc.weaken (fun _ _ _ _ => trivial)⟩⟩ rfl rfl hl.1 rfl (lv_room (Nat.le_of_ble_eq_true rfl)) dX12_some_37 ⟨Nat.le_of_ble_eq_true rfl, Nat.le_of_ble_eq_true rfl⟩) hS (fun q _ h => hFc q h) hFc (fun u tC H1 locs htC hvm hw_64 hB hz1 hk1 hS => ?_)
              obtain ⟨fS9_65, rfl⟩ : ∃ z, z = u := ⟨_, rfl⟩
              try dsimp only at hw_64 hB
              obtain ⟨hP1, hK1, hD1⟩ := hB
              rw [htC] at hP1
              have hK1 := va_K.moved hvm.symm hK1
              obtain ⟨hP, hD⟩ := va_join (wr := []) (w1 := [(zo14irriiiiiirriirrrrlriiii m0 th aS aI im (nI a) (nI p_52) (nI E) 0 1 aB aT se dn aG aO aN aD bv aY rn kd nu tv), (zaI aS cS 901 fS9_65)]) hP hD [0, 1] [] rfl rfl (by decide) (by decide) hk1 hFc hP1 hD1
              have hK := (hK.sub (tys' := []) [] rfl).app hK1
              generalize H1 = H at hP hS ⊢
              have hP : va_P (dC, dI) vwCl [(zo14irriiiiiirriirrrrlriiii m0 th aS aI im (nI a) (nI p_52) (nI E) 0 1 aB aT se dn aG aO aN aD bv aY rn kd nu tv), (zaI aS cS 901 fS9_65)] H := hP
              have hD : va_D A [(zo14irriiiiiirriirrrrlriiii m0 th aS aI im (nI a) (nI p_52) (nI E) 0 1 aB aT se dn aG aO aN aD bv aY rn kd nu tv), (zaI aS cS 901 fS9_65)] := hD
              have hK : va_K (dC, dI) vwCl [(cS, .int)] s := hK
              obtain rfl : fS9_65 = emt fS9_49 a k_53 (-3) := by rcases hw_64 with ⟨q, _⟩ | ⟨_, q⟩; exact absurd rfl q; exact q
              have hI_67 : PI (emt fS9_49 a k_53 (-3)) a (k_53 + 1) (((d + 1) + 1) - 1) p_52 E := ((hI_59).mono (by omega) (by omega)).em (by omega) (by omega) (stepd_either (by omega))
              have hF_68 : PF a fS (emt fS9_49 a k_53 (-3)) := ((hF).tr hF_57).tr (PF_emt (k := k_53) (x := (-3)) ga (by have := (hI_59).2.2.2.2.1; omega))
              refine lv_goto (tgt := 4) hx hb dX12_some_40 (by decide) ?_
              exact ih4 (p_52) ((k_53 + 1)) (0) (emt fS9_49 a k_53 (-3)) (by omega) (by omega) (hF_68) (Or.inr ⟨rfl, by omega, hI_67, by omega⟩) _ _ (hK.sub [0] rfl) (hP.sub [0, 1] rfl) (hD.sub [0, 1] (by decide) rfl) hS ls (lv_sub hl [0] rfl)
    exact L4 _ (p_6) (k_7) (0) (fS9_3) (Nat.lt_succ_self _) (by omega) ((PF.rf).tr hF_11) (Or.inr ⟨rfl, by omega, hI_13, by omega⟩) _ _ (hK.sub [0] rfl) (hP.sub [0, 1] rfl) (hD.sub [0, 1] (by decide) rfl) hS ls (lv_sub hl [0] rfl)
end mg12b
section mg12b

theorem kc_factor0_0 : ∀ w ∈ wsX120, w ∈ wsX12_factor := fun w h => List.mem_cons_of_mem _ (gin_wsX120 w h)
theorem kc_factor0_1 : (.fieldLink RX12 65 "MistHeapsModel" "isWrong" "Z" : Cond) ∈ wsX12_factor := kc_of 1147 rfl rfl rfl
theorem kc_factor0_2 : (.fieldLink RX12 89 "MistHeapsModel" "open" "I" : Cond) ∈ wsX12_factor := kc_of 1148 rfl rfl rfl
theorem kc_factor0_3 : (.fieldLink RX12 59 "MistHeapsModel" "spot" "I" : Cond) ∈ wsX12_factor := kc_of 1145 rfl rfl rfl
set_option maxHeartbeats 4000000 in
set_option maxRecDepth 100000 in
theorem c_factor0 (l : Launch) (dC : Nat → ClassId) (dI : Nat → Nat → Nat) (sK sV : Nat → Nat) (m0 aS aI aB aT aG aO aN aD aY : Nat) (th im ac sp en wg op se dn rn kd nu tv : Int32) (bv : Int64) (cS : ClassId) (fS : Nat → Int32) (a p0 E k d : Nat) (sz : Nat) (gI : PI fS a k d p0 E) : Met l yX12_factor wsX12_factor ({ frames := 20, cells := 0, slots := 0, locals := 427 } : Room) (va_Pc [.ref m0] (fun U => U.heap.size = sz ∧ va_P (dC, dI) vwCl [(zo14irriiiiiirriirrrrlriiii m0 th aS aI im (nI a) (nI p0) (nI E) 0 0 aB aT se dn aG aO aN aD bv aY rn kd nu tv), (zaI aS cS 901 fS)] U.heap ∧ va_K (dC, dI) vwCl [(cS, .int)] U ∧ va_D (fun _ => True) [(zo14irriiiiiirriirrrrlriiii m0 th aS aI im (nI a) (nI p0) (nI E) 0 0 aB aT se dn aG aO aN aD bv aY rn kd nu tv), (zaI aS cS 901 fS)] ∧ Gs sK sV (va_A [(zo14irriiiiiirriirrrrlriiii m0 th aS aI im (nI a) (nI p0) (nI E) 0 0 aB aT se dn aG aO aN aD bv aY rn kd nu tv), (zaI aS cS 901 fS)] sz) U)) (va_Qv (fun (u : (Nat → Int32) × (Int32) × (Int32)) => match u with | (fS9, sp9, wg9) => ∃ p9 k9 : Nat, sp9 = nI p9 ∧ p0 ≤ p9 ∧ p9 ≤ E ∧ PF a fS fS9 ∧ (wg9 = 1 ∨ (wg9 = 0 ∧ p0 + 3 ≤ p9 ∧ PI fS9 a k9 (d + 1) p9 E ∧ k9 + p0 ≤ k + p9))) (fun (u : (Nat → Int32) × (Int32) × (Int32)) (t : State) => match u with | (fS9, sp9, wg9) => va_P (dC, dI) vwCl [(zo14irriiiiiirriirrrrlriiii m0 th aS aI im (nI a) sp9 (nI E) wg9 0 aB aT se dn aG aO aN aD bv aY rn kd nu tv), (zaI aS cS 901 fS9)] t.heap ∧ va_K (dC, dI) vwCl [(cS, .int)] t ∧ va_D (va_A [(zo14irriiiiiirriirrrrlriiii m0 th aS aI im (nI a) (nI p0) (nI E) 0 0 aB aT se dn aG aO aN aD bv aY rn kd nu tv), (zaI aS cS 901 fS)] sz) [(zo14irriiiiiirriirrrrlriiii m0 th aS aI im (nI a) sp9 (nI E) wg9 0 aB aT se dn aG aO aN aD bv aY rn kd nu tv), (zaI aS cS 901 fS9)]) (va_A [(zo14irriiiiiirriirrrrlriiii m0 th aS aI im (nI a) (nI p0) (nI E) 0 0 aB aT se dn aG aO aN aD bv aY rn kd nu tv), (zaI aS cS 901 fS)] sz)) 0 0 (va_A [(zo14irriiiiiirriirrrrlriiii m0 th aS aI im (nI a) (nI p0) (nI E) 0 0 aB aT se dn aG aO aN aD bv aY rn kd nu tv), (zaI aS cS 901 fS)] sz) := by
  refine met_ofQ (cc := cX12_factor) (maxL := 5) (ret := none) (by decide) rfl ?_
  intro p e s m args below meth c s₁ Q B hml hv hQ
  obtain ⟨rfl, hsz, hP, hK, hD0, hE⟩ := hv
  have hx := B.exec
  have hb := B.bytes
  have hr := B.returns
  have hts := atoms_spec (ws := wsX12_factor) B.pre
  have hown : s.vm.findClass RX12 = some m.cls := findClass_of_methodNamed B.named
  have hlocks := B.notSynchronized
  subst hsz
  have hD := hD0.self (sz := s.heap.size)
  generalize hAe : va_A [(zo14irriiiiiirriirrrrlriiii m0 th aS aI im (nI a) (nI p0) (nI E) 0 0 aB aT se dn aG aO aN aD bv aY rn kd nu tv), (zaI aS cS 901 fS)] s.heap.size = A at hD hQ hE ⊢
  have hA : ∀ q : Nat, s.heap.size ≤ q → A q := fun q h => by rw [← hAe]; exact Or.inr h
  have hS : va_S A s.heap s.heap [] := va_S.rf
  have hl := lv_entry [.ref m0] (n := 5) (Nat.le_of_ble_eq_true rfl)
  rw [lg_entry_eq]
  generalize (lg_sl [.ref m0] ++ List.replicate (5 - (lg_sl [.ref m0]).length) Slot.unset).toArray = ls at hl ⊢
  generalize hag : ([.ref m0] : List Value).toArray = args at hts hQ ⊢
  have hl : lv_has ls 5 [(0, .ref m0)] := hl
  obtain ⟨H, hH⟩ : ∃ H : Heap, H = s.heap := ⟨_, rfl⟩
  rw [← hH] at hP
  rw [← hH]
  have hS : va_S A s.heap H [] := by rw [hH]; exact hS
  obtain ⟨locs, hlo⟩ : ∃ L : List Loc, L = [] := ⟨_, rfl⟩
  rw [← hlo] at hS
  rw [← hlo]
  clear hH hlo
  obtain ⟨ga, gp, gE, zk, gkp, gd, gs⟩ := id gI
  refine lv_aload_n hx hb dX12_factor_0 rfl (lv_at hl 0 rfl) ?_
  refine va_get (D := (dC, dI)) (ci := 14) (v := .int 0) (C := RX12) (T := TX12) (N := 23) hx hb hts kc_factor0_0 hown hK hP 0 rfl rfl 7 (by decide) (hts (.fieldLink RX12 65 "MistHeapsModel" "isWrong" "Z") kc_factor0_1) (fun _ h9 => h9) rfl dX12_factor_1 ?_
  refine lv_if_eq (tgt := 8) hx hb dX12_factor_4 (by decide) (fun _ => ?_) (fun c_1 => absurd c_1 (by decide))
  refine lv_aload_n hx hb dX12_factor_8 rfl (lv_at hl 0 rfl) ?_
  have hPc := hP.sub (ws' := [(zo14irriiiiiirriirrrrlriiii m0 th aS aI im (nI a) (nI p0) (nI E) 0 0 aB aT se dn aG aO aN aD bv aY rn kd nu tv), (zaI aS cS 901 fS)]) [0, 1] rfl
  have hKc := hK.sub (tys' := [(cS, .int)]) [0] rfl
  refine vp_callSi (va_runV (As := []) (rest := []) ⟨hx, hb, hml, hown, hts⟩ (c_here l dC dI m0 aS aI aB aT aG aO aN aD aY th im (nI a) (nI p0) (nI E) 0 0 se dn rn kd nu tv bv cS fS a p0 E (by omega) (by omega) (by omega)) (cwV 0 hts gX12_factor_X12_here rfl rfl rfl hd_yX12_here ⟨Nat.le_of_ble_eq_true rfl, Nat.le_of_ble_eq_true rfl⟩) ⟨fun a U g mk q => by obtain ⟨q0, qP, qK⟩ := q; exact ⟨q0, qP, va_K.moved (u := U) (U := U.calling g mk a) (Vm.Alike.refl U.vm) qK⟩, va_recv hK hP (ci := 14) (q := (RX12, TX12, 23)) (q0 := 0) rfl rfl, fun U hU hW => ⟨rfl, by rw [hU]; exact hPc, va_K.moved hW.alike hKc⟩⟩ rfl rfl hl.1 rfl (lv_room (Nat.le_of_ble_eq_true rfl)) dX12_factor_9 ⟨Nat.le_of_ble_eq_true rfl, Nat.le_of_ble_eq_true rfl⟩).run (fun r_2 hw_3 => ?_)
  refine lv_istore_n (lv' := [(1, .int r_2), (0, .ref m0)]) hx hb dX12_factor_12 rfl hl (by decide) rfl (fun ls hl => ?_)
  refine lv_iload_n hx hb dX12_factor_13 rfl (lv_at hl 0 rfl) ?_
  refine lv_bipush (v := 33) hx hb dX12_factor_14 (by decide) ?_
  refine lv_icmp_eq (tgt := 25) hx hb dX12_factor_16 (by decide) (fun c_4 => ?_) (fun c_4 => ?_)
  · skip
    subst c_4
    have hlt : p0 < E := hv_lt (f := fS) (by rw [← hw_3]; decide)
    refine lv_aload_n hx hb dX12_factor_25 rfl (lv_at hl 1 rfl) ?_
    refine lv_aload_n hx hb dX12_factor_26 rfl (lv_at hl 1 rfl) ?_
    refine va_get (D := (dC, dI)) (ci := 14) (v := .int 0) (C := RX12) (T := TX12) (N := 23) hx hb hts kc_factor0_0 hown hK hP 0 rfl rfl 8 (by decide) (hts (.fieldLink RX12 89 "MistHeapsModel" "open" "I") kc_factor0_2) (fun _ h9 => h9) rfl dX12_factor_27 ?_
    refine lv_iconst (v := 5) hx hb dX12_factor_30 (by decide) ?_
    refine lv_icmp_ne (tgt := 38) hx hb dX12_factor_31 (by decide) (fun _ => ?_) (fun c_5 => absurd c_5 (by decide))
    refine lv_iconst (v := 0) hx hb dX12_factor_38 (by decide) ?_
    refine va_put (D := (dC, dI)) (ci := 14) (v := .int 0) (ty := .boolean) (C := RX12) (T := TX12) (N := 23) hx hb hts kc_factor0_0 tyX12 tyX12_ok nmX12 hown hK hP hD hS 0 rfl rfl 7 (by decide) (hts (.fieldLink RX12 65 "MistHeapsModel" "isWrong" "Z") kc_factor0_1) (fun _ h9 => h9) rfl (by decide +kernel) rfl rfl (Nat.le_of_ble_eq_true rfl) dX12_factor_39 (fun H locs hP hD hS => ?_)
    have hP : va_P (dC, dI) vwCl [(zo14irriiiiiirriirrrrlriiii m0 th aS aI im (nI a) (nI p0) (nI E) 0 0 aB aT se dn aG aO aN aD bv aY rn kd nu tv), (zaI aS cS 901 fS)] H := hP
    have hD : va_D A [(zo14irriiiiiirriirrrrlriiii m0 th aS aI im (nI a) (nI p0) (nI E) 0 0 aB aT se dn aG aO aN aD bv aY rn kd nu tv), (zaI aS cS 901 fS)] := hD
    refine lv_aload_n hx hb dX12_factor_42 rfl (lv_at hl 1 rfl) ?_
    refine lv_dup hx hb dX12_factor_43 rfl ?_
    refine va_get (D := (dC, dI)) (ci := 14) (v := .int 0) (C := RX12) (T := TX12) (N := 23) hx hb hts kc_factor0_0 hown hK hP 0 rfl rfl 8 (by decide) (hts (.fieldLink RX12 89 "MistHeapsModel" "open" "I") kc_factor0_2) (fun _ h9 => h9) rfl dX12_factor_44 ?_
    refine lv_iconst (v := 1) hx hb dX12_factor_47 (by decide) ?_
    refine lv_iadd hx hb dX12_factor_48 ?_
    refine qi_as (y := 1) (by decide) ?_
    refine va_put (D := (dC, dI)) (ci := 14) (v := .int 1) (ty := .int) (C := RX12) (T := TX12) (N := 23) hx hb hts kc_factor0_0 tyX12 tyX12_ok nmX12 hown hK hP hD hS 0 rfl rfl 8 (by decide) (hts (.fieldLink RX12 89 "MistHeapsModel" "open" "I") kc_factor0_2) (fun _ h9 => h9) rfl (by decide +kernel) rfl rfl (Nat.le_of_ble_eq_true rfl) dX12_factor_49 (fun H locs hP hD hS => ?_)
    have hP : va_P (dC, dI) vwCl [(zo14irriiiiiirriirrrrlriiii m0 th aS aI im (nI a) (nI p0) (nI E) 0 1 aB aT se dn aG aO aN aD bv aY rn kd nu tv), (zaI aS cS 901 fS)] H := hP
    have hD : va_D A [(zo14irriiiiiirriirrrrlriiii m0 th aS aI im (nI a) (nI p0) (nI E) 0 1 aB aT se dn aG aO aN aD bv aY rn kd nu tv), (zaI aS cS 901 fS)] := hD
    refine lv_aload_n hx hb dX12_factor_52 rfl (lv_at hl 1 rfl) ?_
    refine lv_dup hx hb dX12_factor_53 rfl ?_
    refine va_get (D := (dC, dI)) (ci := 14) (v := .int (nI p0)) (C := RX12) (T := TX12) (N := 23) hx hb hts kc_factor0_0 hown hK hP 0 rfl rfl 5 (by decide) (hts (.fieldLink RX12 59 "MistHeapsModel" "spot" "I") kc_factor0_3) (fun _ h9 => h9) rfl dX12_factor_54 ?_
    refine lv_aload_n hx hb dX12_factor_57 rfl (lv_at hl 1 rfl) ?_
    refine va_get (D := (dC, dI)) (ci := 14) (v := .int 0) (C := RX12) (T := TX12) (N := 23) hx hb hts kc_factor0_0 hown hK hP 0 rfl rfl 7 (by decide) (hts (.fieldLink RX12 65 "MistHeapsModel" "isWrong" "Z") kc_factor0_1) (fun _ h9 => h9) rfl dX12_factor_58 ?_
    refine lv_if_eq (tgt := 68) hx hb dX12_factor_61 (by decide) (fun _ => ?_) (fun c_6 => absurd c_6 (by decide))
    refine lv_iconst (v := 1) hx hb dX12_factor_68 (by decide) ?_
    refine lv_iadd hx hb dX12_factor_69 ?_
    refine qi_as (y := nI (p0 + 1)) (nI_add p0 1) ?_
    refine va_put (D := (dC, dI)) (ci := 14) (v := .int (nI (p0 + 1))) (ty := .int) (C := RX12) (T := TX12) (N := 23) hx hb hts kc_factor0_0 tyX12 tyX12_ok nmX12 hown hK hP hD hS 0 rfl rfl 5 (by decide) (hts (.fieldLink RX12 59 "MistHeapsModel" "spot" "I") kc_factor0_3) (fun _ h9 => h9) rfl (by decide +kernel) rfl rfl (Nat.le_of_ble_eq_true rfl) dX12_factor_70 (fun H locs hP hD hS => ?_)
    have hP : va_P (dC, dI) vwCl [(zo14irriiiiiirriirrrrlriiii m0 th aS aI im (nI a) (nI (p0 + 1)) (nI E) 0 1 aB aT se dn aG aO aN aD bv aY rn kd nu tv), (zaI aS cS 901 fS)] H := hP
    have hD : va_D A [(zo14irriiiiiirriirrrrlriiii m0 th aS aI im (nI a) (nI (p0 + 1)) (nI E) 0 1 aB aT se dn aG aO aN aD bv aY rn kd nu tv), (zaI aS cS 901 fS)] := hD
    refine lv_iload_n hx hb dX12_factor_73 rfl (lv_at hl 0 rfl) ?_
    refine lv_bipush (v := 33) hx hb dX12_factor_74 (by decide) ?_
    refine lv_icmp_ne (tgt := 91) hx hb dX12_factor_76 (by decide) (fun c_7 => absurd c_7 (by decide)) (fun _ => ?_)
    refine lv_aload_n hx hb dX12_factor_79 rfl (lv_at hl 1 rfl) ?_
    have hPc := hP.sub (ws' := [(zo14irriiiiiirriirrrrlriiii m0 th aS aI im (nI a) (nI (p0 + 1)) (nI E) 0 1 aB aT se dn aG aO aN aD bv aY rn kd nu tv), (zaI aS cS 901 fS)]) [0, 1] rfl
    have hDc := hD.sub (ws' := [(zo14irriiiiiirriirrrrlriiii m0 th aS aI im (nI a) (nI (p0 + 1)) (nI E) 0 1 aB aT se dn aG aO aN aD bv aY rn kd nu tv), (zaI aS cS 901 fS)]) [0, 1] (by decide) rfl
    have hKc := hK.sub (tys' := [(cS, .int)]) [0] rfl
    have hFc := va_free (wc := [(zo14irriiiiiirriirrrrlriiii m0 th aS aI im (nI a) (nI (p0 + 1)) (nI E) 0 1 aB aT se dn aG aO aN aD bv aY rn kd nu tv), (zaI aS cS 901 fS)]) hD hS hA [0, 1] rfl
    refine va_callv (va_runV (As := []) (rest := []) ⟨hx, hb, hml, hown, hts⟩ (c_factor1 l dC dI sK sV m0 aS aI aB aT aG aO aN aD aY th im (nI a) (nI (p0 + 1)) (nI E) 0 1 se dn rn kd nu tv bv cS fS a (p0 + 1) E k d H.size ((gI).mono (by omega) (by omega))) (cwV 0 hts gX12_factor_X12_factor rfl rfl rfl hd_yX12_factor ⟨Nat.le_of_ble_eq_true rfl, Nat.le_of_ble_eq_true rfl⟩) ⟨fun a U g mk q => by obtain ⟨q0, q1, qP, qK, qD, qhE⟩ := q; exact ⟨q0, q1, qP, va_K.moved (u := U) (U := U.calling g mk a) (Vm.Alike.refl U.vm) qK, qD, qhE.same rfl rfl⟩, va_recv hK hP (ci := 14) (q := (RX12, TX12, 23)) (q0 := 0) rfl rfl, fun U hU hW => ⟨rfl, by rw [hU], by rw [hU]; exact hPc, va_K.moved hW.alike hKc, hDc.weaken (fun _ _ _ _ => trivial), hE.call hS hU hW (fun q h => hFc q h)⟩⟩ rfl rfl hl.1 rfl (lv_room (Nat.le_of_ble_eq_true rfl)) dX12_factor_80 ⟨Nat.le_of_ble_eq_true rfl, Nat.le_of_ble_eq_true rfl⟩) hS (fun q _ h => hFc q h) hFc (fun u tC H1 locs htC hvm hw_9 hB hz1 hk1 hS => ?_)
    obtain ⟨fS9_10, sp9_11, wg9_12⟩ := u
    try dsimp only at hw_9 hB
    obtain ⟨hP1, hK1, hD1⟩ := hB
    rw [htC] at hP1
    have hK1 := va_K.moved hvm.symm hK1
    obtain ⟨hP, hD⟩ := va_join (wr := []) (w1 := [(zo14irriiiiiirriirrrrlriiii m0 th aS aI im (nI a) sp9_11 (nI E) wg9_12 1 aB aT se dn aG aO aN aD bv aY rn kd nu tv), (zaI aS cS 901 fS9_10)]) hP hD [0, 1] [] rfl rfl (by decide) (by decide) hk1 hFc hP1 hD1
    have hK := (hK.sub (tys' := []) [] rfl).app hK1
    generalize H1 = H at hP hS ⊢
    have hP : va_P (dC, dI) vwCl [(zo14irriiiiiirriirrrrlriiii m0 th aS aI im (nI a) sp9_11 (nI E) wg9_12 1 aB aT se dn aG aO aN aD bv aY rn kd nu tv), (zaI aS cS 901 fS9_10)] H := hP
    have hD : va_D A [(zo14irriiiiiirriirrrrlriiii m0 th aS aI im (nI a) sp9_11 (nI E) wg9_12 1 aB aT se dn aG aO aN aD bv aY rn kd nu tv), (zaI aS cS 901 fS9_10)] := hD
    have hK : va_K (dC, dI) vwCl [(cS, .int)] s := hK
    obtain ⟨p_13, k_14, rfl, h_16, h_17, hF_18, q9⟩ := hw_9
    rcases q9 with rfl | ⟨rfl, h_19, hI_20, h_21⟩
    · skip
      refine lv_aload_n hx hb dX12_factor_83 rfl (lv_at hl 1 rfl) ?_
      refine lv_iconst (v := (-1)) hx hb dX12_factor_84 (by decide) ?_
      have hPc := hP.sub (ws' := [(zo14irriiiiiirriirrrrlriiii m0 th aS aI im (nI a) (nI p_13) (nI E) 1 1 aB aT se dn aG aO aN aD bv aY rn kd nu tv)]) [0] rfl
      have hKc := hK.sub (tys' := []) [] rfl
      refine va_csv (va_runV (As := [.int (-1)]) (rest := []) ⟨hx, hb, hml, hown, hts⟩ (c_emitsW l dC dI m0 aS aI aB aT aG aO aN aD aY th im (nI a) (nI p_13) (nI E) 1 1 se dn rn kd nu tv bv (-1)) (cwV 1 hts gX12_factor_X12_emits rfl rfl rfl hd_yX12_emits ⟨Nat.le_of_ble_eq_true rfl, Nat.le_of_ble_eq_true rfl⟩) ⟨fun a U g mk q => by obtain ⟨q0, qP, qK⟩ := q; exact ⟨q0, qP, va_K.moved (u := U) (U := U.calling g mk a) (Vm.Alike.refl U.vm) qK⟩, va_recv hK hP (ci := 14) (q := (RX12, TX12, 23)) (q0 := 0) rfl rfl, fun U hU hW => ⟨rfl, by rw [hU]; exact hPc, va_K.moved hW.alike hKc⟩⟩ rfl rfl hl.1 rfl (lv_room (Nat.le_of_ble_eq_true rfl)) dX12_factor_85 ⟨Nat.le_of_ble_eq_true rfl, Nat.le_of_ble_eq_true rfl⟩).run (fun hw_23 => ?_)
      refine lv_goto (tgt := 101) hx hb dX12_factor_88 (by decide) ?_
      refine lv_aload_n hx hb dX12_factor_101 rfl (lv_at hl 1 rfl) ?_
      refine lv_dup hx hb dX12_factor_102 rfl ?_
      refine va_get (D := (dC, dI)) (ci := 14) (v := .int 1) (C := RX12) (T := TX12) (N := 23) hx hb hts kc_factor0_0 hown hK hP 0 rfl rfl 8 (by decide) (hts (.fieldLink RX12 89 "MistHeapsModel" "open" "I") kc_factor0_2) (fun _ h9 => h9) rfl dX12_factor_103 ?_
      refine lv_iconst (v := 1) hx hb dX12_factor_106 (by decide) ?_
      refine lv_isub hx hb dX12_factor_107 ?_
      refine qi_as (y := 0) (by decide) ?_
      refine va_put (D := (dC, dI)) (ci := 14) (v := .int 0) (ty := .int) (C := RX12) (T := TX12) (N := 23) hx hb hts kc_factor0_0 tyX12 tyX12_ok nmX12 hown hK hP hD hS 0 rfl rfl 8 (by decide) (hts (.fieldLink RX12 89 "MistHeapsModel" "open" "I") kc_factor0_2) (fun _ h9 => h9) rfl (by decide +kernel) rfl rfl (Nat.le_of_ble_eq_true rfl) dX12_factor_108 (fun H locs hP hD hS => ?_)
      have hP : va_P (dC, dI) vwCl [(zo14irriiiiiirriirrrrlriiii m0 th aS aI im (nI a) (nI p_13) (nI E) 1 0 aB aT se dn aG aO aN aD bv aY rn kd nu tv), (zaI aS cS 901 fS9_10)] H := hP
      have hD : va_D A [(zo14irriiiiiirriirrrrlriiii m0 th aS aI im (nI a) (nI p_13) (nI E) 1 0 aB aT se dn aG aO aN aD bv aY rn kd nu tv), (zaI aS cS 901 fS9_10)] := hD
      rw [hQ]
      have hP9 := hP.sub (ws' := [(zo14irriiiiiirriirrrrlriiii m0 th aS aI im (nI a) (nI p_13) (nI E) 1 0 aB aT se dn aG aO aN aD bv aY rn kd nu tv), (zaI aS cS 901 fS9_10)]) [0, 1] rfl
      have hD9 := hD.sub (ws' := [(zo14irriiiiiirriirrrrlriiii m0 th aS aI im (nI a) (nI p_13) (nI E) 1 0 aB aT se dn aG aO aN aD bv aY rn kd nu tv), (zaI aS cS 901 fS9_10)]) [0, 1] (by decide) rfl
      have hK9 := hK.sub (tys' := [(cS, .int)]) [0] rfl
      exact W.vret hx hb hr (fun tQ htQ hWQ => ⟨⟨(fS9_10, (nI p_13), 1), rfl, ⟨p_13, k, rfl, by omega, by omega, (PF.rf).tr hF_18, Or.inl rfl⟩, by rw [htQ]; exact hP9, va_K.moved hWQ.alike hK9, hD9⟩, hS.F htQ⟩) hS.2.2 dX12_factor_111
    · skip
      have k5 := hI_20.2.2.2.2.1
      refine lv_aload_n hx hb dX12_factor_83 rfl (lv_at hl 1 rfl) ?_
      refine lv_iconst (v := (-1)) hx hb dX12_factor_84 (by decide) ?_
      have hPc := hP.sub (ws' := [(zo14irriiiiiirriirrrrlriiii m0 th aS aI im (nI a) (nI p_13) (nI E) 0 1 aB aT se dn aG aO aN aD bv aY rn kd nu tv), (zaI aS cS 901 fS9_10)]) [0, 1] rfl
      have hDc := hD.sub (ws' := [(zo14irriiiiiirriirrrrlriiii m0 th aS aI im (nI a) (nI p_13) (nI E) 0 1 aB aT se dn aG aO aN aD bv aY rn kd nu tv), (zaI aS cS 901 fS9_10)]) [0, 1] (by decide) rfl
      have hKc := hK.sub (tys' := [(cS, .int)]) [0] rfl
      have hFc := va_free (wc := [(zo14irriiiiiirriirrrrlriiii m0 th aS aI im (nI a) (nI p_13) (nI E) 0 1 aB aT se dn aG aO aN aD bv aY rn kd nu tv), (zaI aS cS 901 fS9_10)]) hD hS hA [0, 1] rfl
      refine va_callv (va_runV (As := [.int (-1)]) (rest := []) ⟨hx, hb, hml, hown, hts⟩ (c_emits l dC dI m0 aS aI aB aT aG aO aN aD aY th im (nI a) (nI p_13) (nI E) 0 1 se dn rn kd nu tv bv cS fS9_10 a k_14 (-1) H.size (ga) ((hI_20).2.2.2.1) (by have := (hI_20).2.2.2.2.1; omega)) (cwV 1 hts gX12_factor_X12_emits rfl rfl rfl hd_yX12_emits ⟨Nat.le_of_ble_eq_true rfl, Nat.le_of_ble_eq_true rfl⟩) ⟨fun a U g mk q => by obtain ⟨q0, q1, qP, qK, qD⟩ := q; exact ⟨q0, q1, qP, va_K.moved (u := U) (U := U.calling g mk a) (Vm.Alike.refl U.vm) qK, qD⟩, va_recv hK hP (ci := 14) (q := (RX12, TX12, 23)) (q0 := 0) rfl rfl, fun U hU hW => ⟨rfl, by rw [hU], by rw [hU]; exact hPc, va_K.moved hW.alike hKc, hDc.weaken (fun _ _ _ _ => trivial)⟩⟩ rfl rfl hl.1 rfl (lv_room (Nat.le_of_ble_eq_true rfl)) dX12_factor_85 ⟨Nat.le_of_ble_eq_true rfl, Nat.le_of_ble_eq_true rfl⟩) hS (fun q _ h => hFc q h) hFc (fun u tC H1 locs htC hvm hw_25 hB hz1 hk1 hS => ?_)
      obtain ⟨fS9_26, rfl⟩ : ∃ z, z = u := ⟨_, rfl⟩
      try dsimp only at hw_25 hB
      obtain ⟨hP1, hK1, hD1⟩ := hB
      rw [htC] at hP1
      have hK1 := va_K.moved hvm.symm hK1
      obtain ⟨hP, hD⟩ := va_join (wr := []) (w1 := [(zo14irriiiiiirriirrrrlriiii m0 th aS aI im (nI a) (nI p_13) (nI E) 0 1 aB aT se dn aG aO aN aD bv aY rn kd nu tv), (zaI aS cS 901 fS9_26)]) hP hD [0, 1] [] rfl rfl (by decide) (by decide) hk1 hFc hP1 hD1
      have hK := (hK.sub (tys' := []) [] rfl).app hK1
      generalize H1 = H at hP hS ⊢
      have hP : va_P (dC, dI) vwCl [(zo14irriiiiiirriirrrrlriiii m0 th aS aI im (nI a) (nI p_13) (nI E) 0 1 aB aT se dn aG aO aN aD bv aY rn kd nu tv), (zaI aS cS 901 fS9_26)] H := hP
      have hD : va_D A [(zo14irriiiiiirriirrrrlriiii m0 th aS aI im (nI a) (nI p_13) (nI E) 0 1 aB aT se dn aG aO aN aD bv aY rn kd nu tv), (zaI aS cS 901 fS9_26)] := hD
      have hK : va_K (dC, dI) vwCl [(cS, .int)] s := hK
      obtain rfl : fS9_26 = emt fS9_10 a k_14 (-1) := by rcases hw_25 with ⟨q, _⟩ | ⟨_, q⟩; exact absurd rfl q; exact q
      have hI_28 : PI (emt fS9_10 a k_14 (-1)) a (k_14 + 1) (d + 1) p_13 E := ((hI_20).mono (by omega) (by omega)).em (by omega) (by omega) (stepd_not (by omega))
      have hF_29 : PF a fS (emt fS9_10 a k_14 (-1)) := ((PF.rf).tr hF_18).tr (PF_emt (k := k_14) (x := (-1)) ga (by have := (hI_20).2.2.2.2.1; omega))
      refine lv_goto (tgt := 101) hx hb dX12_factor_88 (by decide) ?_
      refine lv_aload_n hx hb dX12_factor_101 rfl (lv_at hl 1 rfl) ?_
      refine lv_dup hx hb dX12_factor_102 rfl ?_
      refine va_get (D := (dC, dI)) (ci := 14) (v := .int 1) (C := RX12) (T := TX12) (N := 23) hx hb hts kc_factor0_0 hown hK hP 0 rfl rfl 8 (by decide) (hts (.fieldLink RX12 89 "MistHeapsModel" "open" "I") kc_factor0_2) (fun _ h9 => h9) rfl dX12_factor_103 ?_
      refine lv_iconst (v := 1) hx hb dX12_factor_106 (by decide) ?_
      refine lv_isub hx hb dX12_factor_107 ?_
      refine qi_as (y := 0) (by decide) ?_
      refine va_put (D := (dC, dI)) (ci := 14) (v := .int 0) (ty := .int) (C := RX12) (T := TX12) (N := 23) hx hb hts kc_factor0_0 tyX12 tyX12_ok nmX12 hown hK hP hD hS 0 rfl rfl 8 (by decide) (hts (.fieldLink RX12 89 "MistHeapsModel" "open" "I") kc_factor0_2) (fun _ h9 => h9) rfl (by decide +kernel) rfl rfl (Nat.le_of_ble_eq_true rfl) dX12_factor_108 (fun H locs hP hD hS => ?_)
      have hP : va_P (dC, dI) vwCl [(zo14irriiiiiirriirrrrlriiii m0 th aS aI im (nI a) (nI p_13) (nI E) 0 0 aB aT se dn aG aO aN aD bv aY rn kd nu tv), (zaI aS cS 901 (emt fS9_10 a k_14 (-1)))] H := hP
      have hD : va_D A [(zo14irriiiiiirriirrrrlriiii m0 th aS aI im (nI a) (nI p_13) (nI E) 0 0 aB aT se dn aG aO aN aD bv aY rn kd nu tv), (zaI aS cS 901 (emt fS9_10 a k_14 (-1)))] := hD
      rw [hQ]
      have hP9 := hP.sub (ws' := [(zo14irriiiiiirriirrrrlriiii m0 th aS aI im (nI a) (nI p_13) (nI E) 0 0 aB aT se dn aG aO aN aD bv aY rn kd nu tv), (zaI aS cS 901 (emt fS9_10 a k_14 (-1)))]) [0, 1] rfl
      have hD9 := hD.sub (ws' := [(zo14irriiiiiirriirrrrlriiii m0 th aS aI im (nI a) (nI p_13) (nI E) 0 0 aB aT se dn aG aO aN aD bv aY rn kd nu tv), (zaI aS cS 901 (emt fS9_10 a k_14 (-1)))]) [0, 1] (by decide) rfl
      have hK9 := hK.sub (tys' := [(cS, .int)]) [0] rfl
      exact W.vret hx hb hr (fun tQ htQ hWQ => ⟨⟨((emt fS9_10 a k_14 (-1)), (nI p_13), 0), rfl, ⟨p_13, (k_14 + 1), rfl, by omega, by omega, hF_29, Or.inr ⟨rfl, by omega, (hI_28).mono (by omega) (by omega), by omega⟩⟩, by rw [htQ]; exact hP9, va_K.moved hWQ.alike hK9, hD9⟩, hS.F htQ⟩) hS.2.2 dX12_factor_111
  · skip
    refine lv_iload_n hx hb dX12_factor_19 rfl (lv_at hl 0 rfl) ?_
    refine lv_bipush (v := 40) hx hb dX12_factor_20 (by decide) ?_
    refine lv_icmp_ne (tgt := 112) hx hb dX12_factor_22 (by decide) (fun c_30 => ?_) (fun c_30 => ?_)
    · skip
      refine lv_aload_n hx hb dX12_factor_112 rfl (lv_at hl 1 rfl) ?_
      refine va_ldcS hx hb hown (show vk_R RX12 101 "hkrcms" (sK 6) s from hE.1 6 (by decide)) dX12_factor_113 ?_
      have hPc := hP.sub (ws' := [(zo14irriiiiiirriirrrrlriiii m0 th aS aI im (nI a) (nI p0) (nI E) 0 0 aB aT se dn aG aO aN aD bv aY rn kd nu tv), (zaI aS cS 901 fS)]) [0, 1] rfl
      have hDc := hD.sub (ws' := [(zo14irriiiiiirriirrrrlriiii m0 th aS aI im (nI a) (nI p0) (nI E) 0 0 aB aT se dn aG aO aN aD bv aY rn kd nu tv), (zaI aS cS 901 fS)]) [0, 1] (by decide) rfl
      have hKc := hK.sub (tys' := [(cS, .int)]) [0] rfl
      have hFc := va_free (wc := [(zo14irriiiiiirriirrrrlriiii m0 th aS aI im (nI a) (nI p0) (nI E) 0 0 aB aT se dn aG aO aN aD bv aY rn kd nu tv), (zaI aS cS 901 fS)]) hD hS hA [0, 1] rfl
      refine va_calli (va_runV (As := [.ref (sK 6)]) (rest := []) ⟨hx, hb, hml, hown, hts⟩ (c_among l dC dI sK sV m0 aS aI aB aT aG aO aN aD aY th im (nI a) (nI p0) (nI E) 0 0 se dn rn kd nu tv bv cS fS a p0 E 6 H.size (by omega) (by omega) (by omega) (by decide)) (cwV 1 hts gX12_factor_X12_among rfl rfl rfl hd_yX12_among ⟨Nat.le_of_ble_eq_true rfl, Nat.le_of_ble_eq_true rfl⟩) ⟨fun a U g mk q => by obtain ⟨q0, q1, qP, qK, qD, qhE⟩ := q; exact ⟨q0, q1, qP, va_K.moved (u := U) (U := U.calling g mk a) (Vm.Alike.refl U.vm) qK, qD, qhE.same rfl rfl⟩, va_recv hK hP (ci := 14) (q := (RX12, TX12, 23)) (q0 := 0) rfl rfl, fun U hU hW => ⟨rfl, by rw [hU], by rw [hU]; exact hPc, va_K.moved hW.alike hKc, hDc.weaken (fun _ _ _ _ => trivial), hE.call hS hU hW (fun q h => hFc q h)⟩⟩ rfl rfl hl.1 rfl (lv_room (Nat.le_of_ble_eq_true rfl)) dX12_factor_115 ⟨Nat.le_of_ble_eq_true rfl, Nat.le_of_ble_eq_true rfl⟩) hS (fun q _ h => hFc q h) hFc (fun r_31 u tC H1 locs htC hvm hw_32 hB hz1 hk1 hS => ?_)
      obtain ⟨sp9_33, rfl⟩ : ∃ z, z = u := ⟨_, rfl⟩
      try dsimp only at hw_32 hB
      obtain ⟨hP1, hK1, hD1⟩ := hB
      rw [htC] at hP1
      have hK1 := va_K.moved hvm.symm hK1
      obtain ⟨hP, hD⟩ := va_join (wr := []) (w1 := [(zo14irriiiiiirriirrrrlriiii m0 th aS aI im (nI a) sp9_33 (nI E) 0 0 aB aT se dn aG aO aN aD bv aY rn kd nu tv), (zaI aS cS 901 fS)]) hP hD [0, 1] [] rfl rfl (by decide) (by decide) hk1 hFc hP1 hD1
      have hK := (hK.sub (tys' := []) [] rfl).app hK1
      generalize H1 = H at hP hS ⊢
      have hP : va_P (dC, dI) vwCl [(zo14irriiiiiirriirrrrlriiii m0 th aS aI im (nI a) sp9_33 (nI E) 0 0 aB aT se dn aG aO aN aD bv aY rn kd nu tv), (zaI aS cS 901 fS)] H := hP
      have hD : va_D A [(zo14irriiiiiirriirrrrlriiii m0 th aS aI im (nI a) sp9_33 (nI E) 0 0 aB aT se dn aG aO aN aD bv aY rn kd nu tv), (zaI aS cS 901 fS)] := hD
      have hK : va_K (dC, dI) vwCl [(cS, .int)] s := hK
      rcases hw_32 with ⟨rfl, rfl⟩ | ⟨j_34, hj_35, rfl, h_36, rfl⟩
      · skip
        refine lv_istore_n (lv' := [(2, .int (-1)), (1, .int r_2), (0, .ref m0)]) hx hb dX12_factor_118 rfl hl (by decide) rfl (fun ls hl => ?_)
        refine lv_aload_n hx hb dX12_factor_119 rfl (lv_at hl 2 rfl) ?_
        refine lv_iload_n hx hb dX12_factor_120 rfl (lv_at hl 0 rfl) ?_
        refine lv_iconst (v := (-1)) hx hb dX12_factor_121 (by decide) ?_
        refine lv_icmp_ne (tgt := 129) hx hb dX12_factor_122 (by decide) (fun c_37 => absurd c_37 (by decide)) (fun _ => ?_)
        refine lv_iconst (v := 1) hx hb dX12_factor_125 (by decide) ?_
        refine lv_goto (tgt := 130) hx hb dX12_factor_126 (by decide) ?_
        refine va_put (D := (dC, dI)) (ci := 14) (v := .int 1) (ty := .boolean) (C := RX12) (T := TX12) (N := 23) hx hb hts kc_factor0_0 tyX12 tyX12_ok nmX12 hown hK hP hD hS 0 rfl rfl 7 (by decide) (hts (.fieldLink RX12 65 "MistHeapsModel" "isWrong" "Z") kc_factor0_1) (fun _ h9 => h9) rfl (by decide +kernel) rfl rfl (Nat.le_of_ble_eq_true rfl) dX12_factor_130 (fun H locs hP hD hS => ?_)
        have hP : va_P (dC, dI) vwCl [(zo14irriiiiiirriirrrrlriiii m0 th aS aI im (nI a) (nI p0) (nI E) 1 0 aB aT se dn aG aO aN aD bv aY rn kd nu tv), (zaI aS cS 901 fS)] H := hP
        have hD : va_D A [(zo14irriiiiiirriirrrrlriiii m0 th aS aI im (nI a) (nI p0) (nI E) 1 0 aB aT se dn aG aO aN aD bv aY rn kd nu tv), (zaI aS cS 901 fS)] := hD
        refine lv_aload_n hx hb dX12_factor_133 rfl (lv_at hl 2 rfl) ?_
        refine va_get (D := (dC, dI)) (ci := 14) (v := .int 1) (C := RX12) (T := TX12) (N := 23) hx hb hts kc_factor0_0 hown hK hP 0 rfl rfl 7 (by decide) (hts (.fieldLink RX12 65 "MistHeapsModel" "isWrong" "Z") kc_factor0_1) (fun _ h9 => h9) rfl dX12_factor_134 ?_
        refine lv_if_eq (tgt := 144) hx hb dX12_factor_137 (by decide) (fun c_38 => absurd c_38 (by decide)) (fun _ => ?_)
        refine lv_iconst (v := 0) hx hb dX12_factor_140 (by decide) ?_
        refine lv_goto (tgt := 150) hx hb dX12_factor_141 (by decide) ?_
        refine lv_istore_n (lv' := [(3, .int 0), (2, .int (-1)), (1, .int r_2), (0, .ref m0)]) hx hb dX12_factor_150 rfl hl (by decide) rfl (fun ls hl => ?_)
        refine lv_aload_n hx hb dX12_factor_151 rfl (lv_at hl 3 rfl) ?_
        refine lv_aload_n hx hb dX12_factor_152 rfl (lv_at hl 3 rfl) ?_
        refine va_get (D := (dC, dI)) (ci := 14) (v := .int 1) (C := RX12) (T := TX12) (N := 23) hx hb hts kc_factor0_0 hown hK hP 0 rfl rfl 7 (by decide) (hts (.fieldLink RX12 65 "MistHeapsModel" "isWrong" "Z") kc_factor0_1) (fun _ h9 => h9) rfl dX12_factor_153 ?_
        refine lv_if_ne (tgt := 164) hx hb dX12_factor_156 (by decide) (fun _ => ?_) (fun c_39 => absurd c_39 (by decide))
        refine lv_iconst (v := 1) hx hb dX12_factor_164 (by decide) ?_
        refine lv_goto (tgt := 169) hx hb dX12_factor_165 (by decide) ?_
        refine va_put (D := (dC, dI)) (ci := 14) (v := .int 1) (ty := .boolean) (C := RX12) (T := TX12) (N := 23) hx hb hts kc_factor0_0 tyX12 tyX12_ok nmX12 hown hK hP hD hS 0 rfl rfl 7 (by decide) (hts (.fieldLink RX12 65 "MistHeapsModel" "isWrong" "Z") kc_factor0_1) (fun _ h9 => h9) rfl (by decide +kernel) rfl rfl (Nat.le_of_ble_eq_true rfl) dX12_factor_169 (fun H locs hP hD hS => ?_)
        have hP : va_P (dC, dI) vwCl [(zo14irriiiiiirriirrrrlriiii m0 th aS aI im (nI a) (nI p0) (nI E) 1 0 aB aT se dn aG aO aN aD bv aY rn kd nu tv), (zaI aS cS 901 fS)] H := hP
        have hD : va_D A [(zo14irriiiiiirriirrrrlriiii m0 th aS aI im (nI a) (nI p0) (nI E) 1 0 aB aT se dn aG aO aN aD bv aY rn kd nu tv), (zaI aS cS 901 fS)] := hD
        refine lv_aload_n hx hb dX12_factor_172 rfl (lv_at hl 3 rfl) ?_
        have hPc := hP.sub (ws' := [(zo14irriiiiiirriirrrrlriiii m0 th aS aI im (nI a) (nI p0) (nI E) 1 0 aB aT se dn aG aO aN aD bv aY rn kd nu tv), (zaI aS cS 901 fS)]) [0, 1] rfl
        have hDc := hD.sub (ws' := [(zo14irriiiiiirriirrrrlriiii m0 th aS aI im (nI a) (nI p0) (nI E) 1 0 aB aT se dn aG aO aN aD bv aY rn kd nu tv), (zaI aS cS 901 fS)]) [0, 1] (by decide) rfl
        have hKc := hK.sub (tys' := [(cS, .int)]) [0] rfl
        have hFc := va_free (wc := [(zo14irriiiiiirriirrrrlriiii m0 th aS aI im (nI a) (nI p0) (nI E) 1 0 aB aT se dn aG aO aN aD bv aY rn kd nu tv), (zaI aS cS 901 fS)]) hD hS hA [0, 1] rfl
        refine va_calli (va_runV (As := []) (rest := []) ⟨hx, hb, hml, hown, hts⟩ (c_figures l dC dI m0 aS aI aB aT aG aO aN aD aY th im (nI a) (nI p0) (nI E) 1 0 se dn rn kd nu tv bv cS fS a p0 E H.size (by omega) (by omega) (by omega) (Or.inr rfl)) (cwV 0 hts gX12_factor_X12_figures rfl rfl rfl hd_yX12_figures ⟨Nat.le_of_ble_eq_true rfl, Nat.le_of_ble_eq_true rfl⟩) ⟨fun a U g mk q => by obtain ⟨q0, q1, qP, qK, qD⟩ := q; exact ⟨q0, q1, qP, va_K.moved (u := U) (U := U.calling g mk a) (Vm.Alike.refl U.vm) qK, qD⟩, va_recv hK hP (ci := 14) (q := (RX12, TX12, 23)) (q0 := 0) rfl rfl, fun U hU hW => ⟨rfl, by rw [hU], by rw [hU]; exact hPc, va_K.moved hW.alike hKc, hDc.weaken (fun _ _ _ _ => trivial)⟩⟩ rfl rfl hl.1 rfl (lv_room (Nat.le_of_ble_eq_true rfl)) dX12_factor_173 ⟨Nat.le_of_ble_eq_true rfl, Nat.le_of_ble_eq_true rfl⟩) hS (fun q _ h => hFc q h) hFc (fun r_40 u tC H1 locs htC hvm hw_41 hB hz1 hk1 hS => ?_)
        obtain ⟨sp9_42, wg9_43⟩ := u
        try dsimp only at hw_41 hB
        obtain ⟨hP1, hK1, hD1⟩ := hB
        rw [htC] at hP1
        have hK1 := va_K.moved hvm.symm hK1
        obtain ⟨hP, hD⟩ := va_join (wr := []) (w1 := [(zo14irriiiiiirriirrrrlriiii m0 th aS aI im (nI a) sp9_42 (nI E) wg9_43 0 aB aT se dn aG aO aN aD bv aY rn kd nu tv), (zaI aS cS 901 fS)]) hP hD [0, 1] [] rfl rfl (by decide) (by decide) hk1 hFc hP1 hD1
        have hK := (hK.sub (tys' := []) [] rfl).app hK1
        generalize H1 = H at hP hS ⊢
        have hP : va_P (dC, dI) vwCl [(zo14irriiiiiirriirrrrlriiii m0 th aS aI im (nI a) sp9_42 (nI E) wg9_43 0 aB aT se dn aG aO aN aD bv aY rn kd nu tv), (zaI aS cS 901 fS)] H := hP
        have hD : va_D A [(zo14irriiiiiirriirrrrlriiii m0 th aS aI im (nI a) sp9_42 (nI E) wg9_43 0 aB aT se dn aG aO aN aD bv aY rn kd nu tv), (zaI aS cS 901 fS)] := hD
        have hK : va_K (dC, dI) vwCl [(cS, .int)] s := hK
        obtain ⟨p_44, v_45, h_46, h_47, rfl, rfl, h_48, h_49, h_50⟩ := hw_41
        rcases h_49 with rfl | rfl
        · skip
          exact absurd (h_50 rfl).1 (by decide)
        · skip
          refine lv_istore (lv' := [(4, .int (nI v_45)), (3, .int 0), (2, .int (-1)), (1, .int r_2), (0, .ref m0)]) hx hb dX12_factor_176 hl (by decide) rfl (fun ls hl => ?_)
          refine lv_aload_n hx hb dX12_factor_178 rfl (lv_at hl 4 rfl) ?_
          refine lv_iload_n hx hb dX12_factor_179 rfl (lv_at hl 2 rfl) ?_
          refine lv_bipush (v := 8) hx hb dX12_factor_180 (by decide) ?_
          refine lv_iload_n hx hb dX12_factor_182 rfl (lv_at hl 1 rfl) ?_
          refine lv_imul hx hb dX12_factor_183 ?_
          refine qi_as (y := 0) (by decide) ?_
          refine lv_iadd hx hb dX12_factor_184 ?_
          refine qi_as (y := (-1)) (by decide) ?_
          refine lv_bipush (v := 32) hx hb dX12_factor_185 (by decide) ?_
          refine lv_iload hx hb dX12_factor_187 (lv_at hl 0 rfl) ?_
          refine lv_imul hx hb dX12_factor_189 ?_
          refine qi_as (y := nI (32 * v_45)) (pk_mul 32 v_45) ?_
          refine lv_iadd hx hb dX12_factor_190 ?_
          have hPc := hP.sub (ws' := [(zo14irriiiiiirriirrrrlriiii m0 th aS aI im (nI a) (nI p_44) (nI E) 1 0 aB aT se dn aG aO aN aD bv aY rn kd nu tv)]) [0] rfl
          have hKc := hK.sub (tys' := []) [] rfl
          refine va_csv (va_runV (As := [.int ((-1) + (nI (32 * v_45)))]) (rest := []) ⟨hx, hb, hml, hown, hts⟩ (c_emitsW l dC dI m0 aS aI aB aT aG aO aN aD aY th im (nI a) (nI p_44) (nI E) 1 0 se dn rn kd nu tv bv ((-1) + (nI (32 * v_45)))) (cwV 1 hts gX12_factor_X12_emits rfl rfl rfl hd_yX12_emits ⟨Nat.le_of_ble_eq_true rfl, Nat.le_of_ble_eq_true rfl⟩) ⟨fun a U g mk q => by obtain ⟨q0, qP, qK⟩ := q; exact ⟨q0, qP, va_K.moved (u := U) (U := U.calling g mk a) (Vm.Alike.refl U.vm) qK⟩, va_recv hK hP (ci := 14) (q := (RX12, TX12, 23)) (q0 := 0) rfl rfl, fun U hU hW => ⟨rfl, by rw [hU]; exact hPc, va_K.moved hW.alike hKc⟩⟩ rfl rfl hl.1 rfl (lv_room (Nat.le_of_ble_eq_true rfl)) dX12_factor_191 ⟨Nat.le_of_ble_eq_true rfl, Nat.le_of_ble_eq_true rfl⟩).run (fun hw_52 => ?_)
          rw [hQ]
          have hP9 := hP.sub (ws' := [(zo14irriiiiiirriirrrrlriiii m0 th aS aI im (nI a) (nI p_44) (nI E) 1 0 aB aT se dn aG aO aN aD bv aY rn kd nu tv), (zaI aS cS 901 fS)]) [0, 1] rfl
          have hD9 := hD.sub (ws' := [(zo14irriiiiiirriirrrrlriiii m0 th aS aI im (nI a) (nI p_44) (nI E) 1 0 aB aT se dn aG aO aN aD bv aY rn kd nu tv), (zaI aS cS 901 fS)]) [0, 1] (by decide) rfl
          have hK9 := hK.sub (tys' := [(cS, .int)]) [0] rfl
          exact W.vret hx hb hr (fun tQ htQ hWQ => ⟨⟨(fS, (nI p_44), 1), rfl, ⟨p_44, k, rfl, by omega, by omega, PF.rf, Or.inl rfl⟩, by rw [htQ]; exact hP9, va_K.moved hWQ.alike hK9, hD9⟩, hS.F htQ⟩) hS.2.2 dX12_factor_194
      · skip
        have hj_35 : j_34 < 6 := hj_35
        refine lv_istore_n (lv' := [(2, .int (nI j_34)), (1, .int r_2), (0, .ref m0)]) hx hb dX12_factor_118 rfl hl (by decide) rfl (fun ls hl => ?_)
        refine lv_aload_n hx hb dX12_factor_119 rfl (lv_at hl 2 rfl) ?_
        refine lv_iload_n hx hb dX12_factor_120 rfl (lv_at hl 0 rfl) ?_
        refine lv_iconst (v := (-1)) hx hb dX12_factor_121 (by decide) ?_
        refine lv_icmp_ne (tgt := 129) hx hb dX12_factor_122 (by decide) (fun c_53 => ?_) (fun c_53 => ?_)
        · skip
          refine lv_iconst (v := 0) hx hb dX12_factor_129 (by decide) ?_
          refine va_put (D := (dC, dI)) (ci := 14) (v := .int 0) (ty := .boolean) (C := RX12) (T := TX12) (N := 23) hx hb hts kc_factor0_0 tyX12 tyX12_ok nmX12 hown hK hP hD hS 0 rfl rfl 7 (by decide) (hts (.fieldLink RX12 65 "MistHeapsModel" "isWrong" "Z") kc_factor0_1) (fun _ h9 => h9) rfl (by decide +kernel) rfl rfl (Nat.le_of_ble_eq_true rfl) dX12_factor_130 (fun H locs hP hD hS => ?_)
          have hP : va_P (dC, dI) vwCl [(zo14irriiiiiirriirrrrlriiii m0 th aS aI im (nI a) (nI (p0 + 1)) (nI E) 0 0 aB aT se dn aG aO aN aD bv aY rn kd nu tv), (zaI aS cS 901 fS)] H := hP
          have hD : va_D A [(zo14irriiiiiirriirrrrlriiii m0 th aS aI im (nI a) (nI (p0 + 1)) (nI E) 0 0 aB aT se dn aG aO aN aD bv aY rn kd nu tv), (zaI aS cS 901 fS)] := hD
          refine lv_aload_n hx hb dX12_factor_133 rfl (lv_at hl 2 rfl) ?_
          refine va_get (D := (dC, dI)) (ci := 14) (v := .int 0) (C := RX12) (T := TX12) (N := 23) hx hb hts kc_factor0_0 hown hK hP 0 rfl rfl 7 (by decide) (hts (.fieldLink RX12 65 "MistHeapsModel" "isWrong" "Z") kc_factor0_1) (fun _ h9 => h9) rfl dX12_factor_134 ?_
          refine lv_if_eq (tgt := 144) hx hb dX12_factor_137 (by decide) (fun _ => ?_) (fun c_54 => absurd c_54 (by decide))
          refine lv_aload_n hx hb dX12_factor_144 rfl (lv_at hl 2 rfl) ?_
          refine va_ldcS hx hb hown (show vk_R RX12 107 "<=>" (sK 7) s from hE.1 7 (by decide)) dX12_factor_145 ?_
          have hPc := hP.sub (ws' := [(zo14irriiiiiirriirrrrlriiii m0 th aS aI im (nI a) (nI (p0 + 1)) (nI E) 0 0 aB aT se dn aG aO aN aD bv aY rn kd nu tv), (zaI aS cS 901 fS)]) [0, 1] rfl
          have hDc := hD.sub (ws' := [(zo14irriiiiiirriirrrrlriiii m0 th aS aI im (nI a) (nI (p0 + 1)) (nI E) 0 0 aB aT se dn aG aO aN aD bv aY rn kd nu tv), (zaI aS cS 901 fS)]) [0, 1] (by decide) rfl
          have hKc := hK.sub (tys' := [(cS, .int)]) [0] rfl
          have hFc := va_free (wc := [(zo14irriiiiiirriirrrrlriiii m0 th aS aI im (nI a) (nI (p0 + 1)) (nI E) 0 0 aB aT se dn aG aO aN aD bv aY rn kd nu tv), (zaI aS cS 901 fS)]) hD hS hA [0, 1] rfl
          refine va_calli (va_runV (As := [.ref (sK 7)]) (rest := []) ⟨hx, hb, hml, hown, hts⟩ (c_among l dC dI sK sV m0 aS aI aB aT aG aO aN aD aY th im (nI a) (nI (p0 + 1)) (nI E) 0 0 se dn rn kd nu tv bv cS fS a (p0 + 1) E 7 H.size (by omega) (by omega) (by omega) (by decide)) (cwV 1 hts gX12_factor_X12_among rfl rfl rfl hd_yX12_among ⟨Nat.le_of_ble_eq_true rfl, Nat.le_of_ble_eq_true rfl⟩) ⟨fun a U g mk q => by obtain ⟨q0, q1, qP, qK, qD, qhE⟩ := q; exact ⟨q0, q1, qP, va_K.moved (u := U) (U := U.calling g mk a) (Vm.Alike.refl U.vm) qK, qD, qhE.same rfl rfl⟩, va_recv hK hP (ci := 14) (q := (RX12, TX12, 23)) (q0 := 0) rfl rfl, fun U hU hW => ⟨rfl, by rw [hU], by rw [hU]; exact hPc, va_K.moved hW.alike hKc, hDc.weaken (fun _ _ _ _ => trivial), hE.call hS hU hW (fun q h => hFc q h)⟩⟩ rfl rfl hl.1 rfl (lv_room (Nat.le_of_ble_eq_true rfl)) dX12_factor_147 ⟨Nat.le_of_ble_eq_true rfl, Nat.le_of_ble_eq_true rfl⟩) hS (fun q _ h => hFc q h) hFc (fun r_55 u tC H1 locs htC hvm hw_56 hB hz1 hk1 hS => ?_)
          obtain ⟨sp9_57, rfl⟩ : ∃ z, z = u := ⟨_, rfl⟩
          try dsimp only at hw_56 hB
          obtain ⟨hP1, hK1, hD1⟩ := hB
          rw [htC] at hP1
          have hK1 := va_K.moved hvm.symm hK1
          obtain ⟨hP, hD⟩ := va_join (wr := []) (w1 := [(zo14irriiiiiirriirrrrlriiii m0 th aS aI im (nI a) sp9_57 (nI E) 0 0 aB aT se dn aG aO aN aD bv aY rn kd nu tv), (zaI aS cS 901 fS)]) hP hD [0, 1] [] rfl rfl (by decide) (by decide) hk1 hFc hP1 hD1
          have hK := (hK.sub (tys' := []) [] rfl).app hK1
          generalize H1 = H at hP hS ⊢
          have hP : va_P (dC, dI) vwCl [(zo14irriiiiiirriirrrrlriiii m0 th aS aI im (nI a) sp9_57 (nI E) 0 0 aB aT se dn aG aO aN aD bv aY rn kd nu tv), (zaI aS cS 901 fS)] H := hP
          have hD : va_D A [(zo14irriiiiiirriirrrrlriiii m0 th aS aI im (nI a) sp9_57 (nI E) 0 0 aB aT se dn aG aO aN aD bv aY rn kd nu tv), (zaI aS cS 901 fS)] := hD
          have hK : va_K (dC, dI) vwCl [(cS, .int)] s := hK
          rcases hw_56 with ⟨rfl, rfl⟩ | ⟨j_58, hj_59, rfl, h_60, rfl⟩
          · skip
            refine lv_istore_n (lv' := [(3, .int (-1)), (2, .int (nI j_34)), (1, .int r_2), (0, .ref m0)]) hx hb dX12_factor_150 rfl hl (by decide) rfl (fun ls hl => ?_)
            refine lv_aload_n hx hb dX12_factor_151 rfl (lv_at hl 3 rfl) ?_
            refine lv_aload_n hx hb dX12_factor_152 rfl (lv_at hl 3 rfl) ?_
            refine va_get (D := (dC, dI)) (ci := 14) (v := .int 0) (C := RX12) (T := TX12) (N := 23) hx hb hts kc_factor0_0 hown hK hP 0 rfl rfl 7 (by decide) (hts (.fieldLink RX12 65 "MistHeapsModel" "isWrong" "Z") kc_factor0_1) (fun _ h9 => h9) rfl dX12_factor_153 ?_
            refine lv_if_ne (tgt := 164) hx hb dX12_factor_156 (by decide) (fun c_61 => absurd c_61 (by decide)) (fun _ => ?_)
            refine lv_iload_n hx hb dX12_factor_159 rfl (lv_at hl 0 rfl) ?_
            refine lv_iconst (v := (-1)) hx hb dX12_factor_160 (by decide) ?_
            refine lv_icmp_ne (tgt := 168) hx hb dX12_factor_161 (by decide) (fun c_62 => absurd c_62 (by decide)) (fun _ => ?_)
            refine lv_iconst (v := 1) hx hb dX12_factor_164 (by decide) ?_
            refine lv_goto (tgt := 169) hx hb dX12_factor_165 (by decide) ?_
            refine va_put (D := (dC, dI)) (ci := 14) (v := .int 1) (ty := .boolean) (C := RX12) (T := TX12) (N := 23) hx hb hts kc_factor0_0 tyX12 tyX12_ok nmX12 hown hK hP hD hS 0 rfl rfl 7 (by decide) (hts (.fieldLink RX12 65 "MistHeapsModel" "isWrong" "Z") kc_factor0_1) (fun _ h9 => h9) rfl (by decide +kernel) rfl rfl (Nat.le_of_ble_eq_true rfl) dX12_factor_169 (fun H locs hP hD hS => ?_)
            have hP : va_P (dC, dI) vwCl [(zo14irriiiiiirriirrrrlriiii m0 th aS aI im (nI a) (nI (p0 + 1)) (nI E) 1 0 aB aT se dn aG aO aN aD bv aY rn kd nu tv), (zaI aS cS 901 fS)] H := hP
            have hD : va_D A [(zo14irriiiiiirriirrrrlriiii m0 th aS aI im (nI a) (nI (p0 + 1)) (nI E) 1 0 aB aT se dn aG aO aN aD bv aY rn kd nu tv), (zaI aS cS 901 fS)] := hD
            refine lv_aload_n hx hb dX12_factor_172 rfl (lv_at hl 3 rfl) ?_
            have hPc := hP.sub (ws' := [(zo14irriiiiiirriirrrrlriiii m0 th aS aI im (nI a) (nI (p0 + 1)) (nI E) 1 0 aB aT se dn aG aO aN aD bv aY rn kd nu tv), (zaI aS cS 901 fS)]) [0, 1] rfl
            have hDc := hD.sub (ws' := [(zo14irriiiiiirriirrrrlriiii m0 th aS aI im (nI a) (nI (p0 + 1)) (nI E) 1 0 aB aT se dn aG aO aN aD bv aY rn kd nu tv), (zaI aS cS 901 fS)]) [0, 1] (by decide) rfl
            have hKc := hK.sub (tys' := [(cS, .int)]) [0] rfl
            have hFc := va_free (wc := [(zo14irriiiiiirriirrrrlriiii m0 th aS aI im (nI a) (nI (p0 + 1)) (nI E) 1 0 aB aT se dn aG aO aN aD bv aY rn kd nu tv), (zaI aS cS 901 fS)]) hD hS hA [0, 1] rfl
            refine va_calli (va_runV (As := []) (rest := []) ⟨hx, hb, hml, hown, hts⟩ (c_figures l dC dI m0 aS aI aB aT aG aO aN aD aY th im (nI a) (nI (p0 + 1)) (nI E) 1 0 se dn rn kd nu tv bv cS fS a (p0 + 1) E H.size (by omega) (by omega) (by omega) (Or.inr rfl)) (cwV 0 hts gX12_factor_X12_figures rfl rfl rfl hd_yX12_figures ⟨Nat.le_of_ble_eq_true rfl, Nat.le_of_ble_eq_true rfl⟩) ⟨fun a U g mk q => by obtain ⟨q0, q1, qP, qK, qD⟩ := q; exact ⟨q0, q1, qP, va_K.moved (u := U) (U := U.calling g mk a) (Vm.Alike.refl U.vm) qK, qD⟩, va_recv hK hP (ci := 14) (q := (RX12, TX12, 23)) (q0 := 0) rfl rfl, fun U hU hW => ⟨rfl, by rw [hU], by rw [hU]; exact hPc, va_K.moved hW.alike hKc, hDc.weaken (fun _ _ _ _ => trivial)⟩⟩ rfl rfl hl.1 rfl (lv_room (Nat.le_of_ble_eq_true rfl)) dX12_factor_173 ⟨Nat.le_of_ble_eq_true rfl, Nat.le_of_ble_eq_true rfl⟩) hS (fun q _ h => hFc q h) hFc (fun r_63 u tC H1 locs htC hvm hw_64 hB hz1 hk1 hS => ?_)
            obtain ⟨sp9_65, wg9_66⟩ := u
            try dsimp only at hw_64 hB
            obtain ⟨hP1, hK1, hD1⟩ := hB
            rw [htC] at hP1
            have hK1 := va_K.moved hvm.symm hK1
            obtain ⟨hP, hD⟩ := va_join (wr := []) (w1 := [(zo14irriiiiiirriirrrrlriiii m0 th aS aI im (nI a) sp9_65 (nI E) wg9_66 0 aB aT se dn aG aO aN aD bv aY rn kd nu tv), (zaI aS cS 901 fS)]) hP hD [0, 1] [] rfl rfl (by decide) (by decide) hk1 hFc hP1 hD1
            have hK := (hK.sub (tys' := []) [] rfl).app hK1
            generalize H1 = H at hP hS ⊢
            have hP : va_P (dC, dI) vwCl [(zo14irriiiiiirriirrrrlriiii m0 th aS aI im (nI a) sp9_65 (nI E) wg9_66 0 aB aT se dn aG aO aN aD bv aY rn kd nu tv), (zaI aS cS 901 fS)] H := hP
            have hD : va_D A [(zo14irriiiiiirriirrrrlriiii m0 th aS aI im (nI a) sp9_65 (nI E) wg9_66 0 aB aT se dn aG aO aN aD bv aY rn kd nu tv), (zaI aS cS 901 fS)] := hD
            have hK : va_K (dC, dI) vwCl [(cS, .int)] s := hK
            obtain ⟨p_67, v_68, h_69, h_70, rfl, rfl, h_71, h_72, h_73⟩ := hw_64
            rcases h_72 with rfl | rfl
            · skip
              exact absurd (h_73 rfl).1 (by decide)
            · skip
              refine lv_istore (lv' := [(4, .int (nI v_68)), (3, .int (-1)), (2, .int (nI j_34)), (1, .int r_2), (0, .ref m0)]) hx hb dX12_factor_176 hl (by decide) rfl (fun ls hl => ?_)
              refine lv_aload_n hx hb dX12_factor_178 rfl (lv_at hl 4 rfl) ?_
              refine lv_iload_n hx hb dX12_factor_179 rfl (lv_at hl 2 rfl) ?_
              refine lv_bipush (v := 8) hx hb dX12_factor_180 (by decide) ?_
              refine lv_iload_n hx hb dX12_factor_182 rfl (lv_at hl 1 rfl) ?_
              refine lv_imul hx hb dX12_factor_183 ?_
              refine qi_as (y := (-8)) (by decide) ?_
              refine lv_iadd hx hb dX12_factor_184 ?_
              refine lv_bipush (v := 32) hx hb dX12_factor_185 (by decide) ?_
              refine lv_iload hx hb dX12_factor_187 (lv_at hl 0 rfl) ?_
              refine lv_imul hx hb dX12_factor_189 ?_
              refine qi_as (y := nI (32 * v_68)) (pk_mul 32 v_68) ?_
              refine lv_iadd hx hb dX12_factor_190 ?_
              have hPc := hP.sub (ws' := [(zo14irriiiiiirriirrrrlriiii m0 th aS aI im (nI a) (nI p_67) (nI E) 1 0 aB aT se dn aG aO aN aD bv aY rn kd nu tv)]) [0] rfl
              have hKc := hK.sub (tys' := []) [] rfl
              refine va_csv (va_runV (As := [.int (((nI j_34) + (-8)) + (nI (32 * v_68)))]) (rest := []) ⟨hx, hb, hml, hown, hts⟩ (c_emitsW l dC dI m0 aS aI aB aT aG aO aN aD aY th im (nI a) (nI p_67) (nI E) 1 0 se dn rn kd nu tv bv (((nI j_34) + (-8)) + (nI (32 * v_68)))) (cwV 1 hts gX12_factor_X12_emits rfl rfl rfl hd_yX12_emits ⟨Nat.le_of_ble_eq_true rfl, Nat.le_of_ble_eq_true rfl⟩) ⟨fun a U g mk q => by obtain ⟨q0, qP, qK⟩ := q; exact ⟨q0, qP, va_K.moved (u := U) (U := U.calling g mk a) (Vm.Alike.refl U.vm) qK⟩, va_recv hK hP (ci := 14) (q := (RX12, TX12, 23)) (q0 := 0) rfl rfl, fun U hU hW => ⟨rfl, by rw [hU]; exact hPc, va_K.moved hW.alike hKc⟩⟩ rfl rfl hl.1 rfl (lv_room (Nat.le_of_ble_eq_true rfl)) dX12_factor_191 ⟨Nat.le_of_ble_eq_true rfl, Nat.le_of_ble_eq_true rfl⟩).run (fun hw_75 => ?_)
              rw [hQ]
              have hP9 := hP.sub (ws' := [(zo14irriiiiiirriirrrrlriiii m0 th aS aI im (nI a) (nI p_67) (nI E) 1 0 aB aT se dn aG aO aN aD bv aY rn kd nu tv), (zaI aS cS 901 fS)]) [0, 1] rfl
              have hD9 := hD.sub (ws' := [(zo14irriiiiiirriirrrrlriiii m0 th aS aI im (nI a) (nI p_67) (nI E) 1 0 aB aT se dn aG aO aN aD bv aY rn kd nu tv), (zaI aS cS 901 fS)]) [0, 1] (by decide) rfl
              have hK9 := hK.sub (tys' := [(cS, .int)]) [0] rfl
              exact W.vret hx hb hr (fun tQ htQ hWQ => ⟨⟨(fS, (nI p_67), 1), rfl, ⟨p_67, k, rfl, by omega, by omega, PF.rf, Or.inl rfl⟩, by rw [htQ]; exact hP9, va_K.moved hWQ.alike hK9, hD9⟩, hS.F htQ⟩) hS.2.2 dX12_factor_194
          · skip
            have hj_59 : j_58 < 3 := hj_59
            refine lv_istore_n (lv' := [(3, .int (nI j_58)), (2, .int (nI j_34)), (1, .int r_2), (0, .ref m0)]) hx hb dX12_factor_150 rfl hl (by decide) rfl (fun ls hl => ?_)
            refine lv_aload_n hx hb dX12_factor_151 rfl (lv_at hl 3 rfl) ?_
            refine lv_aload_n hx hb dX12_factor_152 rfl (lv_at hl 3 rfl) ?_
            refine va_get (D := (dC, dI)) (ci := 14) (v := .int 0) (C := RX12) (T := TX12) (N := 23) hx hb hts kc_factor0_0 hown hK hP 0 rfl rfl 7 (by decide) (hts (.fieldLink RX12 65 "MistHeapsModel" "isWrong" "Z") kc_factor0_1) (fun _ h9 => h9) rfl dX12_factor_153 ?_
            refine lv_if_ne (tgt := 164) hx hb dX12_factor_156 (by decide) (fun c_76 => absurd c_76 (by decide)) (fun _ => ?_)
            refine lv_iload_n hx hb dX12_factor_159 rfl (lv_at hl 0 rfl) ?_
            refine lv_iconst (v := (-1)) hx hb dX12_factor_160 (by decide) ?_
            refine lv_icmp_ne (tgt := 168) hx hb dX12_factor_161 (by decide) (fun c_77 => ?_) (fun c_77 => ?_)
            · skip
              refine lv_iconst (v := 0) hx hb dX12_factor_168 (by decide) ?_
              refine va_put (D := (dC, dI)) (ci := 14) (v := .int 0) (ty := .boolean) (C := RX12) (T := TX12) (N := 23) hx hb hts kc_factor0_0 tyX12 tyX12_ok nmX12 hown hK hP hD hS 0 rfl rfl 7 (by decide) (hts (.fieldLink RX12 65 "MistHeapsModel" "isWrong" "Z") kc_factor0_1) (fun _ h9 => h9) rfl (by decide +kernel) rfl rfl (Nat.le_of_ble_eq_true rfl) dX12_factor_169 (fun H locs hP hD hS => ?_)
              have hP : va_P (dC, dI) vwCl [(zo14irriiiiiirriirrrrlriiii m0 th aS aI im (nI a) (nI ((p0 + 1) + 1)) (nI E) 0 0 aB aT se dn aG aO aN aD bv aY rn kd nu tv), (zaI aS cS 901 fS)] H := hP
              have hD : va_D A [(zo14irriiiiiirriirrrrlriiii m0 th aS aI im (nI a) (nI ((p0 + 1) + 1)) (nI E) 0 0 aB aT se dn aG aO aN aD bv aY rn kd nu tv), (zaI aS cS 901 fS)] := hD
              refine lv_aload_n hx hb dX12_factor_172 rfl (lv_at hl 3 rfl) ?_
              have hPc := hP.sub (ws' := [(zo14irriiiiiirriirrrrlriiii m0 th aS aI im (nI a) (nI ((p0 + 1) + 1)) (nI E) 0 0 aB aT se dn aG aO aN aD bv aY rn kd nu tv), (zaI aS cS 901 fS)]) [0, 1] rfl
              have hDc := hD.sub (ws' := [(zo14irriiiiiirriirrrrlriiii m0 th aS aI im (nI a) (nI ((p0 + 1) + 1)) (nI E) 0 0 aB aT se dn aG aO aN aD bv aY rn kd nu tv), (zaI aS cS 901 fS)]) [0, 1] (by decide) rfl
              have hKc := hK.sub (tys' := [(cS, .int)]) [0] rfl
              have hFc := va_free (wc := [(zo14irriiiiiirriirrrrlriiii m0 th aS aI im (nI a) (nI ((p0 + 1) + 1)) (nI E) 0 0 aB aT se dn aG aO aN aD bv aY rn kd nu tv), (zaI aS cS 901 fS)]) hD hS hA [0, 1] rfl
              refine va_calli (va_runV (As := []) (rest := []) ⟨hx, hb, hml, hown, hts⟩ (c_figures l dC dI m0 aS aI aB aT aG aO aN aD aY th im (nI a) (nI ((p0 + 1) + 1)) (nI E) 0 0 se dn rn kd nu tv bv cS fS a ((p0 + 1) + 1) E H.size (by omega) (by omega) (by omega) (Or.inl rfl)) (cwV 0 hts gX12_factor_X12_figures rfl rfl rfl hd_yX12_figures ⟨Nat.le_of_ble_eq_true rfl, Nat.le_of_ble_eq_true rfl⟩) ⟨fun a U g mk q => by obtain ⟨q0, q1, qP, qK, qD⟩ := q; exact ⟨q0, q1, qP, va_K.moved (u := U) (U := U.calling g mk a) (Vm.Alike.refl U.vm) qK, qD⟩, va_recv hK hP (ci := 14) (q := (RX12, TX12, 23)) (q0 := 0) rfl rfl, fun U hU hW => ⟨rfl, by rw [hU], by rw [hU]; exact hPc, va_K.moved hW.alike hKc, hDc.weaken (fun _ _ _ _ => trivial)⟩⟩ rfl rfl hl.1 rfl (lv_room (Nat.le_of_ble_eq_true rfl)) dX12_factor_173 ⟨Nat.le_of_ble_eq_true rfl, Nat.le_of_ble_eq_true rfl⟩) hS (fun q _ h => hFc q h) hFc (fun r_78 u tC H1 locs htC hvm hw_79 hB hz1 hk1 hS => ?_)
              obtain ⟨sp9_80, wg9_81⟩ := u
              try dsimp only at hw_79 hB
              obtain ⟨hP1, hK1, hD1⟩ := hB
              rw [htC] at hP1
              have hK1 := va_K.moved hvm.symm hK1
              obtain ⟨hP, hD⟩ := va_join (wr := []) (w1 := [(zo14irriiiiiirriirrrrlriiii m0 th aS aI im (nI a) sp9_80 (nI E) wg9_81 0 aB aT se dn aG aO aN aD bv aY rn kd nu tv), (zaI aS cS 901 fS)]) hP hD [0, 1] [] rfl rfl (by decide) (by decide) hk1 hFc hP1 hD1
              have hK := (hK.sub (tys' := []) [] rfl).app hK1
              generalize H1 = H at hP hS ⊢
              have hP : va_P (dC, dI) vwCl [(zo14irriiiiiirriirrrrlriiii m0 th aS aI im (nI a) sp9_80 (nI E) wg9_81 0 aB aT se dn aG aO aN aD bv aY rn kd nu tv), (zaI aS cS 901 fS)] H := hP
              have hD : va_D A [(zo14irriiiiiirriirrrrlriiii m0 th aS aI im (nI a) sp9_80 (nI E) wg9_81 0 aB aT se dn aG aO aN aD bv aY rn kd nu tv), (zaI aS cS 901 fS)] := hD
              have hK : va_K (dC, dI) vwCl [(cS, .int)] s := hK
              obtain ⟨p_82, v_83, h_84, h_85, rfl, rfl, h_86, h_87, h_88⟩ := hw_79
              rcases h_87 with rfl | rfl
              · skip
                obtain ⟨h_88, h_88b⟩ := h_88 rfl
                refine lv_istore (lv' := [(4, .int (nI v_83)), (3, .int (nI j_58)), (2, .int (nI j_34)), (1, .int r_2), (0, .ref m0)]) hx hb dX12_factor_176 hl (by decide) rfl (fun ls hl => ?_)
                refine lv_aload_n hx hb dX12_factor_178 rfl (lv_at hl 4 rfl) ?_
                refine lv_iload_n hx hb dX12_factor_179 rfl (lv_at hl 2 rfl) ?_
                refine lv_bipush (v := 8) hx hb dX12_factor_180 (by decide) ?_
                refine lv_iload_n hx hb dX12_factor_182 rfl (lv_at hl 1 rfl) ?_
                refine lv_imul hx hb dX12_factor_183 ?_
                refine qi_as (y := nI (8 * j_58)) (pk_mul 8 j_58) ?_
                refine lv_iadd hx hb dX12_factor_184 ?_
                refine qi_as (y := nI (j_34 + (8 * j_58))) (nI_add j_34 (8 * j_58)) ?_
                refine lv_bipush (v := 32) hx hb dX12_factor_185 (by decide) ?_
                refine lv_iload hx hb dX12_factor_187 (lv_at hl 0 rfl) ?_
                refine lv_imul hx hb dX12_factor_189 ?_
                refine qi_as (y := nI (32 * v_83)) (pk_mul 32 v_83) ?_
                refine lv_iadd hx hb dX12_factor_190 ?_
                refine qi_as (y := nI ((j_34 + (8 * j_58)) + (32 * v_83))) (nI_add (j_34 + (8 * j_58)) (32 * v_83)) ?_
                have hPc := hP.sub (ws' := [(zo14irriiiiiirriirrrrlriiii m0 th aS aI im (nI a) (nI p_82) (nI E) 0 0 aB aT se dn aG aO aN aD bv aY rn kd nu tv), (zaI aS cS 901 fS)]) [0, 1] rfl
                have hDc := hD.sub (ws' := [(zo14irriiiiiirriirrrrlriiii m0 th aS aI im (nI a) (nI p_82) (nI E) 0 0 aB aT se dn aG aO aN aD bv aY rn kd nu tv), (zaI aS cS 901 fS)]) [0, 1] (by decide) rfl
                have hKc := hK.sub (tys' := [(cS, .int)]) [0] rfl
                have hFc := va_free (wc := [(zo14irriiiiiirriirrrrlriiii m0 th aS aI im (nI a) (nI p_82) (nI E) 0 0 aB aT se dn aG aO aN aD bv aY rn kd nu tv), (zaI aS cS 901 fS)]) hD hS hA [0, 1] rfl
                refine va_callv (va_runV (As := [.int (nI ((j_34 + (8 * j_58)) + (32 * v_83)))]) (rest := []) ⟨hx, hb, hml, hown, hts⟩ (c_emits l dC dI m0 aS aI aB aT aG aO aN aD aY th im (nI a) (nI p_82) (nI E) 0 0 se dn rn kd nu tv bv cS fS a k (nI ((j_34 + (8 * j_58)) + (32 * v_83))) H.size (ga) ((gI).2.2.2.1) (by have := (gI).2.2.2.2.1; omega)) (cwV 1 hts gX12_factor_X12_emits rfl rfl rfl hd_yX12_emits ⟨Nat.le_of_ble_eq_true rfl, Nat.le_of_ble_eq_true rfl⟩) ⟨fun a U g mk q => by obtain ⟨q0, q1, qP, qK, qD⟩ := q; exact ⟨q0, q1, qP, va_K.moved (u := U) (U := U.calling g mk a) (Vm.Alike.refl U.vm) qK, qD⟩, va_recv hK hP (ci := 14) (q := (RX12, TX12, 23)) (q0 := 0) rfl rfl, fun U hU hW => ⟨rfl, by rw [hU], by rw [hU]; exact hPc, va_K.moved hW.alike hKc, hDc.weaken (fun _ _ _ _ => trivial)⟩⟩ rfl rfl hl.1 rfl (lv_room (Nat.le_of_ble_eq_true rfl)) dX12_factor_191 ⟨Nat.le_of_ble_eq_true rfl, Nat.le_of_ble_eq_true rfl⟩) hS (fun q _ h => hFc q h) hFc (fun u tC H1 locs htC hvm hw_90 hB hz1 hk1 hS => ?_)
                obtain ⟨fS9_91, rfl⟩ : ∃ z, z = u := ⟨_, rfl⟩
                try dsimp only at hw_90 hB
                obtain ⟨hP1, hK1, hD1⟩ := hB
                rw [htC] at hP1
                have hK1 := va_K.moved hvm.symm hK1
                obtain ⟨hP, hD⟩ := va_join (wr := []) (w1 := [(zo14irriiiiiirriirrrrlriiii m0 th aS aI im (nI a) (nI p_82) (nI E) 0 0 aB aT se dn aG aO aN aD bv aY rn kd nu tv), (zaI aS cS 901 fS9_91)]) hP hD [0, 1] [] rfl rfl (by decide) (by decide) hk1 hFc hP1 hD1
                have hK := (hK.sub (tys' := []) [] rfl).app hK1
                generalize H1 = H at hP hS ⊢
                have hP : va_P (dC, dI) vwCl [(zo14irriiiiiirriirrrrlriiii m0 th aS aI im (nI a) (nI p_82) (nI E) 0 0 aB aT se dn aG aO aN aD bv aY rn kd nu tv), (zaI aS cS 901 fS9_91)] H := hP
                have hD : va_D A [(zo14irriiiiiirriirrrrlriiii m0 th aS aI im (nI a) (nI p_82) (nI E) 0 0 aB aT se dn aG aO aN aD bv aY rn kd nu tv), (zaI aS cS 901 fS9_91)] := hD
                have hK : va_K (dC, dI) vwCl [(cS, .int)] s := hK
                obtain rfl : fS9_91 = emt fS a k (nI ((j_34 + (8 * j_58)) + (32 * v_83))) := by rcases hw_90 with ⟨q, _⟩ | ⟨_, q⟩; exact absurd rfl q; exact q
                have hI_93 : PI (emt fS a k (nI ((j_34 + (8 * j_58)) + (32 * v_83)))) a (k + 1) (d + 1) p_82 E := ((gI).mono (by omega) (by omega)).em (by omega) (by omega) (stepd_test (by omega) (by omega) (by omega) (by omega))
                have hF_94 : PF a fS (emt fS a k (nI ((j_34 + (8 * j_58)) + (32 * v_83)))) := (PF.rf).tr (PF_emt (k := k) (x := nI ((j_34 + (8 * j_58)) + (32 * v_83))) ga (by have := (gI).2.2.2.2.1; omega))
                rw [hQ]
                have hP9 := hP.sub (ws' := [(zo14irriiiiiirriirrrrlriiii m0 th aS aI im (nI a) (nI p_82) (nI E) 0 0 aB aT se dn aG aO aN aD bv aY rn kd nu tv), (zaI aS cS 901 (emt fS a k (nI ((j_34 + (8 * j_58)) + (32 * v_83)))))]) [0, 1] rfl
                have hD9 := hD.sub (ws' := [(zo14irriiiiiirriirrrrlriiii m0 th aS aI im (nI a) (nI p_82) (nI E) 0 0 aB aT se dn aG aO aN aD bv aY rn kd nu tv), (zaI aS cS 901 (emt fS a k (nI ((j_34 + (8 * j_58)) + (32 * v_83)))))]) [0, 1] (by decide) rfl
                have hK9 := hK.sub (tys' := [(cS, .int)]) [0] rfl
                exact W.vret hx hb hr (fun tQ htQ hWQ => ⟨⟨((emt fS a k (nI ((j_34 + (8 * j_58)) + (32 * v_83)))), (nI p_82), 0), rfl, ⟨p_82, (k + 1), rfl, by omega, by omega, hF_94, Or.inr ⟨rfl, by omega, (hI_93).mono (by omega) (by omega), by omega⟩⟩, by rw [htQ]; exact hP9, va_K.moved hWQ.alike hK9, hD9⟩, hS.F htQ⟩) hS.2.2 dX12_factor_194
              · skip
                refine lv_istore (lv' := [(4, .int (nI v_83)), (3, .int (nI j_58)), (2, .int (nI j_34)), (1, .int r_2), (0, .ref m0)]) hx hb dX12_factor_176 hl (by decide) rfl (fun ls hl => ?_)
                refine lv_aload_n hx hb dX12_factor_178 rfl (lv_at hl 4 rfl) ?_
                refine lv_iload_n hx hb dX12_factor_179 rfl (lv_at hl 2 rfl) ?_
                refine lv_bipush (v := 8) hx hb dX12_factor_180 (by decide) ?_
                refine lv_iload_n hx hb dX12_factor_182 rfl (lv_at hl 1 rfl) ?_
                refine lv_imul hx hb dX12_factor_183 ?_
                refine qi_as (y := nI (8 * j_58)) (pk_mul 8 j_58) ?_
                refine lv_iadd hx hb dX12_factor_184 ?_
                refine qi_as (y := nI (j_34 + (8 * j_58))) (nI_add j_34 (8 * j_58)) ?_
                refine lv_bipush (v := 32) hx hb dX12_factor_185 (by decide) ?_
                refine lv_iload hx hb dX12_factor_187 (lv_at hl 0 rfl) ?_
                refine lv_imul hx hb dX12_factor_189 ?_
                refine qi_as (y := nI (32 * v_83)) (pk_mul 32 v_83) ?_
                refine lv_iadd hx hb dX12_factor_190 ?_
                refine qi_as (y := nI ((j_34 + (8 * j_58)) + (32 * v_83))) (nI_add (j_34 + (8 * j_58)) (32 * v_83)) ?_
                have hPc := hP.sub (ws' := [(zo14irriiiiiirriirrrrlriiii m0 th aS aI im (nI a) (nI p_82) (nI E) 1 0 aB aT se dn aG aO aN aD bv aY rn kd nu tv)]) [0] rfl
                have hKc := hK.sub (tys' := []) [] rfl
                refine va_csv (va_runV (As := [.int (nI ((j_34 + (8 * j_58)) + (32 * v_83)))]) (rest := []) ⟨hx, hb, hml, hown, hts⟩ (c_emitsW l dC dI m0 aS aI aB aT aG aO aN aD aY th im (nI a) (nI p_82) (nI E) 1 0 se dn rn kd nu tv bv (nI ((j_34 + (8 * j_58)) + (32 * v_83)))) (cwV 1 hts gX12_factor_X12_emits rfl rfl rfl hd_yX12_emits ⟨Nat.le_of_ble_eq_true rfl, Nat.le_of_ble_eq_true rfl⟩) ⟨fun a U g mk q => by obtain ⟨q0, qP, qK⟩ := q; exact ⟨q0, qP, va_K.moved (u := U) (U := U.calling g mk a) (Vm.Alike.refl U.vm) qK⟩, va_recv hK hP (ci := 14) (q := (RX12, TX12, 23)) (q0 := 0) rfl rfl, fun U hU hW => ⟨rfl, by rw [hU]; exact hPc, va_K.moved hW.alike hKc⟩⟩ rfl rfl hl.1 rfl (lv_room (Nat.le_of_ble_eq_true rfl)) dX12_factor_191 ⟨Nat.le_of_ble_eq_true rfl, Nat.le_of_ble_eq_true rfl⟩).run (fun hw_96 => ?_)
                rw [hQ]
                have hP9 := hP.sub (ws' := [(zo14irriiiiiirriirrrrlriiii m0 th aS aI im (nI a) (nI p_82) (nI E) 1 0 aB aT se dn aG aO aN aD bv aY rn kd nu tv), (zaI aS cS 901 fS)]) [0, 1] rfl
                have hD9 := hD.sub (ws' := [(zo14irriiiiiirriirrrrlriiii m0 th aS aI im (nI a) (nI p_82) (nI E) 1 0 aB aT se dn aG aO aN aD bv aY rn kd nu tv), (zaI aS cS 901 fS)]) [0, 1] (by decide) rfl
                have hK9 := hK.sub (tys' := [(cS, .int)]) [0] rfl
                exact W.vret hx hb hr (fun tQ htQ hWQ => ⟨⟨(fS, (nI p_82), 1), rfl, ⟨p_82, k, rfl, by omega, by omega, PF.rf, Or.inl rfl⟩, by rw [htQ]; exact hP9, va_K.moved hWQ.alike hK9, hD9⟩, hS.F htQ⟩) hS.2.2 dX12_factor_194
            · skip
              refine lv_iconst (v := 1) hx hb dX12_factor_164 (by decide) ?_
              refine lv_goto (tgt := 169) hx hb dX12_factor_165 (by decide) ?_
              refine va_put (D := (dC, dI)) (ci := 14) (v := .int 1) (ty := .boolean) (C := RX12) (T := TX12) (N := 23) hx hb hts kc_factor0_0 tyX12 tyX12_ok nmX12 hown hK hP hD hS 0 rfl rfl 7 (by decide) (hts (.fieldLink RX12 65 "MistHeapsModel" "isWrong" "Z") kc_factor0_1) (fun _ h9 => h9) rfl (by decide +kernel) rfl rfl (Nat.le_of_ble_eq_true rfl) dX12_factor_169 (fun H locs hP hD hS => ?_)
              have hP : va_P (dC, dI) vwCl [(zo14irriiiiiirriirrrrlriiii m0 th aS aI im (nI a) (nI ((p0 + 1) + 1)) (nI E) 1 0 aB aT se dn aG aO aN aD bv aY rn kd nu tv), (zaI aS cS 901 fS)] H := hP
              have hD : va_D A [(zo14irriiiiiirriirrrrlriiii m0 th aS aI im (nI a) (nI ((p0 + 1) + 1)) (nI E) 1 0 aB aT se dn aG aO aN aD bv aY rn kd nu tv), (zaI aS cS 901 fS)] := hD
              refine lv_aload_n hx hb dX12_factor_172 rfl (lv_at hl 3 rfl) ?_
              have hPc := hP.sub (ws' := [(zo14irriiiiiirriirrrrlriiii m0 th aS aI im (nI a) (nI ((p0 + 1) + 1)) (nI E) 1 0 aB aT se dn aG aO aN aD bv aY rn kd nu tv), (zaI aS cS 901 fS)]) [0, 1] rfl
              have hDc := hD.sub (ws' := [(zo14irriiiiiirriirrrrlriiii m0 th aS aI im (nI a) (nI ((p0 + 1) + 1)) (nI E) 1 0 aB aT se dn aG aO aN aD bv aY rn kd nu tv), (zaI aS cS 901 fS)]) [0, 1] (by decide) rfl
              have hKc := hK.sub (tys' := [(cS, .int)]) [0] rfl
              have hFc := va_free (wc := [(zo14irriiiiiirriirrrrlriiii m0 th aS aI im (nI a) (nI ((p0 + 1) + 1)) (nI E) 1 0 aB aT se dn aG aO aN aD bv aY rn kd nu tv), (zaI aS cS 901 fS)]) hD hS hA [0, 1] rfl
              refine va_calli (va_runV (As := []) (rest := []) ⟨hx, hb, hml, hown, hts⟩ (c_figures l dC dI m0 aS aI aB aT aG aO aN aD aY th im (nI a) (nI ((p0 + 1) + 1)) (nI E) 1 0 se dn rn kd nu tv bv cS fS a ((p0 + 1) + 1) E H.size (by omega) (by omega) (by omega) (Or.inr rfl)) (cwV 0 hts gX12_factor_X12_figures rfl rfl rfl hd_yX12_figures ⟨Nat.le_of_ble_eq_true rfl, Nat.le_of_ble_eq_true rfl⟩) ⟨fun a U g mk q => by obtain ⟨q0, q1, qP, qK, qD⟩ := q; exact ⟨q0, q1, qP, va_K.moved (u := U) (U := U.calling g mk a) (Vm.Alike.refl U.vm) qK, qD⟩, va_recv hK hP (ci := 14) (q := (RX12, TX12, 23)) (q0 := 0) rfl rfl, fun U hU hW => ⟨rfl, by rw [hU], by rw [hU]; exact hPc, va_K.moved hW.alike hKc, hDc.weaken (fun _ _ _ _ => trivial)⟩⟩ rfl rfl hl.1 rfl (lv_room (Nat.le_of_ble_eq_true rfl)) dX12_factor_173 ⟨Nat.le_of_ble_eq_true rfl, Nat.le_of_ble_eq_true rfl⟩) hS (fun q _ h => hFc q h) hFc (fun r_97 u tC H1 locs htC hvm hw_98 hB hz1 hk1 hS => ?_)
              obtain ⟨sp9_99, wg9_100⟩ := u
              try dsimp only at hw_98 hB
              obtain ⟨hP1, hK1, hD1⟩ := hB
              rw [htC] at hP1
              have hK1 := va_K.moved hvm.symm hK1
              obtain ⟨hP, hD⟩ := va_join (wr := []) (w1 := [(zo14irriiiiiirriirrrrlriiii m0 th aS aI im (nI a) sp9_99 (nI E) wg9_100 0 aB aT se dn aG aO aN aD bv aY rn kd nu tv), (zaI aS cS 901 fS)]) hP hD [0, 1] [] rfl rfl (by decide) (by decide) hk1 hFc hP1 hD1
              have hK := (hK.sub (tys' := []) [] rfl).app hK1
              generalize H1 = H at hP hS ⊢
              have hP : va_P (dC, dI) vwCl [(zo14irriiiiiirriirrrrlriiii m0 th aS aI im (nI a) sp9_99 (nI E) wg9_100 0 aB aT se dn aG aO aN aD bv aY rn kd nu tv), (zaI aS cS 901 fS)] H := hP
              have hD : va_D A [(zo14irriiiiiirriirrrrlriiii m0 th aS aI im (nI a) sp9_99 (nI E) wg9_100 0 aB aT se dn aG aO aN aD bv aY rn kd nu tv), (zaI aS cS 901 fS)] := hD
              have hK : va_K (dC, dI) vwCl [(cS, .int)] s := hK
              obtain ⟨p_101, v_102, h_103, h_104, rfl, rfl, h_105, h_106, h_107⟩ := hw_98
              rcases h_106 with rfl | rfl
              · skip
                exact absurd (h_107 rfl).1 (by decide)
              · skip
                refine lv_istore (lv' := [(4, .int (nI v_102)), (3, .int (nI j_58)), (2, .int (nI j_34)), (1, .int r_2), (0, .ref m0)]) hx hb dX12_factor_176 hl (by decide) rfl (fun ls hl => ?_)
                refine lv_aload_n hx hb dX12_factor_178 rfl (lv_at hl 4 rfl) ?_
                refine lv_iload_n hx hb dX12_factor_179 rfl (lv_at hl 2 rfl) ?_
                refine lv_bipush (v := 8) hx hb dX12_factor_180 (by decide) ?_
                refine lv_iload_n hx hb dX12_factor_182 rfl (lv_at hl 1 rfl) ?_
                refine lv_imul hx hb dX12_factor_183 ?_
                refine qi_as (y := nI (8 * j_58)) (pk_mul 8 j_58) ?_
                refine lv_iadd hx hb dX12_factor_184 ?_
                refine qi_as (y := nI (j_34 + (8 * j_58))) (nI_add j_34 (8 * j_58)) ?_
                refine lv_bipush (v := 32) hx hb dX12_factor_185 (by decide) ?_
                refine lv_iload hx hb dX12_factor_187 (lv_at hl 0 rfl) ?_
                refine lv_imul hx hb dX12_factor_189 ?_
                refine qi_as (y := nI (32 * v_102)) (pk_mul 32 v_102) ?_
                refine lv_iadd hx hb dX12_factor_190 ?_
                refine qi_as (y := nI ((j_34 + (8 * j_58)) + (32 * v_102))) (nI_add (j_34 + (8 * j_58)) (32 * v_102)) ?_
                have hPc := hP.sub (ws' := [(zo14irriiiiiirriirrrrlriiii m0 th aS aI im (nI a) (nI p_101) (nI E) 1 0 aB aT se dn aG aO aN aD bv aY rn kd nu tv)]) [0] rfl
                have hKc := hK.sub (tys' := []) [] rfl
                refine va_csv (va_runV (As := [.int (nI ((j_34 + (8 * j_58)) + (32 * v_102)))]) (rest := []) ⟨hx, hb, hml, hown, hts⟩ (c_emitsW l dC dI m0 aS aI aB aT aG aO aN aD aY th im (nI a) (nI p_101) (nI E) 1 0 se dn rn kd nu tv bv (nI ((j_34 + (8 * j_58)) + (32 * v_102)))) (cwV 1 hts gX12_factor_X12_emits rfl rfl rfl hd_yX12_emits ⟨Nat.le_of_ble_eq_true rfl, Nat.le_of_ble_eq_true rfl⟩) ⟨fun a U g mk q => by obtain ⟨q0, qP, qK⟩ := q; exact ⟨q0, qP, va_K.moved (u := U) (U := U.calling g mk a) (Vm.Alike.refl U.vm) qK⟩, va_recv hK hP (ci := 14) (q := (RX12, TX12, 23)) (q0 := 0) rfl rfl, fun U hU hW => ⟨rfl, by rw [hU]; exact hPc, va_K.moved hW.alike hKc⟩⟩ rfl rfl hl.1 rfl (lv_room (Nat.le_of_ble_eq_true rfl)) dX12_factor_191 ⟨Nat.le_of_ble_eq_true rfl, Nat.le_of_ble_eq_true rfl⟩).run (fun hw_109 => ?_)
                rw [hQ]
                have hP9 := hP.sub (ws' := [(zo14irriiiiiirriirrrrlriiii m0 th aS aI im (nI a) (nI p_101) (nI E) 1 0 aB aT se dn aG aO aN aD bv aY rn kd nu tv), (zaI aS cS 901 fS)]) [0, 1] rfl
                have hD9 := hD.sub (ws' := [(zo14irriiiiiirriirrrrlriiii m0 th aS aI im (nI a) (nI p_101) (nI E) 1 0 aB aT se dn aG aO aN aD bv aY rn kd nu tv), (zaI aS cS 901 fS)]) [0, 1] (by decide) rfl
                have hK9 := hK.sub (tys' := [(cS, .int)]) [0] rfl
                exact W.vret hx hb hr (fun tQ htQ hWQ => ⟨⟨(fS, (nI p_101), 1), rfl, ⟨p_101, k, rfl, by omega, by omega, PF.rf, Or.inl rfl⟩, by rw [htQ]; exact hP9, va_K.moved hWQ.alike hK9, hD9⟩, hS.F htQ⟩) hS.2.2 dX12_factor_194
        · skip
          refine lv_iconst (v := 1) hx hb dX12_factor_125 (by decide) ?_
          refine lv_goto (tgt := 130) hx hb dX12_factor_126 (by decide) ?_
          refine va_put (D := (dC, dI)) (ci := 14) (v := .int 1) (ty := .boolean) (C := RX12) (T := TX12) (N := 23) hx hb hts kc_factor0_0 tyX12 tyX12_ok nmX12 hown hK hP hD hS 0 rfl rfl 7 (by decide) (hts (.fieldLink RX12 65 "MistHeapsModel" "isWrong" "Z") kc_factor0_1) (fun _ h9 => h9) rfl (by decide +kernel) rfl rfl (Nat.le_of_ble_eq_true rfl) dX12_factor_130 (fun H locs hP hD hS => ?_)
          have hP : va_P (dC, dI) vwCl [(zo14irriiiiiirriirrrrlriiii m0 th aS aI im (nI a) (nI (p0 + 1)) (nI E) 1 0 aB aT se dn aG aO aN aD bv aY rn kd nu tv), (zaI aS cS 901 fS)] H := hP
          have hD : va_D A [(zo14irriiiiiirriirrrrlriiii m0 th aS aI im (nI a) (nI (p0 + 1)) (nI E) 1 0 aB aT se dn aG aO aN aD bv aY rn kd nu tv), (zaI aS cS 901 fS)] := hD
          refine lv_aload_n hx hb dX12_factor_133 rfl (lv_at hl 2 rfl) ?_
          refine va_get (D := (dC, dI)) (ci := 14) (v := .int 1) (C := RX12) (T := TX12) (N := 23) hx hb hts kc_factor0_0 hown hK hP 0 rfl rfl 7 (by decide) (hts (.fieldLink RX12 65 "MistHeapsModel" "isWrong" "Z") kc_factor0_1) (fun _ h9 => h9) rfl dX12_factor_134 ?_
          refine lv_if_eq (tgt := 144) hx hb dX12_factor_137 (by decide) (fun c_110 => absurd c_110 (by decide)) (fun _ => ?_)
          refine lv_iconst (v := 0) hx hb dX12_factor_140 (by decide) ?_
          refine lv_goto (tgt := 150) hx hb dX12_factor_141 (by decide) ?_
          refine lv_istore_n (lv' := [(3, .int 0), (2, .int (nI j_34)), (1, .int r_2), (0, .ref m0)]) hx hb dX12_factor_150 rfl hl (by decide) rfl (fun ls hl => ?_)
          refine lv_aload_n hx hb dX12_factor_151 rfl (lv_at hl 3 rfl) ?_
          refine lv_aload_n hx hb dX12_factor_152 rfl (lv_at hl 3 rfl) ?_
          refine va_get (D := (dC, dI)) (ci := 14) (v := .int 1) (C := RX12) (T := TX12) (N := 23) hx hb hts kc_factor0_0 hown hK hP 0 rfl rfl 7 (by decide) (hts (.fieldLink RX12 65 "MistHeapsModel" "isWrong" "Z") kc_factor0_1) (fun _ h9 => h9) rfl dX12_factor_153 ?_
          refine lv_if_ne (tgt := 164) hx hb dX12_factor_156 (by decide) (fun _ => ?_) (fun c_111 => absurd c_111 (by decide))
          refine lv_iconst (v := 1) hx hb dX12_factor_164 (by decide) ?_
          refine lv_goto (tgt := 169) hx hb dX12_factor_165 (by decide) ?_
          refine va_put (D := (dC, dI)) (ci := 14) (v := .int 1) (ty := .boolean) (C := RX12) (T := TX12) (N := 23) hx hb hts kc_factor0_0 tyX12 tyX12_ok nmX12 hown hK hP hD hS 0 rfl rfl 7 (by decide) (hts (.fieldLink RX12 65 "MistHeapsModel" "isWrong" "Z") kc_factor0_1) (fun _ h9 => h9) rfl (by decide +kernel) rfl rfl (Nat.le_of_ble_eq_true rfl) dX12_factor_169 (fun H locs hP hD hS => ?_)
          have hP : va_P (dC, dI) vwCl [(zo14irriiiiiirriirrrrlriiii m0 th aS aI im (nI a) (nI (p0 + 1)) (nI E) 1 0 aB aT se dn aG aO aN aD bv aY rn kd nu tv), (zaI aS cS 901 fS)] H := hP
          have hD : va_D A [(zo14irriiiiiirriirrrrlriiii m0 th aS aI im (nI a) (nI (p0 + 1)) (nI E) 1 0 aB aT se dn aG aO aN aD bv aY rn kd nu tv), (zaI aS cS 901 fS)] := hD
          refine lv_aload_n hx hb dX12_factor_172 rfl (lv_at hl 3 rfl) ?_
          have hPc := hP.sub (ws' := [(zo14irriiiiiirriirrrrlriiii m0 th aS aI im (nI a) (nI (p0 + 1)) (nI E) 1 0 aB aT se dn aG aO aN aD bv aY rn kd nu tv), (zaI aS cS 901 fS)]) [0, 1] rfl
          have hDc := hD.sub (ws' := [(zo14irriiiiiirriirrrrlriiii m0 th aS aI im (nI a) (nI (p0 + 1)) (nI E) 1 0 aB aT se dn aG aO aN aD bv aY rn kd nu tv), (zaI aS cS 901 fS)]) [0, 1] (by decide) rfl
          have hKc := hK.sub (tys' := [(cS, .int)]) [0] rfl
          have hFc := va_free (wc := [(zo14irriiiiiirriirrrrlriiii m0 th aS aI im (nI a) (nI (p0 + 1)) (nI E) 1 0 aB aT se dn aG aO aN aD bv aY rn kd nu tv), (zaI aS cS 901 fS)]) hD hS hA [0, 1] rfl
          refine va_calli (va_runV (As := []) (rest := []) ⟨hx, hb, hml, hown, hts⟩ (c_figures l dC dI m0 aS aI aB aT aG aO aN aD aY th im (nI a) (nI (p0 + 1)) (nI E) 1 0 se dn rn kd nu tv bv cS fS a (p0 + 1) E H.size (by omega) (by omega) (by omega) (Or.inr rfl)) (cwV 0 hts gX12_factor_X12_figures rfl rfl rfl hd_yX12_figures ⟨Nat.le_of_ble_eq_true rfl, Nat.le_of_ble_eq_true rfl⟩) ⟨fun a U g mk q => by obtain ⟨q0, q1, qP, qK, qD⟩ := q; exact ⟨q0, q1, qP, va_K.moved (u := U) (U := U.calling g mk a) (Vm.Alike.refl U.vm) qK, qD⟩, va_recv hK hP (ci := 14) (q := (RX12, TX12, 23)) (q0 := 0) rfl rfl, fun U hU hW => ⟨rfl, by rw [hU], by rw [hU]; exact hPc, va_K.moved hW.alike hKc, hDc.weaken (fun _ _ _ _ => trivial)⟩⟩ rfl rfl hl.1 rfl (lv_room (Nat.le_of_ble_eq_true rfl)) dX12_factor_173 ⟨Nat.le_of_ble_eq_true rfl, Nat.le_of_ble_eq_true rfl⟩) hS (fun q _ h => hFc q h) hFc (fun r_112 u tC H1 locs htC hvm hw_113 hB hz1 hk1 hS => ?_)
          obtain ⟨sp9_114, wg9_115⟩ := u
          try dsimp only at hw_113 hB
          obtain ⟨hP1, hK1, hD1⟩ := hB
          rw [htC] at hP1
          have hK1 := va_K.moved hvm.symm hK1
          obtain ⟨hP, hD⟩ := va_join (wr := []) (w1 := [(zo14irriiiiiirriirrrrlriiii m0 th aS aI im (nI a) sp9_114 (nI E) wg9_115 0 aB aT se dn aG aO aN aD bv aY rn kd nu tv), (zaI aS cS 901 fS)]) hP hD [0, 1] [] rfl rfl (by decide) (by decide) hk1 hFc hP1 hD1
          have hK := (hK.sub (tys' := []) [] rfl).app hK1
          generalize H1 = H at hP hS ⊢
          have hP : va_P (dC, dI) vwCl [(zo14irriiiiiirriirrrrlriiii m0 th aS aI im (nI a) sp9_114 (nI E) wg9_115 0 aB aT se dn aG aO aN aD bv aY rn kd nu tv), (zaI aS cS 901 fS)] H := hP
          have hD : va_D A [(zo14irriiiiiirriirrrrlriiii m0 th aS aI im (nI a) sp9_114 (nI E) wg9_115 0 aB aT se dn aG aO aN aD bv aY rn kd nu tv), (zaI aS cS 901 fS)] := hD
          have hK : va_K (dC, dI) vwCl [(cS, .int)] s := hK
          obtain ⟨p_116, v_117, h_118, h_119, rfl, rfl, h_120, h_121, h_122⟩ := hw_113
          rcases h_121 with rfl | rfl
          · skip
            exact absurd (h_122 rfl).1 (by decide)
          · skip
            refine lv_istore (lv' := [(4, .int (nI v_117)), (3, .int 0), (2, .int (nI j_34)), (1, .int r_2), (0, .ref m0)]) hx hb dX12_factor_176 hl (by decide) rfl (fun ls hl => ?_)
            refine lv_aload_n hx hb dX12_factor_178 rfl (lv_at hl 4 rfl) ?_
            refine lv_iload_n hx hb dX12_factor_179 rfl (lv_at hl 2 rfl) ?_
            refine lv_bipush (v := 8) hx hb dX12_factor_180 (by decide) ?_
            refine lv_iload_n hx hb dX12_factor_182 rfl (lv_at hl 1 rfl) ?_
            refine lv_imul hx hb dX12_factor_183 ?_
            refine qi_as (y := 0) (by decide) ?_
            refine lv_iadd hx hb dX12_factor_184 ?_
            refine qi_as (y := nI (j_34 + 0)) (nI_add j_34 0) ?_
            refine lv_bipush (v := 32) hx hb dX12_factor_185 (by decide) ?_
            refine lv_iload hx hb dX12_factor_187 (lv_at hl 0 rfl) ?_
            refine lv_imul hx hb dX12_factor_189 ?_
            refine qi_as (y := nI (32 * v_117)) (pk_mul 32 v_117) ?_
            refine lv_iadd hx hb dX12_factor_190 ?_
            refine qi_as (y := nI ((j_34 + 0) + (32 * v_117))) (nI_add (j_34 + 0) (32 * v_117)) ?_
            have hPc := hP.sub (ws' := [(zo14irriiiiiirriirrrrlriiii m0 th aS aI im (nI a) (nI p_116) (nI E) 1 0 aB aT se dn aG aO aN aD bv aY rn kd nu tv)]) [0] rfl
            have hKc := hK.sub (tys' := []) [] rfl
            refine va_csv (va_runV (As := [.int (nI ((j_34 + 0) + (32 * v_117)))]) (rest := []) ⟨hx, hb, hml, hown, hts⟩ (c_emitsW l dC dI m0 aS aI aB aT aG aO aN aD aY th im (nI a) (nI p_116) (nI E) 1 0 se dn rn kd nu tv bv (nI ((j_34 + 0) + (32 * v_117)))) (cwV 1 hts gX12_factor_X12_emits rfl rfl rfl hd_yX12_emits ⟨Nat.le_of_ble_eq_true rfl, Nat.le_of_ble_eq_true rfl⟩) ⟨fun a U g mk q => by obtain ⟨q0, qP, qK⟩ := q; exact ⟨q0, qP, va_K.moved (u := U) (U := U.calling g mk a) (Vm.Alike.refl U.vm) qK⟩, va_recv hK hP (ci := 14) (q := (RX12, TX12, 23)) (q0 := 0) rfl rfl, fun U hU hW => ⟨rfl, by rw [hU]; exact hPc, va_K.moved hW.alike hKc⟩⟩ rfl rfl hl.1 rfl (lv_room (Nat.le_of_ble_eq_true rfl)) dX12_factor_191 ⟨Nat.le_of_ble_eq_true rfl, Nat.le_of_ble_eq_true rfl⟩).run (fun hw_124 => ?_)
            rw [hQ]
            have hP9 := hP.sub (ws' := [(zo14irriiiiiirriirrrrlriiii m0 th aS aI im (nI a) (nI p_116) (nI E) 1 0 aB aT se dn aG aO aN aD bv aY rn kd nu tv), (zaI aS cS 901 fS)]) [0, 1] rfl
            have hD9 := hD.sub (ws' := [(zo14irriiiiiirriirrrrlriiii m0 th aS aI im (nI a) (nI p_116) (nI E) 1 0 aB aT se dn aG aO aN aD bv aY rn kd nu tv), (zaI aS cS 901 fS)]) [0, 1] (by decide) rfl
            have hK9 := hK.sub (tys' := [(cS, .int)]) [0] rfl
            exact W.vret hx hb hr (fun tQ htQ hWQ => ⟨⟨(fS, (nI p_116), 1), rfl, ⟨p_116, k, rfl, by omega, by omega, PF.rf, Or.inl rfl⟩, by rw [htQ]; exact hP9, va_K.moved hWQ.alike hK9, hD9⟩, hS.F htQ⟩) hS.2.2 dX12_factor_194
    · skip
      subst c_30
      have hlt : p0 < E := hv_lt (f := fS) (by rw [← hw_3]; decide)
      refine lv_aload_n hx hb dX12_factor_25 rfl (lv_at hl 1 rfl) ?_
      refine lv_aload_n hx hb dX12_factor_26 rfl (lv_at hl 1 rfl) ?_
      refine va_get (D := (dC, dI)) (ci := 14) (v := .int 0) (C := RX12) (T := TX12) (N := 23) hx hb hts kc_factor0_0 hown hK hP 0 rfl rfl 8 (by decide) (hts (.fieldLink RX12 89 "MistHeapsModel" "open" "I") kc_factor0_2) (fun _ h9 => h9) rfl dX12_factor_27 ?_
      refine lv_iconst (v := 5) hx hb dX12_factor_30 (by decide) ?_
      refine lv_icmp_ne (tgt := 38) hx hb dX12_factor_31 (by decide) (fun _ => ?_) (fun c_125 => absurd c_125 (by decide))
      refine lv_iconst (v := 0) hx hb dX12_factor_38 (by decide) ?_
      refine va_put (D := (dC, dI)) (ci := 14) (v := .int 0) (ty := .boolean) (C := RX12) (T := TX12) (N := 23) hx hb hts kc_factor0_0 tyX12 tyX12_ok nmX12 hown hK hP hD hS 0 rfl rfl 7 (by decide) (hts (.fieldLink RX12 65 "MistHeapsModel" "isWrong" "Z") kc_factor0_1) (fun _ h9 => h9) rfl (by decide +kernel) rfl rfl (Nat.le_of_ble_eq_true rfl) dX12_factor_39 (fun H locs hP hD hS => ?_)
      have hP : va_P (dC, dI) vwCl [(zo14irriiiiiirriirrrrlriiii m0 th aS aI im (nI a) (nI p0) (nI E) 0 0 aB aT se dn aG aO aN aD bv aY rn kd nu tv), (zaI aS cS 901 fS)] H := hP
      have hD : va_D A [(zo14irriiiiiirriirrrrlriiii m0 th aS aI im (nI a) (nI p0) (nI E) 0 0 aB aT se dn aG aO aN aD bv aY rn kd nu tv), (zaI aS cS 901 fS)] := hD
      refine lv_aload_n hx hb dX12_factor_42 rfl (lv_at hl 1 rfl) ?_
      refine lv_dup hx hb dX12_factor_43 rfl ?_
      refine va_get (D := (dC, dI)) (ci := 14) (v := .int 0) (C := RX12) (T := TX12) (N := 23) hx hb hts kc_factor0_0 hown hK hP 0 rfl rfl 8 (by decide) (hts (.fieldLink RX12 89 "MistHeapsModel" "open" "I") kc_factor0_2) (fun _ h9 => h9) rfl dX12_factor_44 ?_
      refine lv_iconst (v := 1) hx hb dX12_factor_47 (by decide) ?_
      refine lv_iadd hx hb dX12_factor_48 ?_
      refine qi_as (y := 1) (by decide) ?_
      refine va_put (D := (dC, dI)) (ci := 14) (v := .int 1) (ty := .int) (C := RX12) (T := TX12) (N := 23) hx hb hts kc_factor0_0 tyX12 tyX12_ok nmX12 hown hK hP hD hS 0 rfl rfl 8 (by decide) (hts (.fieldLink RX12 89 "MistHeapsModel" "open" "I") kc_factor0_2) (fun _ h9 => h9) rfl (by decide +kernel) rfl rfl (Nat.le_of_ble_eq_true rfl) dX12_factor_49 (fun H locs hP hD hS => ?_)
      have hP : va_P (dC, dI) vwCl [(zo14irriiiiiirriirrrrlriiii m0 th aS aI im (nI a) (nI p0) (nI E) 0 1 aB aT se dn aG aO aN aD bv aY rn kd nu tv), (zaI aS cS 901 fS)] H := hP
      have hD : va_D A [(zo14irriiiiiirriirrrrlriiii m0 th aS aI im (nI a) (nI p0) (nI E) 0 1 aB aT se dn aG aO aN aD bv aY rn kd nu tv), (zaI aS cS 901 fS)] := hD
      refine lv_aload_n hx hb dX12_factor_52 rfl (lv_at hl 1 rfl) ?_
      refine lv_dup hx hb dX12_factor_53 rfl ?_
      refine va_get (D := (dC, dI)) (ci := 14) (v := .int (nI p0)) (C := RX12) (T := TX12) (N := 23) hx hb hts kc_factor0_0 hown hK hP 0 rfl rfl 5 (by decide) (hts (.fieldLink RX12 59 "MistHeapsModel" "spot" "I") kc_factor0_3) (fun _ h9 => h9) rfl dX12_factor_54 ?_
      refine lv_aload_n hx hb dX12_factor_57 rfl (lv_at hl 1 rfl) ?_
      refine va_get (D := (dC, dI)) (ci := 14) (v := .int 0) (C := RX12) (T := TX12) (N := 23) hx hb hts kc_factor0_0 hown hK hP 0 rfl rfl 7 (by decide) (hts (.fieldLink RX12 65 "MistHeapsModel" "isWrong" "Z") kc_factor0_1) (fun _ h9 => h9) rfl dX12_factor_58 ?_
      refine lv_if_eq (tgt := 68) hx hb dX12_factor_61 (by decide) (fun _ => ?_) (fun c_126 => absurd c_126 (by decide))
      refine lv_iconst (v := 1) hx hb dX12_factor_68 (by decide) ?_
      refine lv_iadd hx hb dX12_factor_69 ?_
      refine qi_as (y := nI (p0 + 1)) (nI_add p0 1) ?_
      refine va_put (D := (dC, dI)) (ci := 14) (v := .int (nI (p0 + 1))) (ty := .int) (C := RX12) (T := TX12) (N := 23) hx hb hts kc_factor0_0 tyX12 tyX12_ok nmX12 hown hK hP hD hS 0 rfl rfl 5 (by decide) (hts (.fieldLink RX12 59 "MistHeapsModel" "spot" "I") kc_factor0_3) (fun _ h9 => h9) rfl (by decide +kernel) rfl rfl (Nat.le_of_ble_eq_true rfl) dX12_factor_70 (fun H locs hP hD hS => ?_)
      have hP : va_P (dC, dI) vwCl [(zo14irriiiiiirriirrrrlriiii m0 th aS aI im (nI a) (nI (p0 + 1)) (nI E) 0 1 aB aT se dn aG aO aN aD bv aY rn kd nu tv), (zaI aS cS 901 fS)] H := hP
      have hD : va_D A [(zo14irriiiiiirriirrrrlriiii m0 th aS aI im (nI a) (nI (p0 + 1)) (nI E) 0 1 aB aT se dn aG aO aN aD bv aY rn kd nu tv), (zaI aS cS 901 fS)] := hD
      refine lv_iload_n hx hb dX12_factor_73 rfl (lv_at hl 0 rfl) ?_
      refine lv_bipush (v := 33) hx hb dX12_factor_74 (by decide) ?_
      refine lv_icmp_ne (tgt := 91) hx hb dX12_factor_76 (by decide) (fun _ => ?_) (fun c_127 => absurd c_127 (by decide))
      refine lv_aload_n hx hb dX12_factor_91 rfl (lv_at hl 1 rfl) ?_
      have hPc := hP.sub (ws' := [(zo14irriiiiiirriirrrrlriiii m0 th aS aI im (nI a) (nI (p0 + 1)) (nI E) 0 1 aB aT se dn aG aO aN aD bv aY rn kd nu tv), (zaI aS cS 901 fS)]) [0, 1] rfl
      have hDc := hD.sub (ws' := [(zo14irriiiiiirriirrrrlriiii m0 th aS aI im (nI a) (nI (p0 + 1)) (nI E) 0 1 aB aT se dn aG aO aN aD bv aY rn kd nu tv), (zaI aS cS 901 fS)]) [0, 1] (by decide) rfl
      have hKc := hK.sub (tys' := [(cS, .int)]) [0] rfl
      have hFc := va_free (wc := [(zo14irriiiiiirriirrrrlriiii m0 th aS aI im (nI a) (nI (p0 + 1)) (nI E) 0 1 aB aT se dn aG aO aN aD bv aY rn kd nu tv), (zaI aS cS 901 fS)]) hD hS hA [0, 1] rfl
      refine va_callv (va_runV (As := []) (rest := []) ⟨hx, hb, hml, hown, hts⟩ (c_some1 l dC dI sK sV m0 aS aI aB aT aG aO aN aD aY th im (nI a) (nI (p0 + 1)) (nI E) 0 1 se dn rn kd nu tv bv cS fS a (p0 + 1) E k d H.size ((gI).mono (by omega) (by omega))) (cwV 0 hts gX12_factor_X12_some rfl rfl rfl hd_yX12_some ⟨Nat.le_of_ble_eq_true rfl, Nat.le_of_ble_eq_true rfl⟩) ⟨fun a U g mk q => by obtain ⟨q0, q1, qP, qK, qD, qhE⟩ := q; exact ⟨q0, q1, qP, va_K.moved (u := U) (U := U.calling g mk a) (Vm.Alike.refl U.vm) qK, qD, qhE.same rfl rfl⟩, va_recv hK hP (ci := 14) (q := (RX12, TX12, 23)) (q0 := 0) rfl rfl, fun U hU hW => ⟨rfl, by rw [hU], by rw [hU]; exact hPc, va_K.moved hW.alike hKc, hDc.weaken (fun _ _ _ _ => trivial), hE.call hS hU hW (fun q h => hFc q h)⟩⟩ rfl rfl hl.1 rfl (lv_room (Nat.le_of_ble_eq_true rfl)) dX12_factor_92 ⟨Nat.le_of_ble_eq_true rfl, Nat.le_of_ble_eq_true rfl⟩) hS (fun q _ h => hFc q h) hFc (fun u tC H1 locs htC hvm hw_129 hB hz1 hk1 hS => ?_)
      obtain ⟨fS9_130, sp9_131, wg9_132⟩ := u
      try dsimp only at hw_129 hB
      obtain ⟨hP1, hK1, hD1⟩ := hB
      rw [htC] at hP1
      have hK1 := va_K.moved hvm.symm hK1
      obtain ⟨hP, hD⟩ := va_join (wr := []) (w1 := [(zo14irriiiiiirriirrrrlriiii m0 th aS aI im (nI a) sp9_131 (nI E) wg9_132 1 aB aT se dn aG aO aN aD bv aY rn kd nu tv), (zaI aS cS 901 fS9_130)]) hP hD [0, 1] [] rfl rfl (by decide) (by decide) hk1 hFc hP1 hD1
      have hK := (hK.sub (tys' := []) [] rfl).app hK1
      generalize H1 = H at hP hS ⊢
      have hP : va_P (dC, dI) vwCl [(zo14irriiiiiirriirrrrlriiii m0 th aS aI im (nI a) sp9_131 (nI E) wg9_132 1 aB aT se dn aG aO aN aD bv aY rn kd nu tv), (zaI aS cS 901 fS9_130)] H := hP
      have hD : va_D A [(zo14irriiiiiirriirrrrlriiii m0 th aS aI im (nI a) sp9_131 (nI E) wg9_132 1 aB aT se dn aG aO aN aD bv aY rn kd nu tv), (zaI aS cS 901 fS9_130)] := hD
      have hK : va_K (dC, dI) vwCl [(cS, .int)] s := hK
      obtain ⟨p_133, k_134, rfl, h_136, h_137, hF_138, q9⟩ := hw_129
      rcases q9 with rfl | ⟨rfl, h_139, hI_140, h_141⟩
      · skip
        refine lv_aload_n hx hb dX12_factor_95 rfl (lv_at hl 1 rfl) ?_
        refine lv_bipush (v := 41) hx hb dX12_factor_96 (by decide) ?_
        have hPc := hP.sub (ws' := [(zo14irriiiiiirriirrrrlriiii m0 th aS aI im (nI a) (nI p_133) (nI E) 1 1 aB aT se dn aG aO aN aD bv aY rn kd nu tv), (zaI aS cS 901 fS9_130)]) [0, 1] rfl
        have hDc := hD.sub (ws' := [(zo14irriiiiiirriirrrrlriiii m0 th aS aI im (nI a) (nI p_133) (nI E) 1 1 aB aT se dn aG aO aN aD bv aY rn kd nu tv), (zaI aS cS 901 fS9_130)]) [0, 1] (by decide) rfl
        have hKc := hK.sub (tys' := [(cS, .int)]) [0] rfl
        have hFc := va_free (wc := [(zo14irriiiiiirriirrrrlriiii m0 th aS aI im (nI a) (nI p_133) (nI E) 1 1 aB aT se dn aG aO aN aD bv aY rn kd nu tv), (zaI aS cS 901 fS9_130)]) hD hS hA [0, 1] rfl
        refine va_callv (va_runV (As := [.int 41]) (rest := []) ⟨hx, hb, hml, hown, hts⟩ (c_must l dC dI m0 aS aI aB aT aG aO aN aD aY th im (nI a) (nI p_133) (nI E) 1 1 se dn rn kd nu tv bv cS fS9_130 a p_133 E 41 H.size (by omega) (by omega) (by omega) (Or.inr rfl) (by decide)) (cwV 1 hts gX12_factor_X12_must rfl rfl rfl hd_yX12_must ⟨Nat.le_of_ble_eq_true rfl, Nat.le_of_ble_eq_true rfl⟩) ⟨fun a U g mk q => by obtain ⟨q0, q1, qP, qK, qD⟩ := q; exact ⟨q0, q1, qP, va_K.moved (u := U) (U := U.calling g mk a) (Vm.Alike.refl U.vm) qK, qD⟩, va_recv hK hP (ci := 14) (q := (RX12, TX12, 23)) (q0 := 0) rfl rfl, fun U hU hW => ⟨rfl, by rw [hU], by rw [hU]; exact hPc, va_K.moved hW.alike hKc, hDc.weaken (fun _ _ _ _ => trivial)⟩⟩ rfl rfl hl.1 rfl (lv_room (Nat.le_of_ble_eq_true rfl)) dX12_factor_98 ⟨Nat.le_of_ble_eq_true rfl, Nat.le_of_ble_eq_true rfl⟩) hS (fun q _ h => hFc q h) hFc (fun u tC H1 locs htC hvm hw_143 hB hz1 hk1 hS => ?_)
        obtain ⟨sp9_144, wg9_145⟩ := u
        try dsimp only at hw_143 hB
        obtain ⟨hP1, hK1, hD1⟩ := hB
        rw [htC] at hP1
        have hK1 := va_K.moved hvm.symm hK1
        obtain ⟨hP, hD⟩ := va_join (wr := []) (w1 := [(zo14irriiiiiirriirrrrlriiii m0 th aS aI im (nI a) sp9_144 (nI E) wg9_145 1 aB aT se dn aG aO aN aD bv aY rn kd nu tv), (zaI aS cS 901 fS9_130)]) hP hD [0, 1] [] rfl rfl (by decide) (by decide) hk1 hFc hP1 hD1
        have hK := (hK.sub (tys' := []) [] rfl).app hK1
        generalize H1 = H at hP hS ⊢
        have hP : va_P (dC, dI) vwCl [(zo14irriiiiiirriirrrrlriiii m0 th aS aI im (nI a) sp9_144 (nI E) wg9_145 1 aB aT se dn aG aO aN aD bv aY rn kd nu tv), (zaI aS cS 901 fS9_130)] H := hP
        have hD : va_D A [(zo14irriiiiiirriirrrrlriiii m0 th aS aI im (nI a) sp9_144 (nI E) wg9_145 1 aB aT se dn aG aO aN aD bv aY rn kd nu tv), (zaI aS cS 901 fS9_130)] := hD
        have hK : va_K (dC, dI) vwCl [(cS, .int)] s := hK
        obtain ⟨rfl, rfl⟩ : _ ∧ _ := by rcases hw_143 with q | ⟨_, q, _⟩; exact q; exact absurd q (by decide)
        refine lv_aload_n hx hb dX12_factor_101 rfl (lv_at hl 1 rfl) ?_
        refine lv_dup hx hb dX12_factor_102 rfl ?_
        refine va_get (D := (dC, dI)) (ci := 14) (v := .int 1) (C := RX12) (T := TX12) (N := 23) hx hb hts kc_factor0_0 hown hK hP 0 rfl rfl 8 (by decide) (hts (.fieldLink RX12 89 "MistHeapsModel" "open" "I") kc_factor0_2) (fun _ h9 => h9) rfl dX12_factor_103 ?_
        refine lv_iconst (v := 1) hx hb dX12_factor_106 (by decide) ?_
        refine lv_isub hx hb dX12_factor_107 ?_
        refine qi_as (y := 0) (by decide) ?_
        refine va_put (D := (dC, dI)) (ci := 14) (v := .int 0) (ty := .int) (C := RX12) (T := TX12) (N := 23) hx hb hts kc_factor0_0 tyX12 tyX12_ok nmX12 hown hK hP hD hS 0 rfl rfl 8 (by decide) (hts (.fieldLink RX12 89 "MistHeapsModel" "open" "I") kc_factor0_2) (fun _ h9 => h9) rfl (by decide +kernel) rfl rfl (Nat.le_of_ble_eq_true rfl) dX12_factor_108 (fun H locs hP hD hS => ?_)
        have hP : va_P (dC, dI) vwCl [(zo14irriiiiiirriirrrrlriiii m0 th aS aI im (nI a) (nI p_133) (nI E) 1 0 aB aT se dn aG aO aN aD bv aY rn kd nu tv), (zaI aS cS 901 fS9_130)] H := hP
        have hD : va_D A [(zo14irriiiiiirriirrrrlriiii m0 th aS aI im (nI a) (nI p_133) (nI E) 1 0 aB aT se dn aG aO aN aD bv aY rn kd nu tv), (zaI aS cS 901 fS9_130)] := hD
        rw [hQ]
        have hP9 := hP.sub (ws' := [(zo14irriiiiiirriirrrrlriiii m0 th aS aI im (nI a) (nI p_133) (nI E) 1 0 aB aT se dn aG aO aN aD bv aY rn kd nu tv), (zaI aS cS 901 fS9_130)]) [0, 1] rfl
        have hD9 := hD.sub (ws' := [(zo14irriiiiiirriirrrrlriiii m0 th aS aI im (nI a) (nI p_133) (nI E) 1 0 aB aT se dn aG aO aN aD bv aY rn kd nu tv), (zaI aS cS 901 fS9_130)]) [0, 1] (by decide) rfl
        have hK9 := hK.sub (tys' := [(cS, .int)]) [0] rfl
        exact W.vret hx hb hr (fun tQ htQ hWQ => ⟨⟨(fS9_130, (nI p_133), 1), rfl, ⟨p_133, k, rfl, by omega, by omega, (PF.rf).tr hF_138, Or.inl rfl⟩, by rw [htQ]; exact hP9, va_K.moved hWQ.alike hK9, hD9⟩, hS.F htQ⟩) hS.2.2 dX12_factor_111
      · skip
        have k5 := hI_140.2.2.2.2.1
        refine lv_aload_n hx hb dX12_factor_95 rfl (lv_at hl 1 rfl) ?_
        refine lv_bipush (v := 41) hx hb dX12_factor_96 (by decide) ?_
        have hPc := hP.sub (ws' := [(zo14irriiiiiirriirrrrlriiii m0 th aS aI im (nI a) (nI p_133) (nI E) 0 1 aB aT se dn aG aO aN aD bv aY rn kd nu tv), (zaI aS cS 901 fS9_130)]) [0, 1] rfl
        have hDc := hD.sub (ws' := [(zo14irriiiiiirriirrrrlriiii m0 th aS aI im (nI a) (nI p_133) (nI E) 0 1 aB aT se dn aG aO aN aD bv aY rn kd nu tv), (zaI aS cS 901 fS9_130)]) [0, 1] (by decide) rfl
        have hKc := hK.sub (tys' := [(cS, .int)]) [0] rfl
        have hFc := va_free (wc := [(zo14irriiiiiirriirrrrlriiii m0 th aS aI im (nI a) (nI p_133) (nI E) 0 1 aB aT se dn aG aO aN aD bv aY rn kd nu tv), (zaI aS cS 901 fS9_130)]) hD hS hA [0, 1] rfl
        refine va_callv (va_runV (As := [.int 41]) (rest := []) ⟨hx, hb, hml, hown, hts⟩ (c_must l dC dI m0 aS aI aB aT aG aO aN aD aY th im (nI a) (nI p_133) (nI E) 0 1 se dn rn kd nu tv bv cS fS9_130 a p_133 E 41 H.size (by omega) (by omega) (by omega) (Or.inl rfl) (by decide)) (cwV 1 hts gX12_factor_X12_must rfl rfl rfl hd_yX12_must ⟨Nat.le_of_ble_eq_true rfl, Nat.le_of_ble_eq_true rfl⟩) ⟨fun a U g mk q => by obtain ⟨q0, q1, qP, qK, qD⟩ := q; exact ⟨q0, q1, qP, va_K.moved (u := U) (U := U.calling g mk a) (Vm.Alike.refl U.vm) qK, qD⟩, va_recv hK hP (ci := 14) (q := (RX12, TX12, 23)) (q0 := 0) rfl rfl, fun U hU hW => ⟨rfl, by rw [hU], by rw [hU]; exact hPc, va_K.moved hW.alike hKc, hDc.weaken (fun _ _ _ _ => trivial)⟩⟩ rfl rfl hl.1 rfl (lv_room (Nat.le_of_ble_eq_true rfl)) dX12_factor_98 ⟨Nat.le_of_ble_eq_true rfl, Nat.le_of_ble_eq_true rfl⟩) hS (fun q _ h => hFc q h) hFc (fun u tC H1 locs htC hvm hw_147 hB hz1 hk1 hS => ?_)
        obtain ⟨sp9_148, wg9_149⟩ := u
        try dsimp only at hw_147 hB
        obtain ⟨hP1, hK1, hD1⟩ := hB
        rw [htC] at hP1
        have hK1 := va_K.moved hvm.symm hK1
        obtain ⟨hP, hD⟩ := va_join (wr := []) (w1 := [(zo14irriiiiiirriirrrrlriiii m0 th aS aI im (nI a) sp9_148 (nI E) wg9_149 1 aB aT se dn aG aO aN aD bv aY rn kd nu tv), (zaI aS cS 901 fS9_130)]) hP hD [0, 1] [] rfl rfl (by decide) (by decide) hk1 hFc hP1 hD1
        have hK := (hK.sub (tys' := []) [] rfl).app hK1
        generalize H1 = H at hP hS ⊢
        have hP : va_P (dC, dI) vwCl [(zo14irriiiiiirriirrrrlriiii m0 th aS aI im (nI a) sp9_148 (nI E) wg9_149 1 aB aT se dn aG aO aN aD bv aY rn kd nu tv), (zaI aS cS 901 fS9_130)] H := hP
        have hD : va_D A [(zo14irriiiiiirriirrrrlriiii m0 th aS aI im (nI a) sp9_148 (nI E) wg9_149 1 aB aT se dn aG aO aN aD bv aY rn kd nu tv), (zaI aS cS 901 fS9_130)] := hD
        have hK : va_K (dC, dI) vwCl [(cS, .int)] s := hK
        rcases hw_147 with ⟨rfl, rfl⟩ | ⟨rfl, h_151, h_152, rfl⟩
        · skip
          refine lv_aload_n hx hb dX12_factor_101 rfl (lv_at hl 1 rfl) ?_
          refine lv_dup hx hb dX12_factor_102 rfl ?_
          refine va_get (D := (dC, dI)) (ci := 14) (v := .int 1) (C := RX12) (T := TX12) (N := 23) hx hb hts kc_factor0_0 hown hK hP 0 rfl rfl 8 (by decide) (hts (.fieldLink RX12 89 "MistHeapsModel" "open" "I") kc_factor0_2) (fun _ h9 => h9) rfl dX12_factor_103 ?_
          refine lv_iconst (v := 1) hx hb dX12_factor_106 (by decide) ?_
          refine lv_isub hx hb dX12_factor_107 ?_
          refine qi_as (y := 0) (by decide) ?_
          refine va_put (D := (dC, dI)) (ci := 14) (v := .int 0) (ty := .int) (C := RX12) (T := TX12) (N := 23) hx hb hts kc_factor0_0 tyX12 tyX12_ok nmX12 hown hK hP hD hS 0 rfl rfl 8 (by decide) (hts (.fieldLink RX12 89 "MistHeapsModel" "open" "I") kc_factor0_2) (fun _ h9 => h9) rfl (by decide +kernel) rfl rfl (Nat.le_of_ble_eq_true rfl) dX12_factor_108 (fun H locs hP hD hS => ?_)
          have hP : va_P (dC, dI) vwCl [(zo14irriiiiiirriirrrrlriiii m0 th aS aI im (nI a) (nI p_133) (nI E) 1 0 aB aT se dn aG aO aN aD bv aY rn kd nu tv), (zaI aS cS 901 fS9_130)] H := hP
          have hD : va_D A [(zo14irriiiiiirriirrrrlriiii m0 th aS aI im (nI a) (nI p_133) (nI E) 1 0 aB aT se dn aG aO aN aD bv aY rn kd nu tv), (zaI aS cS 901 fS9_130)] := hD
          rw [hQ]
          have hP9 := hP.sub (ws' := [(zo14irriiiiiirriirrrrlriiii m0 th aS aI im (nI a) (nI p_133) (nI E) 1 0 aB aT se dn aG aO aN aD bv aY rn kd nu tv), (zaI aS cS 901 fS9_130)]) [0, 1] rfl
          have hD9 := hD.sub (ws' := [(zo14irriiiiiirriirrrrlriiii m0 th aS aI im (nI a) (nI p_133) (nI E) 1 0 aB aT se dn aG aO aN aD bv aY rn kd nu tv), (zaI aS cS 901 fS9_130)]) [0, 1] (by decide) rfl
          have hK9 := hK.sub (tys' := [(cS, .int)]) [0] rfl
          exact W.vret hx hb hr (fun tQ htQ hWQ => ⟨⟨(fS9_130, (nI p_133), 1), rfl, ⟨p_133, k, rfl, by omega, by omega, (PF.rf).tr hF_138, Or.inl rfl⟩, by rw [htQ]; exact hP9, va_K.moved hWQ.alike hK9, hD9⟩, hS.F htQ⟩) hS.2.2 dX12_factor_111
        · skip
          refine lv_aload_n hx hb dX12_factor_101 rfl (lv_at hl 1 rfl) ?_
          refine lv_dup hx hb dX12_factor_102 rfl ?_
          refine va_get (D := (dC, dI)) (ci := 14) (v := .int 1) (C := RX12) (T := TX12) (N := 23) hx hb hts kc_factor0_0 hown hK hP 0 rfl rfl 8 (by decide) (hts (.fieldLink RX12 89 "MistHeapsModel" "open" "I") kc_factor0_2) (fun _ h9 => h9) rfl dX12_factor_103 ?_
          refine lv_iconst (v := 1) hx hb dX12_factor_106 (by decide) ?_
          refine lv_isub hx hb dX12_factor_107 ?_
          refine qi_as (y := 0) (by decide) ?_
          refine va_put (D := (dC, dI)) (ci := 14) (v := .int 0) (ty := .int) (C := RX12) (T := TX12) (N := 23) hx hb hts kc_factor0_0 tyX12 tyX12_ok nmX12 hown hK hP hD hS 0 rfl rfl 8 (by decide) (hts (.fieldLink RX12 89 "MistHeapsModel" "open" "I") kc_factor0_2) (fun _ h9 => h9) rfl (by decide +kernel) rfl rfl (Nat.le_of_ble_eq_true rfl) dX12_factor_108 (fun H locs hP hD hS => ?_)
          have hP : va_P (dC, dI) vwCl [(zo14irriiiiiirriirrrrlriiii m0 th aS aI im (nI a) (nI (p_133 + 1)) (nI E) 0 0 aB aT se dn aG aO aN aD bv aY rn kd nu tv), (zaI aS cS 901 fS9_130)] H := hP
          have hD : va_D A [(zo14irriiiiiirriirrrrlriiii m0 th aS aI im (nI a) (nI (p_133 + 1)) (nI E) 0 0 aB aT se dn aG aO aN aD bv aY rn kd nu tv), (zaI aS cS 901 fS9_130)] := hD
          rw [hQ]
          have hP9 := hP.sub (ws' := [(zo14irriiiiiirriirrrrlriiii m0 th aS aI im (nI a) (nI (p_133 + 1)) (nI E) 0 0 aB aT se dn aG aO aN aD bv aY rn kd nu tv), (zaI aS cS 901 fS9_130)]) [0, 1] rfl
          have hD9 := hD.sub (ws' := [(zo14irriiiiiirriirrrrlriiii m0 th aS aI im (nI a) (nI (p_133 + 1)) (nI E) 0 0 aB aT se dn aG aO aN aD bv aY rn kd nu tv), (zaI aS cS 901 fS9_130)]) [0, 1] (by decide) rfl
          have hK9 := hK.sub (tys' := [(cS, .int)]) [0] rfl
          exact W.vret hx hb hr (fun tQ htQ hWQ => ⟨⟨(fS9_130, (nI (p_133 + 1)), 0), rfl, ⟨p_133 + 1, k_134, rfl, by omega, by omega, (PF.rf).tr hF_138, Or.inr ⟨rfl, by omega, (hI_140).mono (by omega) (by omega), by omega⟩⟩, by rw [htQ]; exact hP9, va_K.moved hWQ.alike hK9, hD9⟩, hS.F htQ⟩) hS.2.2 dX12_factor_111

theorem kc_every0_0 : ∀ w ∈ wsX120, w ∈ wsX12_every := fun w h => List.mem_cons_of_mem _ (gin_wsX120 w h)
theorem kc_every0_1 : (.fieldLink RX12 65 "MistHeapsModel" "isWrong" "Z" : Cond) ∈ wsX12_every := kc_of 1147 rfl rfl rfl
theorem kc_every0_2 : (.fieldLink RX12 59 "MistHeapsModel" "spot" "I" : Cond) ∈ wsX12_every := kc_of 1145 rfl rfl rfl
set_option maxHeartbeats 4000000 in
set_option maxRecDepth 100000 in
theorem c_every0 (l : Launch) (dC : Nat → ClassId) (dI : Nat → Nat → Nat) (sK sV : Nat → Nat) (m0 aS aI aB aT aG aO aN aD aY : Nat) (th im ac sp en wg op se dn rn kd nu tv : Int32) (bv : Int64) (cS : ClassId) (fS : Nat → Int32) (a p0 E k d : Nat) (sz : Nat) (gI : PI fS a k d p0 E) : Met l yX12_every wsX12_every ({ frames := 21, cells := 0, slots := 0, locals := 451 } : Room) (va_Pc [.ref m0] (fun U => U.heap.size = sz ∧ va_P (dC, dI) vwCl [(zo14irriiiiiirriirrrrlriiii m0 th aS aI im (nI a) (nI p0) (nI E) 0 0 aB aT se dn aG aO aN aD bv aY rn kd nu tv), (zaI aS cS 901 fS)] U.heap ∧ va_K (dC, dI) vwCl [(cS, .int)] U ∧ va_D (fun _ => True) [(zo14irriiiiiirriirrrrlriiii m0 th aS aI im (nI a) (nI p0) (nI E) 0 0 aB aT se dn aG aO aN aD bv aY rn kd nu tv), (zaI aS cS 901 fS)] ∧ Gs sK sV (va_A [(zo14irriiiiiirriirrrrlriiii m0 th aS aI im (nI a) (nI p0) (nI E) 0 0 aB aT se dn aG aO aN aD bv aY rn kd nu tv), (zaI aS cS 901 fS)] sz) U)) (va_Qv (fun (u : (Nat → Int32) × (Int32) × (Int32)) => match u with | (fS9, sp9, wg9) => ∃ p9 k9 : Nat, sp9 = nI p9 ∧ p0 ≤ p9 ∧ p9 ≤ E ∧ PF a fS fS9 ∧ (wg9 = 1 ∨ (wg9 = 0 ∧ p0 + 3 ≤ p9 ∧ PI fS9 a k9 (d + 1) p9 E ∧ k9 + p0 ≤ k + p9))) (fun (u : (Nat → Int32) × (Int32) × (Int32)) (t : State) => match u with | (fS9, sp9, wg9) => va_P (dC, dI) vwCl [(zo14irriiiiiirriirrrrlriiii m0 th aS aI im (nI a) sp9 (nI E) wg9 0 aB aT se dn aG aO aN aD bv aY rn kd nu tv), (zaI aS cS 901 fS9)] t.heap ∧ va_K (dC, dI) vwCl [(cS, .int)] t ∧ va_D (va_A [(zo14irriiiiiirriirrrrlriiii m0 th aS aI im (nI a) (nI p0) (nI E) 0 0 aB aT se dn aG aO aN aD bv aY rn kd nu tv), (zaI aS cS 901 fS)] sz) [(zo14irriiiiiirriirrrrlriiii m0 th aS aI im (nI a) sp9 (nI E) wg9 0 aB aT se dn aG aO aN aD bv aY rn kd nu tv), (zaI aS cS 901 fS9)]) (va_A [(zo14irriiiiiirriirrrrlriiii m0 th aS aI im (nI a) (nI p0) (nI E) 0 0 aB aT se dn aG aO aN aD bv aY rn kd nu tv), (zaI aS cS 901 fS)] sz)) 0 0 (va_A [(zo14irriiiiiirriirrrrlriiii m0 th aS aI im (nI a) (nI p0) (nI E) 0 0 aB aT se dn aG aO aN aD bv aY rn kd nu tv), (zaI aS cS 901 fS)] sz) := by
  refine met_ofQ (cc := cX12_every) (maxL := 1) (ret := none) (by decide) rfl ?_
  intro p e s m args below meth c s₁ Q B hml hv hQ
  obtain ⟨rfl, hsz, hP, hK, hD0, hE⟩ := hv
  have hx := B.exec
  have hb := B.bytes
  have hr := B.returns
  have hts := atoms_spec (ws := wsX12_every) B.pre
  have hown : s.vm.findClass RX12 = some m.cls := findClass_of_methodNamed B.named
  have hlocks := B.notSynchronized
  subst hsz
  have hD := hD0.self (sz := s.heap.size)
  generalize hAe : va_A [(zo14irriiiiiirriirrrrlriiii m0 th aS aI im (nI a) (nI p0) (nI E) 0 0 aB aT se dn aG aO aN aD bv aY rn kd nu tv), (zaI aS cS 901 fS)] s.heap.size = A at hD hQ hE ⊢
  have hA : ∀ q : Nat, s.heap.size ≤ q → A q := fun q h => by rw [← hAe]; exact Or.inr h
  have hS : va_S A s.heap s.heap [] := va_S.rf
  have hl := lv_entry [.ref m0] (n := 1) (Nat.le_of_ble_eq_true rfl)
  rw [lg_entry_eq]
  generalize (lg_sl [.ref m0] ++ List.replicate (1 - (lg_sl [.ref m0]).length) Slot.unset).toArray = ls at hl ⊢
  generalize hag : ([.ref m0] : List Value).toArray = args at hts hQ ⊢
  have hl : lv_has ls 1 [(0, .ref m0)] := hl
  obtain ⟨H, hH⟩ : ∃ H : Heap, H = s.heap := ⟨_, rfl⟩
  rw [← hH] at hP
  rw [← hH]
  have hS : va_S A s.heap H [] := by rw [hH]; exact hS
  obtain ⟨locs, hlo⟩ : ∃ L : List Loc, L = [] := ⟨_, rfl⟩
  rw [← hlo] at hS
  rw [← hlo]
  clear hH hlo
  obtain ⟨ga, gp, gE, zk, gkp, gd, gs⟩ := id gI
  refine lv_aload_n hx hb dX12_every_0 rfl (lv_at hl 0 rfl) ?_
  have hPc := hP.sub (ws' := [(zo14irriiiiiirriirrrrlriiii m0 th aS aI im (nI a) (nI p0) (nI E) 0 0 aB aT se dn aG aO aN aD bv aY rn kd nu tv), (zaI aS cS 901 fS)]) [0, 1] rfl
  have hDc := hD.sub (ws' := [(zo14irriiiiiirriirrrrlriiii m0 th aS aI im (nI a) (nI p0) (nI E) 0 0 aB aT se dn aG aO aN aD bv aY rn kd nu tv), (zaI aS cS 901 fS)]) [0, 1] (by decide) rfl
  have hKc := hK.sub (tys' := [(cS, .int)]) [0] rfl
  have hFc := va_free (wc := [(zo14irriiiiiirriirrrrlriiii m0 th aS aI im (nI a) (nI p0) (nI E) 0 0 aB aT se dn aG aO aN aD bv aY rn kd nu tv), (zaI aS cS 901 fS)]) hD hS hA [0, 1] rfl
  refine va_callv (va_runV (As := []) (rest := []) ⟨hx, hb, hml, hown, hts⟩ (c_factor0 l dC dI sK sV m0 aS aI aB aT aG aO aN aD aY th im (nI a) (nI p0) (nI E) 0 0 se dn rn kd nu tv bv cS fS a p0 E k d H.size ((gI).mono (by omega) (by omega))) (cwV 0 hts gX12_every_X12_factor rfl rfl rfl hd_yX12_factor ⟨Nat.le_of_ble_eq_true rfl, Nat.le_of_ble_eq_true rfl⟩) ⟨fun a U g mk q => by obtain ⟨q0, q1, qP, qK, qD, qhE⟩ := q; exact ⟨q0, q1, qP, va_K.moved (u := U) (U := U.calling g mk a) (Vm.Alike.refl U.vm) qK, qD, qhE.same rfl rfl⟩, va_recv hK hP (ci := 14) (q := (RX12, TX12, 23)) (q0 := 0) rfl rfl, fun U hU hW => ⟨rfl, by rw [hU], by rw [hU]; exact hPc, va_K.moved hW.alike hKc, hDc.weaken (fun _ _ _ _ => trivial), hE.call hS hU hW (fun q h => hFc q h)⟩⟩ rfl rfl hl.1 rfl (lv_room (Nat.le_of_ble_eq_true rfl)) dX12_every_1 ⟨Nat.le_of_ble_eq_true rfl, Nat.le_of_ble_eq_true rfl⟩) hS (fun q _ h => hFc q h) hFc (fun u tC H1 locs htC hvm hw_2 hB hz1 hk1 hS => ?_)
  obtain ⟨fS9_3, sp9_4, wg9_5⟩ := u
  try dsimp only at hw_2 hB
  obtain ⟨hP1, hK1, hD1⟩ := hB
  rw [htC] at hP1
  have hK1 := va_K.moved hvm.symm hK1
  obtain ⟨hP, hD⟩ := va_join (wr := []) (w1 := [(zo14irriiiiiirriirrrrlriiii m0 th aS aI im (nI a) sp9_4 (nI E) wg9_5 0 aB aT se dn aG aO aN aD bv aY rn kd nu tv), (zaI aS cS 901 fS9_3)]) hP hD [0, 1] [] rfl rfl (by decide) (by decide) hk1 hFc hP1 hD1
  have hK := (hK.sub (tys' := []) [] rfl).app hK1
  generalize H1 = H at hP hS ⊢
  have hP : va_P (dC, dI) vwCl [(zo14irriiiiiirriirrrrlriiii m0 th aS aI im (nI a) sp9_4 (nI E) wg9_5 0 aB aT se dn aG aO aN aD bv aY rn kd nu tv), (zaI aS cS 901 fS9_3)] H := hP
  have hD : va_D A [(zo14irriiiiiirriirrrrlriiii m0 th aS aI im (nI a) sp9_4 (nI E) wg9_5 0 aB aT se dn aG aO aN aD bv aY rn kd nu tv), (zaI aS cS 901 fS9_3)] := hD
  have hK : va_K (dC, dI) vwCl [(cS, .int)] s := hK
  obtain ⟨p_6, k_7, rfl, h_9, h_10, hF_11, q9⟩ := hw_2
  rcases q9 with rfl | ⟨rfl, h_12, hI_13, h_14⟩
  · skip
    have L4 : ∀ (nF : Nat) (p1 : Nat) (k1 : Nat) (w1 : Int32) (f1 : Nat → Int32), E - p1 < nF → (p0 ≤ p1 ∧ p1 ≤ E) → (PF a fS f1) → (w1 = 1 ∨ (w1 = 0 ∧ p0 + 3 ≤ p1 ∧ PI f1 a k1 (d + 1) p1 E ∧ k1 + p0 ≤ k + p1)) → ∀ (H : Heap) (locs : List Loc), va_K (dC, dI) vwCl [(cS, .int)] s → va_P (dC, dI) vwCl [(zo14irriiiiiirriirrrrlriiii m0 th aS aI im (nI a) (nI p1) (nI E) w1 0 aB aT se dn aG aO aN aD bv aY rn kd nu tv), (zaI aS cS 901 f1)] H → va_D A [(zo14irriiiiiirriirrrrlriiii m0 th aS aI im (nI a) (nI p1) (nI E) w1 0 aB aT se dn aG aO aN aD bv aY rn kd nu tv), (zaI aS cS 901 f1)] → va_S A s.heap H locs → ∀ (ls : Array Slot), lv_has ls 1 [(0, .ref m0)] → W p l e ({ frames := 21, cells := 0, slots := 0, locals := 451 } : Room) s m args below meth c H locs 0 0 Q (F0 m 4 ls []) := by
      intro nF
      induction nF with
      | zero => intro p1 k1 w1 f1 hm; exact absurd hm (Nat.not_lt_zero _)
      | succ nF ih4 =>
        intro p1 k1 w1 f1 hm h1 hF hw1 H locs hK hP hD hS ls hl
        obtain ⟨h1a, h1b⟩ := h1
        rcases hw1 with rfl | ⟨rfl, h3, hI, h4⟩
        · skip
          refine lv_aload_n hx hb dX12_every_4 rfl (lv_at hl 0 rfl) ?_
          refine va_get (D := (dC, dI)) (ci := 14) (v := .int 1) (C := RX12) (T := TX12) (N := 23) hx hb hts kc_every0_0 hown hK hP 0 rfl rfl 7 (by decide) (hts (.fieldLink RX12 65 "MistHeapsModel" "isWrong" "Z") kc_every0_1) (fun _ h9 => h9) rfl dX12_every_5 ?_
          refine lv_if_ne (tgt := 43) hx hb dX12_every_8 (by decide) (fun _ => ?_) (fun c_15 => absurd c_15 (by decide))
          rw [hQ]
          have hP9 := hP.sub (ws' := [(zo14irriiiiiirriirrrrlriiii m0 th aS aI im (nI a) (nI p1) (nI E) 1 0 aB aT se dn aG aO aN aD bv aY rn kd nu tv), (zaI aS cS 901 f1)]) [0, 1] rfl
          have hD9 := hD.sub (ws' := [(zo14irriiiiiirriirrrrlriiii m0 th aS aI im (nI a) (nI p1) (nI E) 1 0 aB aT se dn aG aO aN aD bv aY rn kd nu tv), (zaI aS cS 901 f1)]) [0, 1] (by decide) rfl
          have hK9 := hK.sub (tys' := [(cS, .int)]) [0] rfl
          exact W.vret hx hb hr (fun tQ htQ hWQ => ⟨⟨(f1, (nI p1), 1), rfl, ⟨p1, k, rfl, by omega, by omega, hF, Or.inl rfl⟩, by rw [htQ]; exact hP9, va_K.moved hWQ.alike hK9, hD9⟩, hS.F htQ⟩) hS.2.2 dX12_every_43
        · skip
          have k5 := hI.2.2.2.2.1
          refine lv_aload_n hx hb dX12_every_4 rfl (lv_at hl 0 rfl) ?_
          refine va_get (D := (dC, dI)) (ci := 14) (v := .int 0) (C := RX12) (T := TX12) (N := 23) hx hb hts kc_every0_0 hown hK hP 0 rfl rfl 7 (by decide) (hts (.fieldLink RX12 65 "MistHeapsModel" "isWrong" "Z") kc_every0_1) (fun _ h9 => h9) rfl dX12_every_5 ?_
          refine lv_if_ne (tgt := 43) hx hb dX12_every_8 (by decide) (fun c_16 => absurd c_16 (by decide)) (fun _ => ?_)
          refine lv_aload_n hx hb dX12_every_11 rfl (lv_at hl 0 rfl) ?_
          have hPc := hP.sub (ws' := [(zo14irriiiiiirriirrrrlriiii m0 th aS aI im (nI a) (nI p1) (nI E) 0 0 aB aT se dn aG aO aN aD bv aY rn kd nu tv), (zaI aS cS 901 f1)]) [0, 1] rfl
          have hKc := hK.sub (tys' := [(cS, .int)]) [0] rfl
          refine vp_callSi (va_runV (As := []) (rest := []) ⟨hx, hb, hml, hown, hts⟩ (c_here l dC dI m0 aS aI aB aT aG aO aN aD aY th im (nI a) (nI p1) (nI E) 0 0 se dn rn kd nu tv bv cS f1 a p1 E (by omega) (by omega) (by omega)) (cwV 0 hts gX12_every_X12_here rfl rfl rfl hd_yX12_here ⟨Nat.le_of_ble_eq_true rfl, Nat.le_of_ble_eq_true rfl⟩) ⟨fun a U g mk q => by obtain ⟨q0, qP, qK⟩ := q; exact ⟨q0, qP, va_K.moved (u := U) (U := U.calling g mk a) (Vm.Alike.refl U.vm) qK⟩, va_recv hK hP (ci := 14) (q := (RX12, TX12, 23)) (q0 := 0) rfl rfl, fun U hU hW => ⟨rfl, by rw [hU]; exact hPc, va_K.moved hW.alike hKc⟩⟩ rfl rfl hl.1 rfl (lv_room (Nat.le_of_ble_eq_true rfl)) dX12_every_12 ⟨Nat.le_of_ble_eq_true rfl, Nat.le_of_ble_eq_true rfl⟩).run (fun r_17 hw_18 => ?_)
          refine lv_bipush (v := 38) hx hb dX12_every_15 (by decide) ?_
          refine lv_icmp_ne (tgt := 43) hx hb dX12_every_17 (by decide) (fun c_19 => ?_) (fun c_19 => ?_)
          · skip
            rw [hQ]
            have hP9 := hP.sub (ws' := [(zo14irriiiiiirriirrrrlriiii m0 th aS aI im (nI a) (nI p1) (nI E) 0 0 aB aT se dn aG aO aN aD bv aY rn kd nu tv), (zaI aS cS 901 f1)]) [0, 1] rfl
            have hD9 := hD.sub (ws' := [(zo14irriiiiiirriirrrrlriiii m0 th aS aI im (nI a) (nI p1) (nI E) 0 0 aB aT se dn aG aO aN aD bv aY rn kd nu tv), (zaI aS cS 901 f1)]) [0, 1] (by decide) rfl
            have hK9 := hK.sub (tys' := [(cS, .int)]) [0] rfl
            exact W.vret hx hb hr (fun tQ htQ hWQ => ⟨⟨(f1, (nI p1), 0), rfl, ⟨p1, k1, rfl, by omega, by omega, hF, Or.inr ⟨rfl, by omega, hI, by omega⟩⟩, by rw [htQ]; exact hP9, va_K.moved hWQ.alike hK9, hD9⟩, hS.F htQ⟩) hS.2.2 dX12_every_43
          · skip
            have hlt : p1 < E := hv_lt (f := f1) (by rw [← hw_18, c_19]; decide)
            refine lv_aload_n hx hb dX12_every_20 rfl (lv_at hl 0 rfl) ?_
            refine lv_dup hx hb dX12_every_21 rfl ?_
            refine va_get (D := (dC, dI)) (ci := 14) (v := .int (nI p1)) (C := RX12) (T := TX12) (N := 23) hx hb hts kc_every0_0 hown hK hP 0 rfl rfl 5 (by decide) (hts (.fieldLink RX12 59 "MistHeapsModel" "spot" "I") kc_every0_2) (fun _ h9 => h9) rfl dX12_every_22 ?_
            refine lv_iconst (v := 1) hx hb dX12_every_25 (by decide) ?_
            refine lv_iadd hx hb dX12_every_26 ?_
            refine qi_as (y := nI (p1 + 1)) (nI_add p1 1) ?_
            refine va_put (D := (dC, dI)) (ci := 14) (v := .int (nI (p1 + 1))) (ty := .int) (C := RX12) (T := TX12) (N := 23) hx hb hts kc_every0_0 tyX12 tyX12_ok nmX12 hown hK hP hD hS 0 rfl rfl 5 (by decide) (hts (.fieldLink RX12 59 "MistHeapsModel" "spot" "I") kc_every0_2) (fun _ h9 => h9) rfl (by decide +kernel) rfl rfl (Nat.le_of_ble_eq_true rfl) dX12_every_27 (fun H locs hP hD hS => ?_)
            have hP : va_P (dC, dI) vwCl [(zo14irriiiiiirriirrrrlriiii m0 th aS aI im (nI a) (nI (p1 + 1)) (nI E) 0 0 aB aT se dn aG aO aN aD bv aY rn kd nu tv), (zaI aS cS 901 f1)] H := hP
            have hD : va_D A [(zo14irriiiiiirriirrrrlriiii m0 th aS aI im (nI a) (nI (p1 + 1)) (nI E) 0 0 aB aT se dn aG aO aN aD bv aY rn kd nu tv), (zaI aS cS 901 f1)] := hD
            refine lv_aload_n hx hb dX12_every_30 rfl (lv_at hl 0 rfl) ?_
            have hPc := hP.sub (ws' := [(zo14irriiiiiirriirrrrlriiii m0 th aS aI im (nI a) (nI (p1 + 1)) (nI E) 0 0 aB aT se dn aG aO aN aD bv aY rn kd nu tv), (zaI aS cS 901 f1)]) [0, 1] rfl
            have hDc := hD.sub (ws' := [(zo14irriiiiiirriirrrrlriiii m0 th aS aI im (nI a) (nI (p1 + 1)) (nI E) 0 0 aB aT se dn aG aO aN aD bv aY rn kd nu tv), (zaI aS cS 901 f1)]) [0, 1] (by decide) rfl
            have hKc := hK.sub (tys' := [(cS, .int)]) [0] rfl
            have hFc := va_free (wc := [(zo14irriiiiiirriirrrrlriiii m0 th aS aI im (nI a) (nI (p1 + 1)) (nI E) 0 0 aB aT se dn aG aO aN aD bv aY rn kd nu tv), (zaI aS cS 901 f1)]) hD hS hA [0, 1] rfl
            refine va_callv (va_runV (As := []) (rest := []) ⟨hx, hb, hml, hown, hts⟩ (c_factor0 l dC dI sK sV m0 aS aI aB aT aG aO aN aD aY th im (nI a) (nI (p1 + 1)) (nI E) 0 0 se dn rn kd nu tv bv cS f1 a (p1 + 1) E k1 (d + 1) H.size ((hI).mono (by omega) (by omega))) (cwV 0 hts gX12_every_X12_factor rfl rfl rfl hd_yX12_factor ⟨Nat.le_of_ble_eq_true rfl, Nat.le_of_ble_eq_true rfl⟩) ⟨fun a U g mk q => by obtain ⟨q0, q1, qP, qK, qD, qhE⟩ := q; exact ⟨q0, q1, qP, va_K.moved (u := U) (U := U.calling g mk a) (Vm.Alike.refl U.vm) qK, qD, qhE.same rfl rfl⟩, va_recv hK hP (ci := 14) (q := (RX12, TX12, 23)) (q0 := 0) rfl rfl, fun U hU hW => ⟨rfl, by rw [hU], by rw [hU]; exact hPc, va_K.moved hW.alike hKc, hDc.weaken (fun _ _ _ _ => trivial), hE.call hS hU hW (fun q h => hFc q h)⟩⟩ rfl rfl hl.1 rfl (lv_room (Nat.le_of_ble_eq_true rfl)) dX12_every_31 ⟨Nat.le_of_ble_eq_true rfl, Nat.le_of_ble_eq_true rfl⟩) hS (fun q _ h => hFc q h) hFc (fun u tC H1 locs htC hvm hw_21 hB hz1 hk1 hS => ?_)
            obtain ⟨fS9_22, sp9_23, wg9_24⟩ := u
            try dsimp only at hw_21 hB
            obtain ⟨hP1, hK1, hD1⟩ := hB
            rw [htC] at hP1
            have hK1 := va_K.moved hvm.symm hK1
            obtain ⟨hP, hD⟩ := va_join (wr := []) (w1 := [(zo14irriiiiiirriirrrrlriiii m0 th aS aI im (nI a) sp9_23 (nI E) wg9_24 0 aB aT se dn aG aO aN aD bv aY rn kd nu tv), (zaI aS cS 901 fS9_22)]) hP hD [0, 1] [] rfl rfl (by decide) (by decide) hk1 hFc hP1 hD1
            have hK := (hK.sub (tys' := []) [] rfl).app hK1
            generalize H1 = H at hP hS ⊢
            have hP : va_P (dC, dI) vwCl [(zo14irriiiiiirriirrrrlriiii m0 th aS aI im (nI a) sp9_23 (nI E) wg9_24 0 aB aT se dn aG aO aN aD bv aY rn kd nu tv), (zaI aS cS 901 fS9_22)] H := hP
            have hD : va_D A [(zo14irriiiiiirriirrrrlriiii m0 th aS aI im (nI a) sp9_23 (nI E) wg9_24 0 aB aT se dn aG aO aN aD bv aY rn kd nu tv), (zaI aS cS 901 fS9_22)] := hD
            have hK : va_K (dC, dI) vwCl [(cS, .int)] s := hK
            obtain ⟨p_25, k_26, rfl, h_28, h_29, hF_30, q9⟩ := hw_21
            rcases q9 with rfl | ⟨rfl, h_31, hI_32, h_33⟩
            · skip
              refine lv_aload_n hx hb dX12_every_34 rfl (lv_at hl 0 rfl) ?_
              refine lv_bipush (v := (-2)) hx hb dX12_every_35 (by decide) ?_
              have hPc := hP.sub (ws' := [(zo14irriiiiiirriirrrrlriiii m0 th aS aI im (nI a) (nI p_25) (nI E) 1 0 aB aT se dn aG aO aN aD bv aY rn kd nu tv)]) [0] rfl
              have hKc := hK.sub (tys' := []) [] rfl
              refine va_csv (va_runV (As := [.int (-2)]) (rest := []) ⟨hx, hb, hml, hown, hts⟩ (c_emitsW l dC dI m0 aS aI aB aT aG aO aN aD aY th im (nI a) (nI p_25) (nI E) 1 0 se dn rn kd nu tv bv (-2)) (cwV 1 hts gX12_every_X12_emits rfl rfl rfl hd_yX12_emits ⟨Nat.le_of_ble_eq_true rfl, Nat.le_of_ble_eq_true rfl⟩) ⟨fun a U g mk q => by obtain ⟨q0, qP, qK⟩ := q; exact ⟨q0, qP, va_K.moved (u := U) (U := U.calling g mk a) (Vm.Alike.refl U.vm) qK⟩, va_recv hK hP (ci := 14) (q := (RX12, TX12, 23)) (q0 := 0) rfl rfl, fun U hU hW => ⟨rfl, by rw [hU]; exact hPc, va_K.moved hW.alike hKc⟩⟩ rfl rfl hl.1 rfl (lv_room (Nat.le_of_ble_eq_true rfl)) dX12_every_37 ⟨Nat.le_of_ble_eq_true rfl, Nat.le_of_ble_eq_true rfl⟩).run (fun hw_35 => ?_)
              refine lv_goto (tgt := 4) hx hb dX12_every_40 (by decide) ?_
              exact ih4 (p_25) (k) (1) (fS9_22) (by omega) (by omega) ((hF).tr hF_30) (Or.inl rfl) _ _ (hK.sub [0] rfl) (hP.sub [0, 1] rfl) (hD.sub [0, 1] (by decide) rfl) hS ls (lv_sub hl [0] rfl)
            · skip
              have k5 := hI_32.2.2.2.2.1
              refine lv_aload_n hx hb dX12_every_34 rfl (lv_at hl 0 rfl) ?_
              refine lv_bipush (v := (-2)) hx hb dX12_every_35 (by decide) ?_
              have hPc := hP.sub (ws' := [(zo14irriiiiiirriirrrrlriiii m0 th aS aI im (nI a) (nI p_25) (nI E) 0 0 aB aT se dn aG aO aN aD bv aY rn kd nu tv), (zaI aS cS 901 fS9_22)]) [0, 1] rfl
              have hDc := hD.sub (ws' := [(zo14irriiiiiirriirrrrlriiii m0 th aS aI im (nI a) (nI p_25) (nI E) 0 0 aB aT se dn aG aO aN aD bv aY rn kd nu tv), (zaI aS cS 901 fS9_22)]) [0, 1] (by decide) rfl
              have hKc := hK.sub (tys' := [(cS, .int)]) [0] rfl
              have hFc := va_free (wc := [(zo14irriiiiiirriirrrrlriiii m0 th aS aI im (nI a) (nI p_25) (nI E) 0 0 aB aT se dn aG aO aN aD bv aY rn kd nu tv), (zaI aS cS 901 fS9_22)]) hD hS hA [0, 1] rfl
              refine va_callv (va_runV (As := [.int (-2)]) (rest := []) ⟨hx, hb, hml, hown, hts⟩ (c_emits l dC dI m0 aS aI aB aT aG aO aN aD aY th im (nI a) (nI p_25) (nI E) 0 0 se dn rn kd nu tv bv cS fS9_22 a k_26 (-2) H.size (ga) ((hI_32).2.2.2.1) (by have := (hI_32).2.2.2.2.1; omega)) (cwV 1 hts gX12_every_X12_emits rfl rfl rfl hd_yX12_emits ⟨Nat.le_of_ble_eq_true rfl, Nat.le_of_ble_eq_true rfl⟩) ⟨fun a U g mk q => by obtain ⟨q0, q1, qP, qK, qD⟩ := q; exact ⟨q0, q1, qP, va_K.moved (u := U) (U := U.calling g mk a) (Vm.Alike.refl U.vm) qK, qD⟩, va_recv hK hP (ci := 14) (q := (RX12, TX12, 23)) (q0 := 0) rfl rfl, fun U hU hW => ⟨rfl, by rw [hU], by rw [hU]; exact hPc, va_K.moved hW.alike hKc, hDc.weaken (fun _ _ _ _ => trivial)⟩⟩ rfl rfl hl.1 rfl (lv_room (Nat.le_of_ble_eq_true rfl)) dX12_every_37 ⟨Nat.le_of_ble_eq_true rfl, Nat.le_of_ble_eq_true rfl⟩) hS (fun q _ h => hFc q h) hFc (fun u tC H1 locs htC hvm hw_37 hB hz1 hk1 hS => ?_)
              obtain ⟨fS9_38, rfl⟩ : ∃ z, z = u := ⟨_, rfl⟩
              try dsimp only at hw_37 hB
              obtain ⟨hP1, hK1, hD1⟩ := hB
              rw [htC] at hP1
              have hK1 := va_K.moved hvm.symm hK1
              obtain ⟨hP, hD⟩ := va_join (wr := []) (w1 := [(zo14irriiiiiirriirrrrlriiii m0 th aS aI im (nI a) (nI p_25) (nI E) 0 0 aB aT se dn aG aO aN aD bv aY rn kd nu tv), (zaI aS cS 901 fS9_38)]) hP hD [0, 1] [] rfl rfl (by decide) (by decide) hk1 hFc hP1 hD1
              have hK := (hK.sub (tys' := []) [] rfl).app hK1
              generalize H1 = H at hP hS ⊢
              have hP : va_P (dC, dI) vwCl [(zo14irriiiiiirriirrrrlriiii m0 th aS aI im (nI a) (nI p_25) (nI E) 0 0 aB aT se dn aG aO aN aD bv aY rn kd nu tv), (zaI aS cS 901 fS9_38)] H := hP
              have hD : va_D A [(zo14irriiiiiirriirrrrlriiii m0 th aS aI im (nI a) (nI p_25) (nI E) 0 0 aB aT se dn aG aO aN aD bv aY rn kd nu tv), (zaI aS cS 901 fS9_38)] := hD
              have hK : va_K (dC, dI) vwCl [(cS, .int)] s := hK
              obtain rfl : fS9_38 = emt fS9_22 a k_26 (-2) := by rcases hw_37 with ⟨q, _⟩ | ⟨_, q⟩; exact absurd rfl q; exact q
              have hI_40 : PI (emt fS9_22 a k_26 (-2)) a (k_26 + 1) (((d + 1) + 1) - 1) p_25 E := ((hI_32).mono (by omega) (by omega)).em (by omega) (by omega) (stepd_both (by omega))
              have hF_41 : PF a fS (emt fS9_22 a k_26 (-2)) := ((hF).tr hF_30).tr (PF_emt (k := k_26) (x := (-2)) ga (by have := (hI_32).2.2.2.2.1; omega))
              refine lv_goto (tgt := 4) hx hb dX12_every_40 (by decide) ?_
              exact ih4 (p_25) ((k_26 + 1)) (0) (emt fS9_22 a k_26 (-2)) (by omega) (by omega) (hF_41) (Or.inr ⟨rfl, by omega, hI_40, by omega⟩) _ _ (hK.sub [0] rfl) (hP.sub [0, 1] rfl) (hD.sub [0, 1] (by decide) rfl) hS ls (lv_sub hl [0] rfl)
    exact L4 _ (p_6) (k) (1) (fS9_3) (Nat.lt_succ_self _) (by omega) ((PF.rf).tr hF_11) (Or.inl rfl) _ _ (hK.sub [0] rfl) (hP.sub [0, 1] rfl) (hD.sub [0, 1] (by decide) rfl) hS ls (lv_sub hl [0] rfl)
  · skip
    have k5 := hI_13.2.2.2.2.1
    have L4 : ∀ (nF : Nat) (p1 : Nat) (k1 : Nat) (w1 : Int32) (f1 : Nat → Int32), E - p1 < nF → (p0 ≤ p1 ∧ p1 ≤ E) → (PF a fS f1) → (w1 = 1 ∨ (w1 = 0 ∧ p0 + 3 ≤ p1 ∧ PI f1 a k1 (d + 1) p1 E ∧ k1 + p0 ≤ k + p1)) → ∀ (H : Heap) (locs : List Loc), va_K (dC, dI) vwCl [(cS, .int)] s → va_P (dC, dI) vwCl [(zo14irriiiiiirriirrrrlriiii m0 th aS aI im (nI a) (nI p1) (nI E) w1 0 aB aT se dn aG aO aN aD bv aY rn kd nu tv), (zaI aS cS 901 f1)] H → va_D A [(zo14irriiiiiirriirrrrlriiii m0 th aS aI im (nI a) (nI p1) (nI E) w1 0 aB aT se dn aG aO aN aD bv aY rn kd nu tv), (zaI aS cS 901 f1)] → va_S A s.heap H locs → ∀ (ls : Array Slot), lv_has ls 1 [(0, .ref m0)] → W p l e ({ frames := 21, cells := 0, slots := 0, locals := 451 } : Room) s m args below meth c H locs 0 0 Q (F0 m 4 ls []) := by
      intro nF
      induction nF with
      | zero => intro p1 k1 w1 f1 hm; exact absurd hm (Nat.not_lt_zero _)
      | succ nF ih4 =>
        intro p1 k1 w1 f1 hm h1 hF hw1 H locs hK hP hD hS ls hl
        obtain ⟨h1a, h1b⟩ := h1
        rcases hw1 with rfl | ⟨rfl, h3, hI, h4⟩
        · skip
          refine lv_aload_n hx hb dX12_every_4 rfl (lv_at hl 0 rfl) ?_
          refine va_get (D := (dC, dI)) (ci := 14) (v := .int 1) (C := RX12) (T := TX12) (N := 23) hx hb hts kc_every0_0 hown hK hP 0 rfl rfl 7 (by decide) (hts (.fieldLink RX12 65 "MistHeapsModel" "isWrong" "Z") kc_every0_1) (fun _ h9 => h9) rfl dX12_every_5 ?_
          refine lv_if_ne (tgt := 43) hx hb dX12_every_8 (by decide) (fun _ => ?_) (fun c_42 => absurd c_42 (by decide))
          rw [hQ]
          have hP9 := hP.sub (ws' := [(zo14irriiiiiirriirrrrlriiii m0 th aS aI im (nI a) (nI p1) (nI E) 1 0 aB aT se dn aG aO aN aD bv aY rn kd nu tv), (zaI aS cS 901 f1)]) [0, 1] rfl
          have hD9 := hD.sub (ws' := [(zo14irriiiiiirriirrrrlriiii m0 th aS aI im (nI a) (nI p1) (nI E) 1 0 aB aT se dn aG aO aN aD bv aY rn kd nu tv), (zaI aS cS 901 f1)]) [0, 1] (by decide) rfl
          have hK9 := hK.sub (tys' := [(cS, .int)]) [0] rfl
          exact W.vret hx hb hr (fun tQ htQ hWQ => ⟨⟨(f1, (nI p1), 1), rfl, ⟨p1, k, rfl, by omega, by omega, hF, Or.inl rfl⟩, by rw [htQ]; exact hP9, va_K.moved hWQ.alike hK9, hD9⟩, hS.F htQ⟩) hS.2.2 dX12_every_43
        · skip
          have k5 := hI.2.2.2.2.1
          refine lv_aload_n hx hb dX12_every_4 rfl (lv_at hl 0 rfl) ?_
          refine va_get (D := (dC, dI)) (ci := 14) (v := .int 0) (C := RX12) (T := TX12) (N := 23) hx hb hts kc_every0_0 hown hK hP 0 rfl rfl 7 (by decide) (hts (.fieldLink RX12 65 "MistHeapsModel" "isWrong" "Z") kc_every0_1) (fun _ h9 => h9) rfl dX12_every_5 ?_
          refine lv_if_ne (tgt := 43) hx hb dX12_every_8 (by decide) (fun c_43 => absurd c_43 (by decide)) (fun _ => ?_)
          refine lv_aload_n hx hb dX12_every_11 rfl (lv_at hl 0 rfl) ?_
          have hPc := hP.sub (ws' := [(zo14irriiiiiirriirrrrlriiii m0 th aS aI im (nI a) (nI p1) (nI E) 0 0 aB aT se dn aG aO aN aD bv aY rn kd nu tv), (zaI aS cS 901 f1)]) [0, 1] rfl
          have hKc := hK.sub (tys' := [(cS, .int)]) [0] rfl
          refine vp_callSi (va_runV (As := []) (rest := []) ⟨hx, hb, hml, hown, hts⟩ (c_here l dC dI m0 aS aI aB aT aG aO aN aD aY th im (nI a) (nI p1) (nI E) 0 0 se dn rn kd nu tv bv cS f1 a p1 E (by omega) (by omega) (by omega)) (cwV 0 hts gX12_every_X12_here rfl rfl rfl hd_yX12_here ⟨Nat.le_of_ble_eq_true rfl, Nat.le_of_ble_eq_true rfl⟩) ⟨fun a U g mk q => by obtain ⟨q0, qP, qK⟩ := q; exact ⟨q0, qP, va_K.moved (u := U) (U := U.calling g mk a) (Vm.Alike.refl U.vm) qK⟩, va_recv hK hP (ci := 14) (q := (RX12, TX12, 23)) (q0 := 0) rfl rfl, fun U hU hW => ⟨rfl, by rw [hU]; exact hPc, va_K.moved hW.alike hKc⟩⟩ rfl rfl hl.1 rfl (lv_room (Nat.le_of_ble_eq_true rfl)) dX12_every_12 ⟨Nat.le_of_ble_eq_true rfl, Nat.le_of_ble_eq_true rfl⟩).run (fun r_44 hw_45 => ?_)
          refine lv_bipush (v := 38) hx hb dX12_every_15 (by decide) ?_
          refine lv_icmp_ne (tgt := 43) hx hb dX12_every_17 (by decide) (fun c_46 => ?_) (fun c_46 => ?_)
          · skip
            rw [hQ]
            have hP9 := hP.sub (ws' := [(zo14irriiiiiirriirrrrlriiii m0 th aS aI im (nI a) (nI p1) (nI E) 0 0 aB aT se dn aG aO aN aD bv aY rn kd nu tv), (zaI aS cS 901 f1)]) [0, 1] rfl
            have hD9 := hD.sub (ws' := [(zo14irriiiiiirriirrrrlriiii m0 th aS aI im (nI a) (nI p1) (nI E) 0 0 aB aT se dn aG aO aN aD bv aY rn kd nu tv), (zaI aS cS 901 f1)]) [0, 1] (by decide) rfl
            have hK9 := hK.sub (tys' := [(cS, .int)]) [0] rfl
            exact W.vret hx hb hr (fun tQ htQ hWQ => ⟨⟨(f1, (nI p1), 0), rfl, ⟨p1, k1, rfl, by omega, by omega, hF, Or.inr ⟨rfl, by omega, hI, by omega⟩⟩, by rw [htQ]; exact hP9, va_K.moved hWQ.alike hK9, hD9⟩, hS.F htQ⟩) hS.2.2 dX12_every_43
          · skip
            have hlt : p1 < E := hv_lt (f := f1) (by rw [← hw_45, c_46]; decide)
            refine lv_aload_n hx hb dX12_every_20 rfl (lv_at hl 0 rfl) ?_
            refine lv_dup hx hb dX12_every_21 rfl ?_
            refine va_get (D := (dC, dI)) (ci := 14) (v := .int (nI p1)) (C := RX12) (T := TX12) (N := 23) hx hb hts kc_every0_0 hown hK hP 0 rfl rfl 5 (by decide) (hts (.fieldLink RX12 59 "MistHeapsModel" "spot" "I") kc_every0_2) (fun _ h9 => h9) rfl dX12_every_22 ?_
            refine lv_iconst (v := 1) hx hb dX12_every_25 (by decide) ?_
            refine lv_iadd hx hb dX12_every_26 ?_
            refine qi_as (y := nI (p1 + 1)) (nI_add p1 1) ?_
            refine va_put (D := (dC, dI)) (ci := 14) (v := .int (nI (p1 + 1))) (ty := .int) (C := RX12) (T := TX12) (N := 23) hx hb hts kc_every0_0 tyX12 tyX12_ok nmX12 hown hK hP hD hS 0 rfl rfl 5 (by decide) (hts (.fieldLink RX12 59 "MistHeapsModel" "spot" "I") kc_every0_2) (fun _ h9 => h9) rfl (by decide +kernel) rfl rfl (Nat.le_of_ble_eq_true rfl) dX12_every_27 (fun H locs hP hD hS => ?_)
            have hP : va_P (dC, dI) vwCl [(zo14irriiiiiirriirrrrlriiii m0 th aS aI im (nI a) (nI (p1 + 1)) (nI E) 0 0 aB aT se dn aG aO aN aD bv aY rn kd nu tv), (zaI aS cS 901 f1)] H := hP
            have hD : va_D A [(zo14irriiiiiirriirrrrlriiii m0 th aS aI im (nI a) (nI (p1 + 1)) (nI E) 0 0 aB aT se dn aG aO aN aD bv aY rn kd nu tv), (zaI aS cS 901 f1)] := hD
            refine lv_aload_n hx hb dX12_every_30 rfl (lv_at hl 0 rfl) ?_
            have hPc := hP.sub (ws' := [(zo14irriiiiiirriirrrrlriiii m0 th aS aI im (nI a) (nI (p1 + 1)) (nI E) 0 0 aB aT se dn aG aO aN aD bv aY rn kd nu tv), (zaI aS cS 901 f1)]) [0, 1] rfl
            have hDc := hD.sub (ws' := [(zo14irriiiiiirriirrrrlriiii m0 th aS aI im (nI a) (nI (p1 + 1)) (nI E) 0 0 aB aT se dn aG aO aN aD bv aY rn kd nu tv), (zaI aS cS 901 f1)]) [0, 1] (by decide) rfl
            have hKc := hK.sub (tys' := [(cS, .int)]) [0] rfl
            have hFc := va_free (wc := [(zo14irriiiiiirriirrrrlriiii m0 th aS aI im (nI a) (nI (p1 + 1)) (nI E) 0 0 aB aT se dn aG aO aN aD bv aY rn kd nu tv), (zaI aS cS 901 f1)]) hD hS hA [0, 1] rfl
            refine va_callv (va_runV (As := []) (rest := []) ⟨hx, hb, hml, hown, hts⟩ (c_factor0 l dC dI sK sV m0 aS aI aB aT aG aO aN aD aY th im (nI a) (nI (p1 + 1)) (nI E) 0 0 se dn rn kd nu tv bv cS f1 a (p1 + 1) E k1 (d + 1) H.size ((hI).mono (by omega) (by omega))) (cwV 0 hts gX12_every_X12_factor rfl rfl rfl hd_yX12_factor ⟨Nat.le_of_ble_eq_true rfl, Nat.le_of_ble_eq_true rfl⟩) ⟨fun a U g mk q => by obtain ⟨q0, q1, qP, qK, qD, qhE⟩ := q; exact ⟨q0, q1, qP, va_K.moved (u := U) (U := U.calling g mk a) (Vm.Alike.refl U.vm) qK, qD, qhE.same rfl rfl⟩, va_recv hK hP (ci := 14) (q := (RX12, TX12, 23)) (q0 := 0) rfl rfl, fun U hU hW => ⟨rfl, by rw [hU], by rw [hU]; exact hPc, va_K.moved hW.alike hKc, hDc.weaken (fun _ _ _ _ => trivial), hE.call hS hU hW (fun q h => hFc q h)⟩⟩ rfl rfl hl.1 rfl (lv_room (Nat.le_of_ble_eq_true rfl)) dX12_every_31 ⟨Nat.le_of_ble_eq_true rfl, Nat.le_of_ble_eq_true rfl⟩) hS (fun q _ h => hFc q h) hFc (fun u tC H1 locs htC hvm hw_48 hB hz1 hk1 hS => ?_)
            obtain ⟨fS9_49, sp9_50, wg9_51⟩ := u
            try dsimp only at hw_48 hB
            obtain ⟨hP1, hK1, hD1⟩ := hB
            rw [htC] at hP1
            have hK1 := va_K.moved hvm.symm hK1
            obtain ⟨hP, hD⟩ := va_join (wr := []) (w1 := [(zo14irriiiiiirriirrrrlriiii m0 th aS aI im (nI a) sp9_50 (nI E) wg9_51 0 aB aT se dn aG aO aN aD bv aY rn kd nu tv), (zaI aS cS 901 fS9_49)]) hP hD [0, 1] [] rfl rfl (by decide) (by decide) hk1 hFc hP1 hD1
            have hK := (hK.sub (tys' := []) [] rfl).app hK1
            generalize H1 = H at hP hS ⊢
            have hP : va_P (dC, dI) vwCl [(zo14irriiiiiirriirrrrlriiii m0 th aS aI im (nI a) sp9_50 (nI E) wg9_51 0 aB aT se dn aG aO aN aD bv aY rn kd nu tv), (zaI aS cS 901 fS9_49)] H := hP
            have hD : va_D A [(zo14irriiiiiirriirrrrlriiii m0 th aS aI im (nI a) sp9_50 (nI E) wg9_51 0 aB aT se dn aG aO aN aD bv aY rn kd nu tv), (zaI aS cS 901 fS9_49)] := hD
            have hK : va_K (dC, dI) vwCl [(cS, .int)] s := hK
            obtain ⟨p_52, k_53, rfl, h_55, h_56, hF_57, q9⟩ := hw_48
            rcases q9 with rfl | ⟨rfl, h_58, hI_59, h_60⟩
            · skip
              refine lv_aload_n hx hb dX12_every_34 rfl (lv_at hl 0 rfl) ?_
              refine lv_bipush (v := (-2)) hx hb dX12_every_35 (by decide) ?_
              have hPc := hP.sub (ws' := [(zo14irriiiiiirriirrrrlriiii m0 th aS aI im (nI a) (nI p_52) (nI E) 1 0 aB aT se dn aG aO aN aD bv aY rn kd nu tv)]) [0] rfl
              have hKc := hK.sub (tys' := []) [] rfl
              refine va_csv (va_runV (As := [.int (-2)]) (rest := []) ⟨hx, hb, hml, hown, hts⟩ (c_emitsW l dC dI m0 aS aI aB aT aG aO aN aD aY th im (nI a) (nI p_52) (nI E) 1 0 se dn rn kd nu tv bv (-2)) (cwV 1 hts gX12_every_X12_emits rfl rfl rfl hd_yX12_emits ⟨Nat.le_of_ble_eq_true rfl, Nat.le_of_ble_eq_true rfl⟩) ⟨fun a U g mk q => by obtain ⟨q0, qP, qK⟩ := q; exact ⟨q0, qP, va_K.moved (u := U) (U := U.calling g mk a) (Vm.Alike.refl U.vm) qK⟩, va_recv hK hP (ci := 14) (q := (RX12, TX12, 23)) (q0 := 0) rfl rfl, fun U hU hW => ⟨rfl, by rw [hU]; exact hPc, va_K.moved hW.alike hKc⟩⟩ rfl rfl hl.1 rfl (lv_room (Nat.le_of_ble_eq_true rfl)) dX12_every_37 ⟨Nat.le_of_ble_eq_true rfl, Nat.le_of_ble_eq_true rfl⟩).run (fun hw_62 => ?_)
              refine lv_goto (tgt := 4) hx hb dX12_every_40 (by decide) ?_
              exact ih4 (p_52) (k) (1) (fS9_49) (by omega) (by omega) ((hF).tr hF_57) (Or.inl rfl) _ _ (hK.sub [0] rfl) (hP.sub [0, 1] rfl) (hD.sub [0, 1] (by decide) rfl) hS ls (lv_sub hl [0] rfl)
            · skip
              have k5 := hI_59.2.2.2.2.1
              refine lv_aload_n hx hb dX12_every_34 rfl (lv_at hl 0 rfl) ?_
              refine lv_bipush (v := (-2)) hx hb dX12_every_35 (by decide) ?_
              have hPc := hP.sub (ws' := [(zo14irriiiiiirriirrrrlriiii m0 th aS aI im (nI a) (nI p_52) (nI E) 0 0 aB aT se dn aG aO aN aD bv aY rn kd nu tv), (zaI aS cS 901 fS9_49)]) [0, 1] rfl
              have hDc := hD.sub (ws' := [(zo14irriiiiiirriirrrrlriiii m0 th aS aI im (nI a) (nI p_52) (nI E) 0 0 aB aT se dn aG aO aN aD bv aY rn kd nu tv), (zaI aS cS 901 fS9_49)]) [0, 1] (by decide) rfl
              have hKc := hK.sub (tys' := [(cS, .int)]) [0] rfl
              have hFc := va_free (wc := [(zo14irriiiiiirriirrrrlriiii m0 th aS aI im (nI a) (nI p_52) (nI E) 0 0 aB aT se dn aG aO aN aD bv aY rn kd nu tv), (zaI aS cS 901 fS9_49)]) hD hS hA [0, 1] rfl
              refine va_callv (va_runV (As := [.int (-2)]) (rest := []) ⟨hx, hb, hml, hown, hts⟩ (c_emits l dC dI m0 aS aI aB aT aG aO aN aD aY th im (nI a) (nI p_52) (nI E) 0 0 se dn rn kd nu tv bv cS fS9_49 a k_53 (-2) H.size (ga) ((hI_59).2.2.2.1) (by have := (hI_59).2.2.2.2.1; omega)) (cwV 1 hts gX12_every_X12_emits rfl rfl rfl hd_yX12_emits ⟨Nat.le_of_ble_eq_true rfl, Nat.le_of_ble_eq_true rfl⟩) ⟨fun a U g mk q => by obtain ⟨q0, q1, qP, qK, qD⟩ := q; exact ⟨q0, q1, qP, va_K.moved (u := U) (U := U.calling g mk a) (Vm.Alike.refl U.vm) qK, qD⟩, va_recv hK hP (ci := 14) (q := (RX12, TX12, 23)) (q0 := 0) rfl rfl, fun U hU hW => ⟨rfl, by rw [hU], by rw [hU]; exact hPc, va_K.moved hW.alike hKc, hDc.weaken (fun _ _ _ _ => trivial)⟩⟩ rfl rfl hl.1 rfl (lv_room (Nat.le_of_ble_eq_true rfl)) dX12_every_37 ⟨Nat.le_of_ble_eq_true rfl, Nat.le_of_ble_eq_true rfl⟩) hS (fun q _ h => hFc q h) hFc (fun u tC H1 locs htC hvm hw_64 hB hz1 hk1 hS => ?_)
              obtain ⟨fS9_65, rfl⟩ : ∃ z, z = u := ⟨_, rfl⟩
              try dsimp only at hw_64 hB
              obtain ⟨hP1, hK1, hD1⟩ := hB
              rw [htC] at hP1
              have hK1 := va_K.moved hvm.symm hK1
              obtain ⟨hP, hD⟩ := va_join (wr := []) (w1 := [(zo14irriiiiiirriirrrrlriiii m0 th aS aI im (nI a) (nI p_52) (nI E) 0 0 aB aT se dn aG aO aN aD bv aY rn kd nu tv), (zaI aS cS 901 fS9_65)]) hP hD [0, 1] [] rfl rfl (by decide) (by decide) hk1 hFc hP1 hD1
              have hK := (hK.sub (tys' := []) [] rfl).app hK1
              generalize H1 = H at hP hS ⊢
              have hP : va_P (dC, dI) vwCl [(zo14irriiiiiirriirrrrlriiii m0 th aS aI im (nI a) (nI p_52) (nI E) 0 0 aB aT se dn aG aO aN aD bv aY rn kd nu tv), (zaI aS cS 901 fS9_65)] H := hP
              have hD : va_D A [(zo14irriiiiiirriirrrrlriiii m0 th aS aI im (nI a) (nI p_52) (nI E) 0 0 aB aT se dn aG aO aN aD bv aY rn kd nu tv), (zaI aS cS 901 fS9_65)] := hD
              have hK : va_K (dC, dI) vwCl [(cS, .int)] s := hK
              obtain rfl : fS9_65 = emt fS9_49 a k_53 (-2) := by rcases hw_64 with ⟨q, _⟩ | ⟨_, q⟩; exact absurd rfl q; exact q
              have hI_67 : PI (emt fS9_49 a k_53 (-2)) a (k_53 + 1) (((d + 1) + 1) - 1) p_52 E := ((hI_59).mono (by omega) (by omega)).em (by omega) (by omega) (stepd_both (by omega))
              have hF_68 : PF a fS (emt fS9_49 a k_53 (-2)) := ((hF).tr hF_57).tr (PF_emt (k := k_53) (x := (-2)) ga (by have := (hI_59).2.2.2.2.1; omega))
              refine lv_goto (tgt := 4) hx hb dX12_every_40 (by decide) ?_
              exact ih4 (p_52) ((k_53 + 1)) (0) (emt fS9_49 a k_53 (-2)) (by omega) (by omega) (hF_68) (Or.inr ⟨rfl, by omega, hI_67, by omega⟩) _ _ (hK.sub [0] rfl) (hP.sub [0, 1] rfl) (hD.sub [0, 1] (by decide) rfl) hS ls (lv_sub hl [0] rfl)
    exact L4 _ (p_6) (k_7) (0) (fS9_3) (Nat.lt_succ_self _) (by omega) ((PF.rf).tr hF_11) (Or.inr ⟨rfl, by omega, hI_13, by omega⟩) _ _ (hK.sub [0] rfl) (hP.sub [0, 1] rfl) (hD.sub [0, 1] (by decide) rfl) hS ls (lv_sub hl [0] rfl)

theorem kc_some0_0 : ∀ w ∈ wsX120, w ∈ wsX12_some := fun w h => List.mem_cons_of_mem _ (gin_wsX120 w h)
theorem kc_some0_1 : (.fieldLink RX12 65 "MistHeapsModel" "isWrong" "Z" : Cond) ∈ wsX12_some := kc_of 1147 rfl rfl rfl
theorem kc_some0_2 : (.fieldLink RX12 59 "MistHeapsModel" "spot" "I" : Cond) ∈ wsX12_some := kc_of 1145 rfl rfl rfl
set_option maxHeartbeats 4000000 in
set_option maxRecDepth 100000 in
theorem c_some0 (l : Launch) (dC : Nat → ClassId) (dI : Nat → Nat → Nat) (sK sV : Nat → Nat) (m0 aS aI aB aT aG aO aN aD aY : Nat) (th im ac sp en wg op se dn rn kd nu tv : Int32) (bv : Int64) (cS : ClassId) (fS : Nat → Int32) (a p0 E k d : Nat) (sz : Nat) (gI : PI fS a k d p0 E) : Met l yX12_some wsX12_some ({ frames := 22, cells := 0, slots := 0, locals := 471 } : Room) (va_Pc [.ref m0] (fun U => U.heap.size = sz ∧ va_P (dC, dI) vwCl [(zo14irriiiiiirriirrrrlriiii m0 th aS aI im (nI a) (nI p0) (nI E) 0 0 aB aT se dn aG aO aN aD bv aY rn kd nu tv), (zaI aS cS 901 fS)] U.heap ∧ va_K (dC, dI) vwCl [(cS, .int)] U ∧ va_D (fun _ => True) [(zo14irriiiiiirriirrrrlriiii m0 th aS aI im (nI a) (nI p0) (nI E) 0 0 aB aT se dn aG aO aN aD bv aY rn kd nu tv), (zaI aS cS 901 fS)] ∧ Gs sK sV (va_A [(zo14irriiiiiirriirrrrlriiii m0 th aS aI im (nI a) (nI p0) (nI E) 0 0 aB aT se dn aG aO aN aD bv aY rn kd nu tv), (zaI aS cS 901 fS)] sz) U)) (va_Qv (fun (u : (Nat → Int32) × (Int32) × (Int32)) => match u with | (fS9, sp9, wg9) => ∃ p9 k9 : Nat, sp9 = nI p9 ∧ p0 ≤ p9 ∧ p9 ≤ E ∧ PF a fS fS9 ∧ (wg9 = 1 ∨ (wg9 = 0 ∧ p0 + 3 ≤ p9 ∧ PI fS9 a k9 (d + 1) p9 E ∧ k9 + p0 ≤ k + p9))) (fun (u : (Nat → Int32) × (Int32) × (Int32)) (t : State) => match u with | (fS9, sp9, wg9) => va_P (dC, dI) vwCl [(zo14irriiiiiirriirrrrlriiii m0 th aS aI im (nI a) sp9 (nI E) wg9 0 aB aT se dn aG aO aN aD bv aY rn kd nu tv), (zaI aS cS 901 fS9)] t.heap ∧ va_K (dC, dI) vwCl [(cS, .int)] t ∧ va_D (va_A [(zo14irriiiiiirriirrrrlriiii m0 th aS aI im (nI a) (nI p0) (nI E) 0 0 aB aT se dn aG aO aN aD bv aY rn kd nu tv), (zaI aS cS 901 fS)] sz) [(zo14irriiiiiirriirrrrlriiii m0 th aS aI im (nI a) sp9 (nI E) wg9 0 aB aT se dn aG aO aN aD bv aY rn kd nu tv), (zaI aS cS 901 fS9)]) (va_A [(zo14irriiiiiirriirrrrlriiii m0 th aS aI im (nI a) (nI p0) (nI E) 0 0 aB aT se dn aG aO aN aD bv aY rn kd nu tv), (zaI aS cS 901 fS)] sz)) 0 0 (va_A [(zo14irriiiiiirriirrrrlriiii m0 th aS aI im (nI a) (nI p0) (nI E) 0 0 aB aT se dn aG aO aN aD bv aY rn kd nu tv), (zaI aS cS 901 fS)] sz) := by
  refine met_ofQ (cc := cX12_some) (maxL := 1) (ret := none) (by decide) rfl ?_
  intro p e s m args below meth c s₁ Q B hml hv hQ
  obtain ⟨rfl, hsz, hP, hK, hD0, hE⟩ := hv
  have hx := B.exec
  have hb := B.bytes
  have hr := B.returns
  have hts := atoms_spec (ws := wsX12_some) B.pre
  have hown : s.vm.findClass RX12 = some m.cls := findClass_of_methodNamed B.named
  have hlocks := B.notSynchronized
  subst hsz
  have hD := hD0.self (sz := s.heap.size)
  generalize hAe : va_A [(zo14irriiiiiirriirrrrlriiii m0 th aS aI im (nI a) (nI p0) (nI E) 0 0 aB aT se dn aG aO aN aD bv aY rn kd nu tv), (zaI aS cS 901 fS)] s.heap.size = A at hD hQ hE ⊢
  have hA : ∀ q : Nat, s.heap.size ≤ q → A q := fun q h => by rw [← hAe]; exact Or.inr h
  have hS : va_S A s.heap s.heap [] := va_S.rf
  have hl := lv_entry [.ref m0] (n := 1) (Nat.le_of_ble_eq_true rfl)
  rw [lg_entry_eq]
  generalize (lg_sl [.ref m0] ++ List.replicate (1 - (lg_sl [.ref m0]).length) Slot.unset).toArray = ls at hl ⊢
  generalize hag : ([.ref m0] : List Value).toArray = args at hts hQ ⊢
  have hl : lv_has ls 1 [(0, .ref m0)] := hl
  obtain ⟨H, hH⟩ : ∃ H : Heap, H = s.heap := ⟨_, rfl⟩
  rw [← hH] at hP
  rw [← hH]
  have hS : va_S A s.heap H [] := by rw [hH]; exact hS
  obtain ⟨locs, hlo⟩ : ∃ L : List Loc, L = [] := ⟨_, rfl⟩
  rw [← hlo] at hS
  rw [← hlo]
  clear hH hlo
  obtain ⟨ga, gp, gE, zk, gkp, gd, gs⟩ := id gI
  refine lv_aload_n hx hb dX12_some_0 rfl (lv_at hl 0 rfl) ?_
  have hPc := hP.sub (ws' := [(zo14irriiiiiirriirrrrlriiii m0 th aS aI im (nI a) (nI p0) (nI E) 0 0 aB aT se dn aG aO aN aD bv aY rn kd nu tv), (zaI aS cS 901 fS)]) [0, 1] rfl
  have hDc := hD.sub (ws' := [(zo14irriiiiiirriirrrrlriiii m0 th aS aI im (nI a) (nI p0) (nI E) 0 0 aB aT se dn aG aO aN aD bv aY rn kd nu tv), (zaI aS cS 901 fS)]) [0, 1] (by decide) rfl
  have hKc := hK.sub (tys' := [(cS, .int)]) [0] rfl
  have hFc := va_free (wc := [(zo14irriiiiiirriirrrrlriiii m0 th aS aI im (nI a) (nI p0) (nI E) 0 0 aB aT se dn aG aO aN aD bv aY rn kd nu tv), (zaI aS cS 901 fS)]) hD hS hA [0, 1] rfl
  refine va_callv (va_runV (As := []) (rest := []) ⟨hx, hb, hml, hown, hts⟩ (c_every0 l dC dI sK sV m0 aS aI aB aT aG aO aN aD aY th im (nI a) (nI p0) (nI E) 0 0 se dn rn kd nu tv bv cS fS a p0 E k d H.size ((gI).mono (by omega) (by omega))) (cwV 0 hts gX12_some_X12_every rfl rfl rfl hd_yX12_every ⟨Nat.le_of_ble_eq_true rfl, Nat.le_of_ble_eq_true rfl⟩) ⟨fun a U g mk q => by obtain ⟨q0, q1, qP, qK, qD, qhE⟩ := q; exact ⟨q0, q1, qP, va_K.moved (u := U) (U := U.calling g mk a) (Vm.Alike.refl U.vm) qK, qD, qhE.same rfl rfl⟩, va_recv hK hP (ci := 14) (q := (RX12, TX12, 23)) (q0 := 0) rfl rfl, fun U hU hW => ⟨rfl, by rw [hU], by rw [hU]; exact hPc, va_K.moved hW.alike hKc, hDc.weaken (fun _ _ _ _ => trivial), hE.call hS hU hW (fun q h => hFc q h)⟩⟩ rfl rfl hl.1 rfl (lv_room (Nat.le_of_ble_eq_true rfl)) dX12_some_1 ⟨Nat.le_of_ble_eq_true rfl, Nat.le_of_ble_eq_true rfl⟩) hS (fun q _ h => hFc q h) hFc (fun u tC H1 locs htC hvm hw_2 hB hz1 hk1 hS => ?_)
  obtain ⟨fS9_3, sp9_4, wg9_5⟩ := u
  try dsimp only at hw_2 hB
  obtain ⟨hP1, hK1, hD1⟩ := hB
  rw [htC] at hP1
  have hK1 := va_K.moved hvm.symm hK1
  obtain ⟨hP, hD⟩ := va_join (wr := []) (w1 := [(zo14irriiiiiirriirrrrlriiii m0 th aS aI im (nI a) sp9_4 (nI E) wg9_5 0 aB aT se dn aG aO aN aD bv aY rn kd nu tv), (zaI aS cS 901 fS9_3)]) hP hD [0, 1] [] rfl rfl (by decide) (by decide) hk1 hFc hP1 hD1
  have hK := (hK.sub (tys' := []) [] rfl).app hK1
  generalize H1 = H at hP hS ⊢
  have hP : va_P (dC, dI) vwCl [(zo14irriiiiiirriirrrrlriiii m0 th aS aI im (nI a) sp9_4 (nI E) wg9_5 0 aB aT se dn aG aO aN aD bv aY rn kd nu tv), (zaI aS cS 901 fS9_3)] H := hP
  have hD : va_D A [(zo14irriiiiiirriirrrrlriiii m0 th aS aI im (nI a) sp9_4 (nI E) wg9_5 0 aB aT se dn aG aO aN aD bv aY rn kd nu tv), (zaI aS cS 901 fS9_3)] := hD
  have hK : va_K (dC, dI) vwCl [(cS, .int)] s := hK
  obtain ⟨p_6, k_7, rfl, h_9, h_10, hF_11, q9⟩ := hw_2
  rcases q9 with rfl | ⟨rfl, h_12, hI_13, h_14⟩
  · skip
    have L4 : ∀ (nF : Nat) (p1 : Nat) (k1 : Nat) (w1 : Int32) (f1 : Nat → Int32), E - p1 < nF → (p0 ≤ p1 ∧ p1 ≤ E) → (PF a fS f1) → (w1 = 1 ∨ (w1 = 0 ∧ p0 + 3 ≤ p1 ∧ PI f1 a k1 (d + 1) p1 E ∧ k1 + p0 ≤ k + p1)) → ∀ (H : Heap) (locs : List Loc), va_K (dC, dI) vwCl [(cS, .int)] s → va_P (dC, dI) vwCl [(zo14irriiiiiirriirrrrlriiii m0 th aS aI im (nI a) (nI p1) (nI E) w1 0 aB aT se dn aG aO aN aD bv aY rn kd nu tv), (zaI aS cS 901 f1)] H → va_D A [(zo14irriiiiiirriirrrrlriiii m0 th aS aI im (nI a) (nI p1) (nI E) w1 0 aB aT se dn aG aO aN aD bv aY rn kd nu tv), (zaI aS cS 901 f1)] → va_S A s.heap H locs → ∀ (ls : Array Slot), lv_has ls 1 [(0, .ref m0)] → W p l e ({ frames := 22, cells := 0, slots := 0, locals := 471 } : Room) s m args below meth c H locs 0 0 Q (F0 m 4 ls []) := by
      intro nF
      induction nF with
      | zero => intro p1 k1 w1 f1 hm; exact absurd hm (Nat.not_lt_zero _)
      | succ nF ih4 =>
        intro p1 k1 w1 f1 hm h1 hF hw1 H locs hK hP hD hS ls hl
        obtain ⟨h1a, h1b⟩ := h1
        rcases hw1 with rfl | ⟨rfl, h3, hI, h4⟩
        · skip
          refine lv_aload_n hx hb dX12_some_4 rfl (lv_at hl 0 rfl) ?_
          refine va_get (D := (dC, dI)) (ci := 14) (v := .int 1) (C := RX12) (T := TX12) (N := 23) hx hb hts kc_some0_0 hown hK hP 0 rfl rfl 7 (by decide) (hts (.fieldLink RX12 65 "MistHeapsModel" "isWrong" "Z") kc_some0_1) (fun _ h9 => h9) rfl dX12_some_5 ?_
          refine lv_if_ne (tgt := 43) hx hb dX12_some_8 (by decide) (fun _ => ?_) (fun c_15 => absurd c_15 (by decide))
          rw [hQ]
          have hP9 := hP.sub (ws' := [(zo14irriiiiiirriirrrrlriiii m0 th aS aI im (nI a) (nI p1) (nI E) 1 0 aB aT se dn aG aO aN aD bv aY rn kd nu tv), (zaI aS cS 901 f1)]) [0, 1] rfl
          have hD9 := hD.sub (ws' := [(zo14irriiiiiirriirrrrlriiii m0 th aS aI im (nI a) (nI p1) (nI E) 1 0 aB aT se dn aG aO aN aD bv aY rn kd nu tv), (zaI aS cS 901 f1)]) [0, 1] (by decide) rfl
          have hK9 := hK.sub (tys' := [(cS, .int)]) [0] rfl
          exact W.vret hx hb hr (fun tQ htQ hWQ => ⟨⟨(f1, (nI p1), 1), rfl, ⟨p1, k, rfl, by omega, by omega, hF, Or.inl rfl⟩, by rw [htQ]; exact hP9, va_K.moved hWQ.alike hK9, hD9⟩, hS.F htQ⟩) hS.2.2 dX12_some_43
        · skip
          have k5 := hI.2.2.2.2.1
          refine lv_aload_n hx hb dX12_some_4 rfl (lv_at hl 0 rfl) ?_
          refine va_get (D := (dC, dI)) (ci := 14) (v := .int 0) (C := RX12) (T := TX12) (N := 23) hx hb hts kc_some0_0 hown hK hP 0 rfl rfl 7 (by decide) (hts (.fieldLink RX12 65 "MistHeapsModel" "isWrong" "Z") kc_some0_1) (fun _ h9 => h9) rfl dX12_some_5 ?_
          refine lv_if_ne (tgt := 43) hx hb dX12_some_8 (by decide) (fun c_16 => absurd c_16 (by decide)) (fun _ => ?_)
          refine lv_aload_n hx hb dX12_some_11 rfl (lv_at hl 0 rfl) ?_
          have hPc := hP.sub (ws' := [(zo14irriiiiiirriirrrrlriiii m0 th aS aI im (nI a) (nI p1) (nI E) 0 0 aB aT se dn aG aO aN aD bv aY rn kd nu tv), (zaI aS cS 901 f1)]) [0, 1] rfl
          have hKc := hK.sub (tys' := [(cS, .int)]) [0] rfl
          refine vp_callSi (va_runV (As := []) (rest := []) ⟨hx, hb, hml, hown, hts⟩ (c_here l dC dI m0 aS aI aB aT aG aO aN aD aY th im (nI a) (nI p1) (nI E) 0 0 se dn rn kd nu tv bv cS f1 a p1 E (by omega) (by omega) (by omega)) (cwV 0 hts gX12_some_X12_here rfl rfl rfl hd_yX12_here ⟨Nat.le_of_ble_eq_true rfl, Nat.le_of_ble_eq_true rfl⟩) ⟨fun a U g mk q => by obtain ⟨q0, qP, qK⟩ := q; exact ⟨q0, qP, va_K.moved (u := U) (U := U.calling g mk a) (Vm.Alike.refl U.vm) qK⟩, va_recv hK hP (ci := 14) (q := (RX12, TX12, 23)) (q0 := 0) rfl rfl, fun U hU hW => ⟨rfl, by rw [hU]; exact hPc, va_K.moved hW.alike hKc⟩⟩ rfl rfl hl.1 rfl (lv_room (Nat.le_of_ble_eq_true rfl)) dX12_some_12 ⟨Nat.le_of_ble_eq_true rfl, Nat.le_of_ble_eq_true rfl⟩).run (fun r_17 hw_18 => ?_)
          refine lv_bipush (v := 124) hx hb dX12_some_15 (by decide) ?_
          refine lv_icmp_ne (tgt := 43) hx hb dX12_some_17 (by decide) (fun c_19 => ?_) (fun c_19 => ?_)
          · skip
            rw [hQ]
            have hP9 := hP.sub (ws' := [(zo14irriiiiiirriirrrrlriiii m0 th aS aI im (nI a) (nI p1) (nI E) 0 0 aB aT se dn aG aO aN aD bv aY rn kd nu tv), (zaI aS cS 901 f1)]) [0, 1] rfl
            have hD9 := hD.sub (ws' := [(zo14irriiiiiirriirrrrlriiii m0 th aS aI im (nI a) (nI p1) (nI E) 0 0 aB aT se dn aG aO aN aD bv aY rn kd nu tv), (zaI aS cS 901 f1)]) [0, 1] (by decide) rfl
            have hK9 := hK.sub (tys' := [(cS, .int)]) [0] rfl
            exact W.vret hx hb hr (fun tQ htQ hWQ => ⟨⟨(f1, (nI p1), 0), rfl, ⟨p1, k1, rfl, by omega, by omega, hF, Or.inr ⟨rfl, by omega, hI, by omega⟩⟩, by rw [htQ]; exact hP9, va_K.moved hWQ.alike hK9, hD9⟩, hS.F htQ⟩) hS.2.2 dX12_some_43
          · skip
            have hlt : p1 < E := hv_lt (f := f1) (by rw [← hw_18, c_19]; decide)
            refine lv_aload_n hx hb dX12_some_20 rfl (lv_at hl 0 rfl) ?_
            refine lv_dup hx hb dX12_some_21 rfl ?_
            refine va_get (D := (dC, dI)) (ci := 14) (v := .int (nI p1)) (C := RX12) (T := TX12) (N := 23) hx hb hts kc_some0_0 hown hK hP 0 rfl rfl 5 (by decide) (hts (.fieldLink RX12 59 "MistHeapsModel" "spot" "I") kc_some0_2) (fun _ h9 => h9) rfl dX12_some_22 ?_
            refine lv_iconst (v := 1) hx hb dX12_some_25 (by decide) ?_
            refine lv_iadd hx hb dX12_some_26 ?_
            refine qi_as (y := nI (p1 + 1)) (nI_add p1 1) ?_
            refine va_put (D := (dC, dI)) (ci := 14) (v := .int (nI (p1 + 1))) (ty := .int) (C := RX12) (T := TX12) (N := 23) hx hb hts kc_some0_0 tyX12 tyX12_ok nmX12 hown hK hP hD hS 0 rfl rfl 5 (by decide) (hts (.fieldLink RX12 59 "MistHeapsModel" "spot" "I") kc_some0_2) (fun _ h9 => h9) rfl (by decide +kernel) rfl rfl (Nat.le_of_ble_eq_true rfl) dX12_some_27 (fun H locs hP hD hS => ?_)
            have hP : va_P (dC, dI) vwCl [(zo14irriiiiiirriirrrrlriiii m0 th aS aI im (nI a) (nI (p1 + 1)) (nI E) 0 0 aB aT se dn aG aO aN aD bv aY rn kd nu tv), (zaI aS cS 901 f1)] H := hP
            have hD : va_D A [(zo14irriiiiiirriirrrrlriiii m0 th aS aI im (nI a) (nI (p1 + 1)) (nI E) 0 0 aB aT se dn aG aO aN aD bv aY rn kd nu tv), (zaI aS cS 901 f1)] := hD
            refine lv_aload_n hx hb dX12_some_30 rfl (lv_at hl 0 rfl) ?_
            have hPc := hP.sub (ws' := [(zo14irriiiiiirriirrrrlriiii m0 th aS aI im (nI a) (nI (p1 + 1)) (nI E) 0 0 aB aT se dn aG aO aN aD bv aY rn kd nu tv), (zaI aS cS 901 f1)]) [0, 1] rfl
            have hDc := hD.sub (ws' := [(zo14irriiiiiirriirrrrlriiii m0 th aS aI im (nI a) (nI (p1 + 1)) (nI E) 0 0 aB aT se dn aG aO aN aD bv aY rn kd nu tv), (zaI aS cS 901 f1)]) [0, 1] (by decide) rfl
            have hKc := hK.sub (tys' := [(cS, .int)]) [0] rfl
            have hFc := va_free (wc := [(zo14irriiiiiirriirrrrlriiii m0 th aS aI im (nI a) (nI (p1 + 1)) (nI E) 0 0 aB aT se dn aG aO aN aD bv aY rn kd nu tv), (zaI aS cS 901 f1)]) hD hS hA [0, 1] rfl
            refine va_callv (va_runV (As := []) (rest := []) ⟨hx, hb, hml, hown, hts⟩ (c_every0 l dC dI sK sV m0 aS aI aB aT aG aO aN aD aY th im (nI a) (nI (p1 + 1)) (nI E) 0 0 se dn rn kd nu tv bv cS f1 a (p1 + 1) E k1 (d + 1) H.size ((hI).mono (by omega) (by omega))) (cwV 0 hts gX12_some_X12_every rfl rfl rfl hd_yX12_every ⟨Nat.le_of_ble_eq_true rfl, Nat.le_of_ble_eq_true rfl⟩) ⟨fun a U g mk q => by obtain ⟨q0, q1, qP, qK, qD, qhE⟩ := q; exact ⟨q0, q1, qP, va_K.moved (u := U) (U := U.calling g mk a) (Vm.Alike.refl U.vm) qK, qD, qhE.same rfl rfl⟩, va_recv hK hP (ci := 14) (q := (RX12, TX12, 23)) (q0 := 0) rfl rfl, fun U hU hW => ⟨rfl, by rw [hU], by rw [hU]; exact hPc, va_K.moved hW.alike hKc, hDc.weaken (fun _ _ _ _ => trivial), hE.call hS hU hW (fun q h => hFc q h)⟩⟩ rfl rfl hl.1 rfl (lv_room (Nat.le_of_ble_eq_true rfl)) dX12_some_31 ⟨Nat.le_of_ble_eq_true rfl, Nat.le_of_ble_eq_true rfl⟩) hS (fun q _ h => hFc q h) hFc (fun u tC H1 locs htC hvm hw_21 hB hz1 hk1 hS => ?_)
            obtain ⟨fS9_22, sp9_23, wg9_24⟩ := u
            try dsimp only at hw_21 hB
            obtain ⟨hP1, hK1, hD1⟩ := hB
            rw [htC] at hP1
            have hK1 := va_K.moved hvm.symm hK1
            obtain ⟨hP, hD⟩ := va_join (wr := []) (w1 := [(zo14irriiiiiirriirrrrlriiii m0 th aS aI im (nI a) sp9_23 (nI E) wg9_24 0 aB aT se dn aG aO aN aD bv aY rn kd nu tv), (zaI aS cS 901 fS9_22)]) hP hD [0, 1] [] rfl rfl (by decide) (by decide) hk1 hFc hP1 hD1
            have hK := (hK.sub (tys' := []) [] rfl).app hK1
            generalize H1 = H at hP hS ⊢
            have hP : va_P (dC, dI) vwCl [(zo14irriiiiiirriirrrrlriiii m0 th aS aI im (nI a) sp9_23 (nI E) wg9_24 0 aB aT se dn aG aO aN aD bv aY rn kd nu tv), (zaI aS cS 901 fS9_22)] H := hP
            have hD : va_D A [(zo14irriiiiiirriirrrrlriiii m0 th aS aI im (nI a) sp9_23 (nI E) wg9_24 0 aB aT se dn aG aO aN aD bv aY rn kd nu tv), (zaI aS cS 901 fS9_22)] := hD
            have hK : va_K (dC, dI) vwCl [(cS, .int)] s := hK
            obtain ⟨p_25, k_26, rfl, h_28, h_29, hF_30, q9⟩ := hw_21
            rcases q9 with rfl | ⟨rfl, h_31, hI_32, h_33⟩
            · skip
              refine lv_aload_n hx hb dX12_some_34 rfl (lv_at hl 0 rfl) ?_
              refine lv_bipush (v := (-3)) hx hb dX12_some_35 (by decide) ?_
              have hPc := hP.sub (ws' := [(zo14irriiiiiirriirrrrlriiii m0 th aS aI im (nI a) (nI p_25) (nI E) 1 0 aB aT se dn aG aO aN aD bv aY rn kd nu tv)]) [0] rfl
              have hKc := hK.sub (tys' := []) [] rfl
              refine va_csv (va_runV (As := [.int (-3)]) (rest := []) ⟨hx, hb, hml, hown, hts⟩ (c_emitsW l dC dI m0 aS aI aB aT aG aO aN aD aY th im (nI a) (nI p_25) (nI E) 1 0 se dn rn kd nu tv bv (-3)) (cwV 1 hts gX12_some_X12_emits rfl rfl rfl hd_yX12_emits ⟨Nat.le_of_ble_eq_true rfl, Nat.le_of_ble_eq_true rfl⟩) ⟨fun a U g mk q => by obtain ⟨q0, qP, qK⟩ := q; exact ⟨q0, qP, va_K.moved (u := U) (U := U.calling g mk a) (Vm.Alike.refl U.vm) qK⟩, va_recv hK hP (ci := 14) (q := (RX12, TX12, 23)) (q0 := 0) rfl rfl, fun U hU hW => ⟨rfl, by rw [hU]; exact hPc, va_K.moved hW.alike hKc⟩⟩ rfl rfl hl.1 rfl (lv_room (Nat.le_of_ble_eq_true rfl)) dX12_some_37 ⟨Nat.le_of_ble_eq_true rfl, Nat.le_of_ble_eq_true rfl⟩).run (fun hw_35 => ?_)
              refine lv_goto (tgt := 4) hx hb dX12_some_40 (by decide) ?_
              exact ih4 (p_25) (k) (1) (fS9_22) (by omega) (by omega) ((hF).tr hF_30) (Or.inl rfl) _ _ (hK.sub [0] rfl) (hP.sub [0, 1] rfl) (hD.sub [0, 1] (by decide) rfl) hS ls (lv_sub hl [0] rfl)
            · skip
              have k5 := hI_32.2.2.2.2.1
              refine lv_aload_n hx hb dX12_some_34 rfl (lv_at hl 0 rfl) ?_
              refine lv_bipush (v := (-3)) hx hb dX12_some_35 (by decide) ?_
              have hPc := hP.sub (ws' := [(zo14irriiiiiirriirrrrlriiii m0 th aS aI im (nI a) (nI p_25) (nI E) 0 0 aB aT se dn aG aO aN aD bv aY rn kd nu tv), (zaI aS cS 901 fS9_22)]) [0, 1] rfl
              have hDc := hD.sub (ws' := [(zo14irriiiiiirriirrrrlriiii m0 th aS aI im (nI a) (nI p_25) (nI E) 0 0 aB aT se dn aG aO aN aD bv aY rn kd nu tv), (zaI aS cS 901 fS9_22)]) [0, 1] (by decide) rfl
              have hKc := hK.sub (tys' := [(cS, .int)]) [0] rfl
              have hFc := va_free (wc := [(zo14irriiiiiirriirrrrlriiii m0 th aS aI im (nI a) (nI p_25) (nI E) 0 0 aB aT se dn aG aO aN aD bv aY rn kd nu tv), (zaI aS cS 901 fS9_22)]) hD hS hA [0, 1] rfl
              refine va_callv (va_runV (As := [.int (-3)]) (rest := []) ⟨hx, hb, hml, hown, hts⟩ (c_emits l dC dI m0 aS aI aB aT aG aO aN aD aY th im (nI a) (nI p_25) (nI E) 0 0 se dn rn kd nu tv bv cS fS9_22 a k_26 (-3) H.size (ga) ((hI_32).2.2.2.1) (by have := (hI_32).2.2.2.2.1; omega)) (cwV 1 hts gX12_some_X12_emits rfl rfl rfl hd_yX12_emits ⟨Nat.le_of_ble_eq_true rfl, Nat.le_of_ble_eq_true rfl⟩) ⟨fun a U g mk q => by obtain ⟨q0, q1, qP, qK, qD⟩ := q; exact ⟨q0, q1, qP, va_K.moved (u := U) (U := U.calling g mk a) (Vm.Alike.refl U.vm) qK, qD⟩, va_recv hK hP (ci := 14) (q := (RX12, TX12, 23)) (q0 := 0) rfl rfl, fun U hU hW => ⟨rfl, by rw [hU], by rw [hU]; exact hPc, va_K.moved hW.alike hKc, hDc.weaken (fun _ _ _ _ => trivial)⟩⟩ rfl rfl hl.1 rfl (lv_room (Nat.le_of_ble_eq_true rfl)) dX12_some_37 ⟨Nat.le_of_ble_eq_true rfl, Nat.le_of_ble_eq_true rfl⟩) hS (fun q _ h => hFc q h) hFc (fun u tC H1 locs htC hvm hw_37 hB hz1 hk1 hS => ?_)
              obtain ⟨fS9_38, rfl⟩ : ∃ z, z = u := ⟨_, rfl⟩
              try dsimp only at hw_37 hB
              obtain ⟨hP1, hK1, hD1⟩ := hB
              rw [htC] at hP1
              have hK1 := va_K.moved hvm.symm hK1
              obtain ⟨hP, hD⟩ := va_join (wr := []) (w1 := [(zo14irriiiiiirriirrrrlriiii m0 th aS aI im (nI a) (nI p_25) (nI E) 0 0 aB aT se dn aG aO aN aD bv aY rn kd nu tv), (zaI aS cS 901 fS9_38)]) hP hD [0, 1] [] rfl rfl (by decide) (by decide) hk1 hFc hP1 hD1
              have hK := (hK.sub (tys' := []) [] rfl).app hK1
              generalize H1 = H at hP hS ⊢
              have hP : va_P (dC, dI) vwCl [(zo14irriiiiiirriirrrrlriiii m0 th aS aI im (nI a) (nI p_25) (nI E) 0 0 aB aT se dn aG aO aN aD bv aY rn kd nu tv), (zaI aS cS 901 fS9_38)] H := hP
              have hD : va_D A [(zo14irriiiiiirriirrrrlriiii m0 th aS aI im (nI a) (nI p_25) (nI E) 0 0 aB aT se dn aG aO aN aD bv aY rn kd nu tv), (zaI aS cS 901 fS9_38)] := hD
              have hK : va_K (dC, dI) vwCl [(cS, .int)] s := hK
              obtain rfl : fS9_38 = emt fS9_22 a k_26 (-3) := by rcases hw_37 with ⟨q, _⟩ | ⟨_, q⟩; exact absurd rfl q; exact q
              have hI_40 : PI (emt fS9_22 a k_26 (-3)) a (k_26 + 1) (((d + 1) + 1) - 1) p_25 E := ((hI_32).mono (by omega) (by omega)).em (by omega) (by omega) (stepd_either (by omega))
              have hF_41 : PF a fS (emt fS9_22 a k_26 (-3)) := ((hF).tr hF_30).tr (PF_emt (k := k_26) (x := (-3)) ga (by have := (hI_32).2.2.2.2.1; omega))
              refine lv_goto (tgt := 4) hx hb dX12_some_40 (by decide) ?_
              exact ih4 (p_25) ((k_26 + 1)) (0) (emt fS9_22 a k_26 (-3)) (by omega) (by omega) (hF_41) (Or.inr ⟨rfl, by omega, hI_40, by omega⟩) _ _ (hK.sub [0] rfl) (hP.sub [0, 1] rfl) (hD.sub [0, 1] (by decide) rfl) hS ls (lv_sub hl [0] rfl)
    exact L4 _ (p_6) (k) (1) (fS9_3) (Nat.lt_succ_self _) (by omega) ((PF.rf).tr hF_11) (Or.inl rfl) _ _ (hK.sub [0] rfl) (hP.sub [0, 1] rfl) (hD.sub [0, 1] (by decide) rfl) hS ls (lv_sub hl [0] rfl)
  · skip
    have k5 := hI_13.2.2.2.2.1
    have L4 : ∀ (nF : Nat) (p1 : Nat) (k1 : Nat) (w1 : Int32) (f1 : Nat → Int32), E - p1 < nF → (p0 ≤ p1 ∧ p1 ≤ E) → (PF a fS f1) → (w1 = 1 ∨ (w1 = 0 ∧ p0 + 3 ≤ p1 ∧ PI f1 a k1 (d + 1) p1 E ∧ k1 + p0 ≤ k + p1)) → ∀ (H : Heap) (locs : List Loc), va_K (dC, dI) vwCl [(cS, .int)] s → va_P (dC, dI) vwCl [(zo14irriiiiiirriirrrrlriiii m0 th aS aI im (nI a) (nI p1) (nI E) w1 0 aB aT se dn aG aO aN aD bv aY rn kd nu tv), (zaI aS cS 901 f1)] H → va_D A [(zo14irriiiiiirriirrrrlriiii m0 th aS aI im (nI a) (nI p1) (nI E) w1 0 aB aT se dn aG aO aN aD bv aY rn kd nu tv), (zaI aS cS 901 f1)] → va_S A s.heap H locs → ∀ (ls : Array Slot), lv_has ls 1 [(0, .ref m0)] → W p l e ({ frames := 22, cells := 0, slots := 0, locals := 471 } : Room) s m args below meth c H locs 0 0 Q (F0 m 4 ls []) := by
      intro nF
      induction nF with
      | zero => intro p1 k1 w1 f1 hm; exact absurd hm (Nat.not_lt_zero _)
      | succ nF ih4 =>
        intro p1 k1 w1 f1 hm h1 hF hw1 H locs hK hP hD hS ls hl
        obtain ⟨h1a, h1b⟩ := h1
        rcases hw1 with rfl | ⟨rfl, h3, hI, h4⟩
        · skip
          refine lv_aload_n hx hb dX12_some_4 rfl (lv_at hl 0 rfl) ?_
          refine va_get (D := (dC, dI)) (ci := 14) (v := .int 1) (C := RX12) (T := TX12) (N := 23) hx hb hts kc_some0_0 hown hK hP 0 rfl rfl 7 (by decide) (hts (.fieldLink RX12 65 "MistHeapsModel" "isWrong" "Z") kc_some0_1) (fun _ h9 => h9) rfl dX12_some_5 ?_
          refine lv_if_ne (tgt := 43) hx hb dX12_some_8 (by decide) (fun _ => ?_) (fun c_42 => absurd c_42 (by decide))
          rw [hQ]
          have hP9 := hP.sub (ws' := [(zo14irriiiiiirriirrrrlriiii m0 th aS aI im (nI a) (nI p1) (nI E) 1 0 aB aT se dn aG aO aN aD bv aY rn kd nu tv), (zaI aS cS 901 f1)]) [0, 1] rfl
          have hD9 := hD.sub (ws' := [(zo14irriiiiiirriirrrrlriiii m0 th aS aI im (nI a) (nI p1) (nI E) 1 0 aB aT se dn aG aO aN aD bv aY rn kd nu tv), (zaI aS cS 901 f1)]) [0, 1] (by decide) rfl
          have hK9 := hK.sub (tys' := [(cS, .int)]) [0] rfl
          exact W.vret hx hb hr (fun tQ htQ hWQ => ⟨⟨(f1, (nI p1), 1), rfl, ⟨p1, k, rfl, by omega, by omega, hF, Or.inl rfl⟩, by rw [htQ]; exact hP9, va_K.moved hWQ.alike hK9, hD9⟩, hS.F htQ⟩) hS.2.2 dX12_some_43
        · skip
          have k5 := hI.2.2.2.2.1
          refine lv_aload_n hx hb dX12_some_4 rfl (lv_at hl 0 rfl) ?_
          refine va_get (D := (dC, dI)) (ci := 14) (v := .int 0) (C := RX12) (T := TX12) (N := 23) hx hb hts kc_some0_0 hown hK hP 0 rfl rfl 7 (by decide) (hts (.fieldLink RX12 65 "MistHeapsModel" "isWrong" "Z") kc_some0_1) (fun _ h9 => h9) rfl dX12_some_5 ?_
          refine lv_if_ne (tgt := 43) hx hb dX12_some_8 (by decide) (fun c_43 => absurd c_43 (by decide)) (fun _ => ?_)
          refine lv_aload_n hx hb dX12_some_11 rfl (lv_at hl 0 rfl) ?_
          have hPc := hP.sub (ws' := [(zo14irriiiiiirriirrrrlriiii m0 th aS aI im (nI a) (nI p1) (nI E) 0 0 aB aT se dn aG aO aN aD bv aY rn kd nu tv), (zaI aS cS 901 f1)]) [0, 1] rfl
          have hKc := hK.sub (tys' := [(cS, .int)]) [0] rfl
          refine vp_callSi (va_runV (As := []) (rest := []) ⟨hx, hb, hml, hown, hts⟩ (c_here l dC dI m0 aS aI aB aT aG aO aN aD aY th im (nI a) (nI p1) (nI E) 0 0 se dn rn kd nu tv bv cS f1 a p1 E (by omega) (by omega) (by omega)) (cwV 0 hts gX12_some_X12_here rfl rfl rfl hd_yX12_here ⟨Nat.le_of_ble_eq_true rfl, Nat.le_of_ble_eq_true rfl⟩) ⟨fun a U g mk q => by obtain ⟨q0, qP, qK⟩ := q; exact ⟨q0, qP, va_K.moved (u := U) (U := U.calling g mk a) (Vm.Alike.refl U.vm) qK⟩, va_recv hK hP (ci := 14) (q := (RX12, TX12, 23)) (q0 := 0) rfl rfl, fun U hU hW => ⟨rfl, by rw [hU]; exact hPc, va_K.moved hW.alike hKc⟩⟩ rfl rfl hl.1 rfl (lv_room (Nat.le_of_ble_eq_true rfl)) dX12_some_12 ⟨Nat.le_of_ble_eq_true rfl, Nat.le_of_ble_eq_true rfl⟩).run (fun r_44 hw_45 => ?_)
          refine lv_bipush (v := 124) hx hb dX12_some_15 (by decide) ?_
          refine lv_icmp_ne (tgt := 43) hx hb dX12_some_17 (by decide) (fun c_46 => ?_) (fun c_46 => ?_)
          · skip
            rw [hQ]
            have hP9 := hP.sub (ws' := [(zo14irriiiiiirriirrrrlriiii m0 th aS aI im (nI a) (nI p1) (nI E) 0 0 aB aT se dn aG aO aN aD bv aY rn kd nu tv), (zaI aS cS 901 f1)]) [0, 1] rfl
            have hD9 := hD.sub (ws' := [(zo14irriiiiiirriirrrrlriiii m0 th aS aI im (nI a) (nI p1) (nI E) 0 0 aB aT se dn aG aO aN aD bv aY rn kd nu tv), (zaI aS cS 901 f1)]) [0, 1] (by decide) rfl
            have hK9 := hK.sub (tys' := [(cS, .int)]) [0] rfl
            exact W.vret hx hb hr (fun tQ htQ hWQ => ⟨⟨(f1, (nI p1), 0), rfl, ⟨p1, k1, rfl, by omega, by omega, hF, Or.inr ⟨rfl, by omega, hI, by omega⟩⟩, by rw [htQ]; exact hP9, va_K.moved hWQ.alike hK9, hD9⟩, hS.F htQ⟩) hS.2.2 dX12_some_43
          · skip
            have hlt : p1 < E := hv_lt (f := f1) (by rw [← hw_45, c_46]; decide)
            refine lv_aload_n hx hb dX12_some_20 rfl (lv_at hl 0 rfl) ?_
            refine lv_dup hx hb dX12_some_21 rfl ?_
            refine va_get (D := (dC, dI)) (ci := 14) (v := .int (nI p1)) (C := RX12) (T := TX12) (N := 23) hx hb hts kc_some0_0 hown hK hP 0 rfl rfl 5 (by decide) (hts (.fieldLink RX12 59 "MistHeapsModel" "spot" "I") kc_some0_2) (fun _ h9 => h9) rfl dX12_some_22 ?_
            refine lv_iconst (v := 1) hx hb dX12_some_25 (by decide) ?_
            refine lv_iadd hx hb dX12_some_26 ?_
            refine qi_as (y := nI (p1 + 1)) (nI_add p1 1) ?_
            refine va_put (D := (dC, dI)) (ci := 14) (v := .int (nI (p1 + 1))) (ty := .int) (C := RX12) (T := TX12) (N := 23) hx hb hts kc_some0_0 tyX12 tyX12_ok nmX12 hown hK hP hD hS 0 rfl rfl 5 (by decide) (hts (.fieldLink RX12 59 "MistHeapsModel" "spot" "I") kc_some0_2) (fun _ h9 => h9) rfl (by decide +kernel) rfl rfl (Nat.le_of_ble_eq_true rfl) dX12_some_27 (fun H locs hP hD hS => ?_)
            have hP : va_P (dC, dI) vwCl [(zo14irriiiiiirriirrrrlriiii m0 th aS aI im (nI a) (nI (p1 + 1)) (nI E) 0 0 aB aT se dn aG aO aN aD bv aY rn kd nu tv), (zaI aS cS 901 f1)] H := hP
            have hD : va_D A [(zo14irriiiiiirriirrrrlriiii m0 th aS aI im (nI a) (nI (p1 + 1)) (nI E) 0 0 aB aT se dn aG aO aN aD bv aY rn kd nu tv), (zaI aS cS 901 f1)] := hD
            refine lv_aload_n hx hb dX12_some_30 rfl (lv_at hl 0 rfl) ?_
            have hPc := hP.sub (ws' := [(zo14irriiiiiirriirrrrlriiii m0 th aS aI im (nI a) (nI (p1 + 1)) (nI E) 0 0 aB aT se dn aG aO aN aD bv aY rn kd nu tv), (zaI aS cS 901 f1)]) [0, 1] rfl
            have hDc := hD.sub (ws' := [(zo14irriiiiiirriirrrrlriiii m0 th aS aI im (nI a) (nI (p1 + 1)) (nI E) 0 0 aB aT se dn aG aO aN aD bv aY rn kd nu tv), (zaI aS cS 901 f1)]) [0, 1] (by decide) rfl
            have hKc := hK.sub (tys' := [(cS, .int)]) [0] rfl
            have hFc := va_free (wc := [(zo14irriiiiiirriirrrrlriiii m0 th aS aI im (nI a) (nI (p1 + 1)) (nI E) 0 0 aB aT se dn aG aO aN aD bv aY rn kd nu tv), (zaI aS cS 901 f1)]) hD hS hA [0, 1] rfl
            refine va_callv (va_runV (As := []) (rest := []) ⟨hx, hb, hml, hown, hts⟩ (c_every0 l dC dI sK sV m0 aS aI aB aT aG aO aN aD aY th im (nI a) (nI (p1 + 1)) (nI E) 0 0 se dn rn kd nu tv bv cS f1 a (p1 + 1) E k1 (d + 1) H.size ((hI).mono (by omega) (by omega))) (cwV 0 hts gX12_some_X12_every rfl rfl rfl hd_yX12_every ⟨Nat.le_of_ble_eq_true rfl, Nat.le_of_ble_eq_true rfl⟩) ⟨fun a U g mk q => by obtain ⟨q0, q1, qP, qK, qD, qhE⟩ := q; exact ⟨q0, q1, qP, va_K.moved (u := U) (U := U.calling g mk a) (Vm.Alike.refl U.vm) qK, qD, qhE.same rfl rfl⟩, va_recv hK hP (ci := 14) (q := (RX12, TX12, 23)) (q0 := 0) rfl rfl, fun U hU hW => ⟨rfl, by rw [hU], by rw [hU]; exact hPc, va_K.moved hW.alike hKc, hDc.weaken (fun _ _ _ _ => trivial), hE.call hS hU hW (fun q h => hFc q h)⟩⟩ rfl rfl hl.1 rfl (lv_room (Nat.le_of_ble_eq_true rfl)) dX12_some_31 ⟨Nat.le_of_ble_eq_true rfl, Nat.le_of_ble_eq_true rfl⟩) hS (fun q _ h => hFc q h) hFc (fun u tC H1 locs htC hvm hw_48 hB hz1 hk1 hS => ?_)
            obtain ⟨fS9_49, sp9_50, wg9_51⟩ := u
            try dsimp only at hw_48 hB
            obtain ⟨hP1, hK1, hD1⟩ := hB
            rw [htC] at hP1
            have hK1 := va_K.moved hvm.symm hK1
            obtain ⟨hP, hD⟩ := va_join (wr := []) (w1 := [(zo14irriiiiiirriirrrrlriiii m0 th aS aI im (nI a) sp9_50 (nI E) wg9_51 0 aB aT se dn aG aO aN aD bv aY rn kd nu tv), (zaI aS cS 901 fS9_49)]) hP hD [0, 1] [] rfl rfl (by decide) (by decide) hk1 hFc hP1 hD1
            have hK := (hK.sub (tys' := []) [] rfl).app hK1
            generalize H1 = H at hP hS ⊢
            have hP : va_P (dC, dI) vwCl [(zo14irriiiiiirriirrrrlriiii m0 th aS aI im (nI a) sp9_50 (nI E) wg9_51 0 aB aT se dn aG aO aN aD bv aY rn kd nu tv), (zaI aS cS 901 fS9_49)] H := hP
            have hD : va_D A [(zo14irriiiiiirriirrrrlriiii m0 th aS aI im (nI a) sp9_50 (nI E) wg9_51 0 aB aT se dn aG aO aN aD bv aY rn kd nu tv), (zaI aS cS 901 fS9_49)] := hD
            have hK : va_K (dC, dI) vwCl [(cS, .int)] s := hK
            obtain ⟨p_52, k_53, rfl, h_55, h_56, hF_57, q9⟩ := hw_48
            rcases q9 with rfl | ⟨rfl, h_58, hI_59, h_60⟩
            · skip
              refine lv_aload_n hx hb dX12_some_34 rfl (lv_at hl 0 rfl) ?_
              refine lv_bipush (v := (-3)) hx hb dX12_some_35 (by decide) ?_
              have hPc := hP.sub (ws' := [(zo14irriiiiiirriirrrrlriiii m0 th aS aI im (nI a) (nI p_52) (nI E) 1 0 aB aT se dn aG aO aN aD bv aY rn kd nu tv)]) [0] rfl
              have hKc := hK.sub (tys' := []) [] rfl
              refine va_csv (va_runV (As := [.int (-3)]) (rest := []) ⟨hx, hb, hml, hown, hts⟩ (c_emitsW l dC dI m0 aS aI aB aT aG aO aN aD aY th im (nI a) (nI p_52) (nI E) 1 0 se dn rn kd nu tv bv (-3)) (cwV 1 hts gX12_some_X12_emits rfl rfl rfl hd_yX12_emits ⟨Nat.le_of_ble_eq_true rfl, Nat.le_of_ble_eq_true rfl⟩) ⟨fun a U g mk q => by obtain ⟨q0, qP, qK⟩ := q; exact ⟨q0, qP, va_K.moved (u := U) (U := U.calling g mk a) (Vm.Alike.refl U.vm) qK⟩, va_recv hK hP (ci := 14) (q := (RX12, TX12, 23)) (q0 := 0) rfl rfl, fun U hU hW => ⟨rfl, by rw [hU]; exact hPc, va_K.moved hW.alike hKc⟩⟩ rfl rfl hl.1 rfl (lv_room (Nat.le_of_ble_eq_true rfl)) dX12_some_37 ⟨Nat.le_of_ble_eq_true rfl, Nat.le_of_ble_eq_true rfl⟩).run (fun hw_62 => ?_)
              refine lv_goto (tgt := 4) hx hb dX12_some_40 (by decide) ?_
              exact ih4 (p_52) (k) (1) (fS9_49) (by omega) (by omega) ((hF).tr hF_57) (Or.inl rfl) _ _ (hK.sub [0] rfl) (hP.sub [0, 1] rfl) (hD.sub [0, 1] (by decide) rfl) hS ls (lv_sub hl [0] rfl)
            · skip
              have k5 := hI_59.2.2.2.2.1
              refine lv_aload_n hx hb dX12_some_34 rfl (lv_at hl 0 rfl) ?_
              refine lv_bipush (v := (-3)) hx hb dX12_some_35 (by decide) ?_
              have hPc := hP.sub (ws' := [(zo14irriiiiiirriirrrrlriiii m0 th aS aI im (nI a) (nI p_52) (nI E) 0 0 aB aT se dn aG aO aN aD bv aY rn kd nu tv), (zaI aS cS 901 fS9_49)]) [0, 1] rfl
              have hDc := hD.sub (ws' := [(zo14irriiiiiirriirrrrlriiii m0 th aS aI im (nI a) (nI p_52) (nI E) 0 0 aB aT se dn aG aO aN aD bv aY rn kd nu tv), (zaI aS cS 901 fS9_49)]) [0, 1] (by decide) rfl
              have hKc := hK.sub (tys' := [(cS, .int)]) [0] rfl
              have hFc := va_free (wc := [(zo14irriiiiiirriirrrrlriiii m0 th aS aI im (nI a) (nI p_52) (nI E) 0 0 aB aT se dn aG aO aN aD bv aY rn kd nu tv), (zaI aS cS 901 fS9_49)]) hD hS hA [0, 1] rfl
              refine va_callv (va_runV (As := [.int (-3)]) (rest := []) ⟨hx, hb, hml, hown, hts⟩ (c_emits l dC dI m0 aS aI aB aT aG aO aN aD aY th im (nI a) (nI p_52) (nI E) 0 0 se dn rn kd nu tv bv cS fS9_49 a k_53 (-3) H.size (ga) ((hI_59).2.2.2.1) (by have := (hI_59).2.2.2.2.1; omega)) (cwV 1 hts gX12_some_X12_emits rfl rfl rfl hd_yX12_emits ⟨Nat.le_of_ble_eq_true rfl, Nat.le_of_ble_eq_true rfl⟩) ⟨fun a U g mk q => by obtain ⟨q0, q1, qP, qK, qD⟩ := q; exact ⟨q0, q1, qP, va_K.moved (u := U) (U := U.calling g mk a) (Vm.Alike.refl U.vm) qK, qD⟩, va_recv hK hP (ci := 14) (q := (RX12, TX12, 23)) (q0 := 0) rfl rfl, fun U hU hW => ⟨rfl, by rw [hU], by rw [hU]; exact hPc, va_K.moved hW.alike hKc, hDc.weaken (fun _ _ _ _ => trivial)⟩⟩ rfl rfl hl.1 rfl (lv_room (Nat.le_of_ble_eq_true rfl)) dX12_some_37 ⟨Nat.le_of_ble_eq_true rfl, Nat.le_of_ble_eq_true rfl⟩) hS (fun q _ h => hFc q h) hFc (fun u tC H1 locs htC hvm hw_64 hB hz1 hk1 hS => ?_)
              obtain ⟨fS9_65, rfl⟩ : ∃ z, z = u := ⟨_, rfl⟩
              try dsimp only at hw_64 hB
              obtain ⟨hP1, hK1, hD1⟩ := hB
              rw [htC] at hP1
              have hK1 := va_K.moved hvm.symm hK1
              obtain ⟨hP, hD⟩ := va_join (wr := []) (w1 := [(zo14irriiiiiirriirrrrlriiii m0 th aS aI im (nI a) (nI p_52) (nI E) 0 0 aB aT se dn aG aO aN aD bv aY rn kd nu tv), (zaI aS cS 901 fS9_65)]) hP hD [0, 1] [] rfl rfl (by decide) (by decide) hk1 hFc hP1 hD1
              have hK := (hK.sub (tys' := []) [] rfl).app hK1
              generalize H1 = H at hP hS ⊢
              have hP : va_P (dC, dI) vwCl [(zo14irriiiiiirriirrrrlriiii m0 th aS aI im (nI a) (nI p_52) (nI E) 0 0 aB aT se dn aG aO aN aD bv aY rn kd nu tv), (zaI aS cS 901 fS9_65)] H := hP
              have hD : va_D A [(zo14irriiiiiirriirrrrlriiii m0 th aS aI im (nI a) (nI p_52) (nI E) 0 0 aB aT se dn aG aO aN aD bv aY rn kd nu tv), (zaI aS cS 901 fS9_65)] := hD
              have hK : va_K (dC, dI) vwCl [(cS, .int)] s := hK
              obtain rfl : fS9_65 = emt fS9_49 a k_53 (-3) := by rcases hw_64 with ⟨q, _⟩ | ⟨_, q⟩; exact absurd rfl q; exact q
              have hI_67 : PI (emt fS9_49 a k_53 (-3)) a (k_53 + 1) (((d + 1) + 1) - 1) p_52 E := ((hI_59).mono (by omega) (by omega)).em (by omega) (by omega) (stepd_either (by omega))
              have hF_68 : PF a fS (emt fS9_49 a k_53 (-3)) := ((hF).tr hF_57).tr (PF_emt (k := k_53) (x := (-3)) ga (by have := (hI_59).2.2.2.2.1; omega))
              refine lv_goto (tgt := 4) hx hb dX12_some_40 (by decide) ?_
              exact ih4 (p_52) ((k_53 + 1)) (0) (emt fS9_49 a k_53 (-3)) (by omega) (by omega) (hF_68) (Or.inr ⟨rfl, by omega, hI_67, by omega⟩) _ _ (hK.sub [0] rfl) (hP.sub [0, 1] rfl) (hD.sub [0, 1] (by decide) rfl) hS ls (lv_sub hl [0] rfl)
    exact L4 _ (p_6) (k_7) (0) (fS9_3) (Nat.lt_succ_self _) (by omega) ((PF.rf).tr hF_11) (Or.inr ⟨rfl, by omega, hI_13, by omega⟩) _ _ (hK.sub [0] rfl) (hP.sub [0, 1] rfl) (hD.sub [0, 1] (by decide) rfl) hS ls (lv_sub hl [0] rfl)
end mg12b
