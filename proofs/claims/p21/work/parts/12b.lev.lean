section mg12b
theorem ggX12_factor_X12_here : GoodIn wsX12_factor wsX12_here := gga_of 1229 rfl rfl rfl
theorem gX12_factor_X12_here : GoodIn wsX12_factor (wsV RX12 69 RX12 yX12_here wsX12_here) := goodIn_app (ggh_of [1226, 1228, 22, 72] rfl rfl rfl) ggX12_factor_X12_here
theorem ggX12_factor_X12_factor : GoodIn wsX12_factor wsX12_factor := gga_of 1264 rfl rfl rfl
theorem gX12_factor_X12_factor : GoodIn wsX12_factor (wsV RX12 92 RX12 yX12_factor wsX12_factor) := goodIn_app (ggh_of [1261, 1263, 30, 72] rfl rfl rfl) ggX12_factor_X12_factor
theorem ggX12_factor_X12_emits : GoodIn wsX12_factor wsX12_emits := gga_of 1268 rfl rfl rfl
theorem gX12_factor_X12_emits : GoodIn wsX12_factor (wsV RX12 95 RX12 yX12_emits wsX12_emits) := goodIn_app (ggh_of [1265, 1267, 31, 72] rfl rfl rfl) ggX12_factor_X12_emits
theorem ggX12_factor_X12_among : GoodIn wsX12_factor wsX12_among := gga_of 1273 rfl rfl rfl
theorem gX12_factor_X12_among : GoodIn wsX12_factor (wsV RX12 103 RX12 yX12_among wsX12_among) := goodIn_app (ggh_of [1270, 1272, 32, 72] rfl rfl rfl) ggX12_factor_X12_among
theorem ggX12_factor_X12_figures : GoodIn wsX12_factor wsX12_figures := gga_of 1252 rfl rfl rfl
theorem gX12_factor_X12_figures : GoodIn wsX12_factor (wsV RX12 109 RX12 yX12_figures wsX12_figures) := goodIn_app (ggh_of [1249, 1251, 27, 72] rfl rfl rfl) ggX12_factor_X12_figures
theorem ggX12_factor_X12_some : GoodIn wsX12_factor wsX12_some := gga_of 1256 rfl rfl rfl
theorem gX12_factor_X12_some : GoodIn wsX12_factor (wsV RX12 98 RX12 yX12_some wsX12_some) := goodIn_app (ggh_of [1253, 1255, 28, 72] rfl rfl rfl) ggX12_factor_X12_some
theorem ggX12_factor_X12_must : GoodIn wsX12_factor wsX12_must := gga_of 1237 rfl rfl rfl
theorem gX12_factor_X12_must : GoodIn wsX12_factor (wsV RX12 82 RX12 yX12_must wsX12_must) := goodIn_app (ggh_of [1234, 1236, 24, 72] rfl rfl rfl) ggX12_factor_X12_must
theorem ggX12_every_X12_here : GoodIn wsX12_every wsX12_here := gga_of 1229 rfl rfl rfl
theorem gX12_every_X12_here : GoodIn wsX12_every (wsV RX12 69 RX12 yX12_here wsX12_here) := goodIn_app (ggh_of [1226, 1228, 22, 72] rfl rfl rfl) ggX12_every_X12_here
theorem ggX12_every_X12_emits : GoodIn wsX12_every wsX12_emits := gga_of 1268 rfl rfl rfl
theorem gX12_every_X12_emits : GoodIn wsX12_every (wsV RX12 95 RX12 yX12_emits wsX12_emits) := goodIn_app (ggh_of [1265, 1267, 31, 72] rfl rfl rfl) ggX12_every_X12_emits
theorem ggX12_some_X12_here : GoodIn wsX12_some wsX12_here := gga_of 1229 rfl rfl rfl
theorem gX12_some_X12_here : GoodIn wsX12_some (wsV RX12 69 RX12 yX12_here wsX12_here) := goodIn_app (ggh_of [1226, 1228, 22, 72] rfl rfl rfl) ggX12_some_X12_here
theorem ggX12_some_X12_emits : GoodIn wsX12_some wsX12_emits := gga_of 1268 rfl rfl rfl
theorem gX12_some_X12_emits : GoodIn wsX12_some (wsV RX12 95 RX12 yX12_emits wsX12_emits) := goodIn_app (ggh_of [1265, 1267, 31, 72] rfl rfl rfl) ggX12_some_X12_emits
noncomputable def dk12blev_cX12_factor_0 : List (Nat × List Nat) := [(8, [42]), (9, [182, 0, 69]), (12, [60]), (13, [27]), (14, [16, 33]), (16, [159, 0, 9]), (25, [42]), (26, [42]), (27, [180, 0, 89]), (30, [8]), (31, [160, 0, 7]), (34, [4]), (35, [167, 0, 4]), (39, [181, 0, 65]), (42, [42]), (43, [89]), (44, [180, 0, 89]), (47, [4]), (48, [96]), (49, [181, 0, 89]), (52, [42]), (53, [89]), (54, [180, 0, 59]), (57, [42]), (58, [180, 0, 65]), (61, [153, 0, 7]), (64, [3]), (65, [167, 0, 4]), (69, [96]), (70, [181, 0, 59]), (73, [27]), (74, [16, 33]), (76, [160, 0, 15]), (79, [42]), (80, [182, 0, 92]), (83, [42]), (84, [2]), (85, [182, 0, 95]), (88, [167, 0, 13]), (101, [42])]
set_option maxRecDepth 100000 in
theorem dk12blev_cX12_factor_0_a : btA cX12_factor dk12blev_cX12_factor_0 = true := by decide +kernel
theorem dX12_factor_8 : decode cX12_factor 8 = .ok (.aload_n 0, 1) := bd42 (btAt dk12blev_cX12_factor_0_a 0 rfl)
theorem dX12_factor_9 : decode cX12_factor 9 = .ok (.invokevirtual 69, 3) := bd182 (a := 0) (b := 69) (btAt dk12blev_cX12_factor_0_a 1 rfl)
theorem dX12_factor_12 : decode cX12_factor 12 = .ok (.istore_n 1, 1) := bd60 (btAt dk12blev_cX12_factor_0_a 2 rfl)
theorem dX12_factor_13 : decode cX12_factor 13 = .ok (.iload_n 1, 1) := bd27 (btAt dk12blev_cX12_factor_0_a 3 rfl)
theorem dX12_factor_14 : decode cX12_factor 14 = .ok (.bipush 33, 2) := bd16 (a := 33) (btAt dk12blev_cX12_factor_0_a 4 rfl)
theorem dX12_factor_16 : decode cX12_factor 16 = .ok (.if_icmp .eq 9, 3) := bd159 (a := 0) (b := 9) (btAt dk12blev_cX12_factor_0_a 5 rfl)
theorem dX12_factor_25 : decode cX12_factor 25 = .ok (.aload_n 0, 1) := bd42 (btAt dk12blev_cX12_factor_0_a 6 rfl)
theorem dX12_factor_26 : decode cX12_factor 26 = .ok (.aload_n 0, 1) := bd42 (btAt dk12blev_cX12_factor_0_a 7 rfl)
theorem dX12_factor_27 : decode cX12_factor 27 = .ok (.getfield 89, 3) := bd180 (a := 0) (b := 89) (btAt dk12blev_cX12_factor_0_a 8 rfl)
theorem dX12_factor_30 : decode cX12_factor 30 = .ok (.iconst 5, 1) := bd8 (btAt dk12blev_cX12_factor_0_a 9 rfl)
theorem dX12_factor_31 : decode cX12_factor 31 = .ok (.if_icmp .ne 7, 3) := bd160 (a := 0) (b := 7) (btAt dk12blev_cX12_factor_0_a 10 rfl)
theorem dX12_factor_34 : decode cX12_factor 34 = .ok (.iconst 1, 1) := bd4 (btAt dk12blev_cX12_factor_0_a 11 rfl)
theorem dX12_factor_35 : decode cX12_factor 35 = .ok (.goto 4, 3) := bd167 (a := 0) (b := 4) (btAt dk12blev_cX12_factor_0_a 12 rfl)
theorem dX12_factor_39 : decode cX12_factor 39 = .ok (.putfield 65, 3) := bd181 (a := 0) (b := 65) (btAt dk12blev_cX12_factor_0_a 13 rfl)
theorem dX12_factor_42 : decode cX12_factor 42 = .ok (.aload_n 0, 1) := bd42 (btAt dk12blev_cX12_factor_0_a 14 rfl)
theorem dX12_factor_43 : decode cX12_factor 43 = .ok (.dup, 1) := bd89 (btAt dk12blev_cX12_factor_0_a 15 rfl)
theorem dX12_factor_44 : decode cX12_factor 44 = .ok (.getfield 89, 3) := bd180 (a := 0) (b := 89) (btAt dk12blev_cX12_factor_0_a 16 rfl)
theorem dX12_factor_47 : decode cX12_factor 47 = .ok (.iconst 1, 1) := bd4 (btAt dk12blev_cX12_factor_0_a 17 rfl)
theorem dX12_factor_48 : decode cX12_factor 48 = .ok (.iadd, 1) := bd96 (btAt dk12blev_cX12_factor_0_a 18 rfl)
theorem dX12_factor_49 : decode cX12_factor 49 = .ok (.putfield 89, 3) := bd181 (a := 0) (b := 89) (btAt dk12blev_cX12_factor_0_a 19 rfl)
theorem dX12_factor_52 : decode cX12_factor 52 = .ok (.aload_n 0, 1) := bd42 (btAt dk12blev_cX12_factor_0_a 20 rfl)
theorem dX12_factor_53 : decode cX12_factor 53 = .ok (.dup, 1) := bd89 (btAt dk12blev_cX12_factor_0_a 21 rfl)
theorem dX12_factor_54 : decode cX12_factor 54 = .ok (.getfield 59, 3) := bd180 (a := 0) (b := 59) (btAt dk12blev_cX12_factor_0_a 22 rfl)
theorem dX12_factor_57 : decode cX12_factor 57 = .ok (.aload_n 0, 1) := bd42 (btAt dk12blev_cX12_factor_0_a 23 rfl)
theorem dX12_factor_58 : decode cX12_factor 58 = .ok (.getfield 65, 3) := bd180 (a := 0) (b := 65) (btAt dk12blev_cX12_factor_0_a 24 rfl)
theorem dX12_factor_61 : decode cX12_factor 61 = .ok (.ifCond .eq 7, 3) := bd153 (a := 0) (b := 7) (btAt dk12blev_cX12_factor_0_a 25 rfl)
theorem dX12_factor_64 : decode cX12_factor 64 = .ok (.iconst 0, 1) := bd3 (btAt dk12blev_cX12_factor_0_a 26 rfl)
theorem dX12_factor_65 : decode cX12_factor 65 = .ok (.goto 4, 3) := bd167 (a := 0) (b := 4) (btAt dk12blev_cX12_factor_0_a 27 rfl)
theorem dX12_factor_69 : decode cX12_factor 69 = .ok (.iadd, 1) := bd96 (btAt dk12blev_cX12_factor_0_a 28 rfl)
theorem dX12_factor_70 : decode cX12_factor 70 = .ok (.putfield 59, 3) := bd181 (a := 0) (b := 59) (btAt dk12blev_cX12_factor_0_a 29 rfl)
theorem dX12_factor_73 : decode cX12_factor 73 = .ok (.iload_n 1, 1) := bd27 (btAt dk12blev_cX12_factor_0_a 30 rfl)
theorem dX12_factor_74 : decode cX12_factor 74 = .ok (.bipush 33, 2) := bd16 (a := 33) (btAt dk12blev_cX12_factor_0_a 31 rfl)
theorem dX12_factor_76 : decode cX12_factor 76 = .ok (.if_icmp .ne 15, 3) := bd160 (a := 0) (b := 15) (btAt dk12blev_cX12_factor_0_a 32 rfl)
theorem dX12_factor_79 : decode cX12_factor 79 = .ok (.aload_n 0, 1) := bd42 (btAt dk12blev_cX12_factor_0_a 33 rfl)
theorem dX12_factor_80 : decode cX12_factor 80 = .ok (.invokevirtual 92, 3) := bd182 (a := 0) (b := 92) (btAt dk12blev_cX12_factor_0_a 34 rfl)
theorem dX12_factor_83 : decode cX12_factor 83 = .ok (.aload_n 0, 1) := bd42 (btAt dk12blev_cX12_factor_0_a 35 rfl)
theorem dX12_factor_84 : decode cX12_factor 84 = .ok (.iconst (-1), 1) := bd2 (btAt dk12blev_cX12_factor_0_a 36 rfl)
theorem dX12_factor_85 : decode cX12_factor 85 = .ok (.invokevirtual 95, 3) := bd182 (a := 0) (b := 95) (btAt dk12blev_cX12_factor_0_a 37 rfl)
theorem dX12_factor_88 : decode cX12_factor 88 = .ok (.goto 13, 3) := bd167 (a := 0) (b := 13) (btAt dk12blev_cX12_factor_0_a 38 rfl)
theorem dX12_factor_101 : decode cX12_factor 101 = .ok (.aload_n 0, 1) := bd42 (btAt dk12blev_cX12_factor_0_a 39 rfl)
noncomputable def dk12blev_cX12_factor_40 : List (Nat × List Nat) := [(19, [27]), (20, [16, 40]), (22, [160, 0, 90]), (102, [89]), (103, [180, 0, 89]), (106, [4]), (107, [100]), (108, [181, 0, 89]), (111, [177]), (112, [42]), (113, [18, 101]), (115, [182, 0, 103]), (118, [61]), (119, [42]), (120, [28]), (121, [2]), (122, [160, 0, 7]), (125, [4]), (126, [167, 0, 4]), (130, [181, 0, 65]), (133, [42]), (134, [180, 0, 65]), (137, [153, 0, 7]), (140, [3]), (141, [167, 0, 9]), (150, [62]), (151, [42]), (152, [42]), (153, [180, 0, 65]), (156, [154, 0, 8]), (164, [4]), (165, [167, 0, 4]), (169, [181, 0, 65]), (172, [42]), (173, [182, 0, 109]), (176, [54, 4]), (178, [42]), (179, [28]), (180, [16, 8]), (182, [29])]
set_option maxRecDepth 100000 in
theorem dk12blev_cX12_factor_40_a : btA cX12_factor dk12blev_cX12_factor_40 = true := by decide +kernel
theorem dX12_factor_19 : decode cX12_factor 19 = .ok (.iload_n 1, 1) := bd27 (btAt dk12blev_cX12_factor_40_a 0 rfl)
theorem dX12_factor_20 : decode cX12_factor 20 = .ok (.bipush 40, 2) := bd16 (a := 40) (btAt dk12blev_cX12_factor_40_a 1 rfl)
theorem dX12_factor_22 : decode cX12_factor 22 = .ok (.if_icmp .ne 90, 3) := bd160 (a := 0) (b := 90) (btAt dk12blev_cX12_factor_40_a 2 rfl)
theorem dX12_factor_102 : decode cX12_factor 102 = .ok (.dup, 1) := bd89 (btAt dk12blev_cX12_factor_40_a 3 rfl)
theorem dX12_factor_103 : decode cX12_factor 103 = .ok (.getfield 89, 3) := bd180 (a := 0) (b := 89) (btAt dk12blev_cX12_factor_40_a 4 rfl)
theorem dX12_factor_106 : decode cX12_factor 106 = .ok (.iconst 1, 1) := bd4 (btAt dk12blev_cX12_factor_40_a 5 rfl)
theorem dX12_factor_107 : decode cX12_factor 107 = .ok (.isub, 1) := bd100 (btAt dk12blev_cX12_factor_40_a 6 rfl)
theorem dX12_factor_108 : decode cX12_factor 108 = .ok (.putfield 89, 3) := bd181 (a := 0) (b := 89) (btAt dk12blev_cX12_factor_40_a 7 rfl)
theorem dX12_factor_111 : decode cX12_factor 111 = .ok (.return_, 1) := bd177 (btAt dk12blev_cX12_factor_40_a 8 rfl)
theorem dX12_factor_112 : decode cX12_factor 112 = .ok (.aload_n 0, 1) := bd42 (btAt dk12blev_cX12_factor_40_a 9 rfl)
theorem dX12_factor_113 : decode cX12_factor 113 = .ok (.ldc 101, 2) := bd18 (a := 101) (btAt dk12blev_cX12_factor_40_a 10 rfl)
theorem dX12_factor_115 : decode cX12_factor 115 = .ok (.invokevirtual 103, 3) := bd182 (a := 0) (b := 103) (btAt dk12blev_cX12_factor_40_a 11 rfl)
theorem dX12_factor_118 : decode cX12_factor 118 = .ok (.istore_n 2, 1) := bd61 (btAt dk12blev_cX12_factor_40_a 12 rfl)
theorem dX12_factor_119 : decode cX12_factor 119 = .ok (.aload_n 0, 1) := bd42 (btAt dk12blev_cX12_factor_40_a 13 rfl)
theorem dX12_factor_120 : decode cX12_factor 120 = .ok (.iload_n 2, 1) := bd28 (btAt dk12blev_cX12_factor_40_a 14 rfl)
theorem dX12_factor_121 : decode cX12_factor 121 = .ok (.iconst (-1), 1) := bd2 (btAt dk12blev_cX12_factor_40_a 15 rfl)
theorem dX12_factor_122 : decode cX12_factor 122 = .ok (.if_icmp .ne 7, 3) := bd160 (a := 0) (b := 7) (btAt dk12blev_cX12_factor_40_a 16 rfl)
theorem dX12_factor_125 : decode cX12_factor 125 = .ok (.iconst 1, 1) := bd4 (btAt dk12blev_cX12_factor_40_a 17 rfl)
theorem dX12_factor_126 : decode cX12_factor 126 = .ok (.goto 4, 3) := bd167 (a := 0) (b := 4) (btAt dk12blev_cX12_factor_40_a 18 rfl)
theorem dX12_factor_130 : decode cX12_factor 130 = .ok (.putfield 65, 3) := bd181 (a := 0) (b := 65) (btAt dk12blev_cX12_factor_40_a 19 rfl)
theorem dX12_factor_133 : decode cX12_factor 133 = .ok (.aload_n 0, 1) := bd42 (btAt dk12blev_cX12_factor_40_a 20 rfl)
theorem dX12_factor_134 : decode cX12_factor 134 = .ok (.getfield 65, 3) := bd180 (a := 0) (b := 65) (btAt dk12blev_cX12_factor_40_a 21 rfl)
theorem dX12_factor_137 : decode cX12_factor 137 = .ok (.ifCond .eq 7, 3) := bd153 (a := 0) (b := 7) (btAt dk12blev_cX12_factor_40_a 22 rfl)
theorem dX12_factor_140 : decode cX12_factor 140 = .ok (.iconst 0, 1) := bd3 (btAt dk12blev_cX12_factor_40_a 23 rfl)
theorem dX12_factor_141 : decode cX12_factor 141 = .ok (.goto 9, 3) := bd167 (a := 0) (b := 9) (btAt dk12blev_cX12_factor_40_a 24 rfl)
theorem dX12_factor_150 : decode cX12_factor 150 = .ok (.istore_n 3, 1) := bd62 (btAt dk12blev_cX12_factor_40_a 25 rfl)
theorem dX12_factor_151 : decode cX12_factor 151 = .ok (.aload_n 0, 1) := bd42 (btAt dk12blev_cX12_factor_40_a 26 rfl)
theorem dX12_factor_152 : decode cX12_factor 152 = .ok (.aload_n 0, 1) := bd42 (btAt dk12blev_cX12_factor_40_a 27 rfl)
theorem dX12_factor_153 : decode cX12_factor 153 = .ok (.getfield 65, 3) := bd180 (a := 0) (b := 65) (btAt dk12blev_cX12_factor_40_a 28 rfl)
theorem dX12_factor_156 : decode cX12_factor 156 = .ok (.ifCond .ne 8, 3) := bd154 (a := 0) (b := 8) (btAt dk12blev_cX12_factor_40_a 29 rfl)
theorem dX12_factor_164 : decode cX12_factor 164 = .ok (.iconst 1, 1) := bd4 (btAt dk12blev_cX12_factor_40_a 30 rfl)
theorem dX12_factor_165 : decode cX12_factor 165 = .ok (.goto 4, 3) := bd167 (a := 0) (b := 4) (btAt dk12blev_cX12_factor_40_a 31 rfl)
theorem dX12_factor_169 : decode cX12_factor 169 = .ok (.putfield 65, 3) := bd181 (a := 0) (b := 65) (btAt dk12blev_cX12_factor_40_a 32 rfl)
theorem dX12_factor_172 : decode cX12_factor 172 = .ok (.aload_n 0, 1) := bd42 (btAt dk12blev_cX12_factor_40_a 33 rfl)
theorem dX12_factor_173 : decode cX12_factor 173 = .ok (.invokevirtual 109, 3) := bd182 (a := 0) (b := 109) (btAt dk12blev_cX12_factor_40_a 34 rfl)
theorem dX12_factor_176 : decode cX12_factor 176 = .ok (.istore 4, 2) := bd54 (a := 4) (btAt dk12blev_cX12_factor_40_a 35 rfl)
theorem dX12_factor_178 : decode cX12_factor 178 = .ok (.aload_n 0, 1) := bd42 (btAt dk12blev_cX12_factor_40_a 36 rfl)
theorem dX12_factor_179 : decode cX12_factor 179 = .ok (.iload_n 2, 1) := bd28 (btAt dk12blev_cX12_factor_40_a 37 rfl)
theorem dX12_factor_180 : decode cX12_factor 180 = .ok (.bipush 8, 2) := bd16 (a := 8) (btAt dk12blev_cX12_factor_40_a 38 rfl)
theorem dX12_factor_182 : decode cX12_factor 182 = .ok (.iload_n 3, 1) := bd29 (btAt dk12blev_cX12_factor_40_a 39 rfl)
noncomputable def dk12blev_cX12_factor_80 : List (Nat × List Nat) := [(91, [42]), (92, [182, 0, 98]), (95, [42]), (96, [16, 41]), (98, [182, 0, 82]), (129, [3]), (144, [42]), (145, [18, 107]), (147, [182, 0, 103]), (159, [29]), (160, [2]), (161, [160, 0, 7]), (168, [3]), (183, [104]), (184, [96]), (185, [16, 32]), (187, [21, 4]), (189, [104]), (190, [96]), (191, [182, 0, 95]), (194, [177])]
set_option maxRecDepth 100000 in
theorem dk12blev_cX12_factor_80_a : btA cX12_factor dk12blev_cX12_factor_80 = true := by decide +kernel
theorem dX12_factor_91 : decode cX12_factor 91 = .ok (.aload_n 0, 1) := bd42 (btAt dk12blev_cX12_factor_80_a 0 rfl)
theorem dX12_factor_92 : decode cX12_factor 92 = .ok (.invokevirtual 98, 3) := bd182 (a := 0) (b := 98) (btAt dk12blev_cX12_factor_80_a 1 rfl)
theorem dX12_factor_95 : decode cX12_factor 95 = .ok (.aload_n 0, 1) := bd42 (btAt dk12blev_cX12_factor_80_a 2 rfl)
theorem dX12_factor_96 : decode cX12_factor 96 = .ok (.bipush 41, 2) := bd16 (a := 41) (btAt dk12blev_cX12_factor_80_a 3 rfl)
theorem dX12_factor_98 : decode cX12_factor 98 = .ok (.invokevirtual 82, 3) := bd182 (a := 0) (b := 82) (btAt dk12blev_cX12_factor_80_a 4 rfl)
theorem dX12_factor_129 : decode cX12_factor 129 = .ok (.iconst 0, 1) := bd3 (btAt dk12blev_cX12_factor_80_a 5 rfl)
theorem dX12_factor_144 : decode cX12_factor 144 = .ok (.aload_n 0, 1) := bd42 (btAt dk12blev_cX12_factor_80_a 6 rfl)
theorem dX12_factor_145 : decode cX12_factor 145 = .ok (.ldc 107, 2) := bd18 (a := 107) (btAt dk12blev_cX12_factor_80_a 7 rfl)
theorem dX12_factor_147 : decode cX12_factor 147 = .ok (.invokevirtual 103, 3) := bd182 (a := 0) (b := 103) (btAt dk12blev_cX12_factor_80_a 8 rfl)
theorem dX12_factor_159 : decode cX12_factor 159 = .ok (.iload_n 3, 1) := bd29 (btAt dk12blev_cX12_factor_80_a 9 rfl)
theorem dX12_factor_160 : decode cX12_factor 160 = .ok (.iconst (-1), 1) := bd2 (btAt dk12blev_cX12_factor_80_a 10 rfl)
theorem dX12_factor_161 : decode cX12_factor 161 = .ok (.if_icmp .ne 7, 3) := bd160 (a := 0) (b := 7) (btAt dk12blev_cX12_factor_80_a 11 rfl)
theorem dX12_factor_168 : decode cX12_factor 168 = .ok (.iconst 0, 1) := bd3 (btAt dk12blev_cX12_factor_80_a 12 rfl)
theorem dX12_factor_183 : decode cX12_factor 183 = .ok (.imul, 1) := bd104 (btAt dk12blev_cX12_factor_80_a 13 rfl)
theorem dX12_factor_184 : decode cX12_factor 184 = .ok (.iadd, 1) := bd96 (btAt dk12blev_cX12_factor_80_a 14 rfl)
theorem dX12_factor_185 : decode cX12_factor 185 = .ok (.bipush 32, 2) := bd16 (a := 32) (btAt dk12blev_cX12_factor_80_a 15 rfl)
theorem dX12_factor_187 : decode cX12_factor 187 = .ok (.iload 4, 2) := bd21 (a := 4) (btAt dk12blev_cX12_factor_80_a 16 rfl)
theorem dX12_factor_189 : decode cX12_factor 189 = .ok (.imul, 1) := bd104 (btAt dk12blev_cX12_factor_80_a 17 rfl)
theorem dX12_factor_190 : decode cX12_factor 190 = .ok (.iadd, 1) := bd96 (btAt dk12blev_cX12_factor_80_a 18 rfl)
theorem dX12_factor_191 : decode cX12_factor 191 = .ok (.invokevirtual 95, 3) := bd182 (a := 0) (b := 95) (btAt dk12blev_cX12_factor_80_a 19 rfl)
theorem dX12_factor_194 : decode cX12_factor 194 = .ok (.return_, 1) := bd177 (btAt dk12blev_cX12_factor_80_a 20 rfl)
noncomputable def dk12blev_cX12_every_0 : List (Nat × List Nat) := [(11, [42]), (12, [182, 0, 69]), (15, [16, 38]), (17, [160, 0, 26]), (20, [42]), (21, [89]), (22, [180, 0, 59]), (25, [4]), (26, [96]), (27, [181, 0, 59]), (30, [42]), (31, [182, 0, 92]), (34, [42]), (35, [16, 254]), (37, [182, 0, 95]), (40, [167, 255, 220])]
set_option maxRecDepth 100000 in
theorem dk12blev_cX12_every_0_a : btA cX12_every dk12blev_cX12_every_0 = true := by decide +kernel
theorem dX12_every_11 : decode cX12_every 11 = .ok (.aload_n 0, 1) := bd42 (btAt dk12blev_cX12_every_0_a 0 rfl)
theorem dX12_every_12 : decode cX12_every 12 = .ok (.invokevirtual 69, 3) := bd182 (a := 0) (b := 69) (btAt dk12blev_cX12_every_0_a 1 rfl)
theorem dX12_every_15 : decode cX12_every 15 = .ok (.bipush 38, 2) := bd16 (a := 38) (btAt dk12blev_cX12_every_0_a 2 rfl)
theorem dX12_every_17 : decode cX12_every 17 = .ok (.if_icmp .ne 26, 3) := bd160 (a := 0) (b := 26) (btAt dk12blev_cX12_every_0_a 3 rfl)
theorem dX12_every_20 : decode cX12_every 20 = .ok (.aload_n 0, 1) := bd42 (btAt dk12blev_cX12_every_0_a 4 rfl)
theorem dX12_every_21 : decode cX12_every 21 = .ok (.dup, 1) := bd89 (btAt dk12blev_cX12_every_0_a 5 rfl)
theorem dX12_every_22 : decode cX12_every 22 = .ok (.getfield 59, 3) := bd180 (a := 0) (b := 59) (btAt dk12blev_cX12_every_0_a 6 rfl)
theorem dX12_every_25 : decode cX12_every 25 = .ok (.iconst 1, 1) := bd4 (btAt dk12blev_cX12_every_0_a 7 rfl)
theorem dX12_every_26 : decode cX12_every 26 = .ok (.iadd, 1) := bd96 (btAt dk12blev_cX12_every_0_a 8 rfl)
theorem dX12_every_27 : decode cX12_every 27 = .ok (.putfield 59, 3) := bd181 (a := 0) (b := 59) (btAt dk12blev_cX12_every_0_a 9 rfl)
theorem dX12_every_30 : decode cX12_every 30 = .ok (.aload_n 0, 1) := bd42 (btAt dk12blev_cX12_every_0_a 10 rfl)
theorem dX12_every_31 : decode cX12_every 31 = .ok (.invokevirtual 92, 3) := bd182 (a := 0) (b := 92) (btAt dk12blev_cX12_every_0_a 11 rfl)
theorem dX12_every_34 : decode cX12_every 34 = .ok (.aload_n 0, 1) := bd42 (btAt dk12blev_cX12_every_0_a 12 rfl)
theorem dX12_every_35 : decode cX12_every 35 = .ok (.bipush (-2), 2) := bd16 (a := 254) (btAt dk12blev_cX12_every_0_a 13 rfl)
theorem dX12_every_37 : decode cX12_every 37 = .ok (.invokevirtual 95, 3) := bd182 (a := 0) (b := 95) (btAt dk12blev_cX12_every_0_a 14 rfl)
theorem dX12_every_40 : decode cX12_every 40 = .ok (.goto (-36), 3) := bd167 (a := 255) (b := 220) (btAt dk12blev_cX12_every_0_a 15 rfl)
noncomputable def dk12blev_cX12_some_0 : List (Nat × List Nat) := [(11, [42]), (12, [182, 0, 69]), (15, [16, 124]), (17, [160, 0, 26]), (20, [42]), (21, [89]), (22, [180, 0, 59]), (25, [4]), (26, [96]), (27, [181, 0, 59]), (30, [42]), (31, [182, 0, 112]), (34, [42]), (35, [16, 253]), (37, [182, 0, 95]), (40, [167, 255, 220])]
set_option maxRecDepth 100000 in
theorem dk12blev_cX12_some_0_a : btA cX12_some dk12blev_cX12_some_0 = true := by decide +kernel
theorem dX12_some_11 : decode cX12_some 11 = .ok (.aload_n 0, 1) := bd42 (btAt dk12blev_cX12_some_0_a 0 rfl)
theorem dX12_some_12 : decode cX12_some 12 = .ok (.invokevirtual 69, 3) := bd182 (a := 0) (b := 69) (btAt dk12blev_cX12_some_0_a 1 rfl)
theorem dX12_some_15 : decode cX12_some 15 = .ok (.bipush 124, 2) := bd16 (a := 124) (btAt dk12blev_cX12_some_0_a 2 rfl)
theorem dX12_some_17 : decode cX12_some 17 = .ok (.if_icmp .ne 26, 3) := bd160 (a := 0) (b := 26) (btAt dk12blev_cX12_some_0_a 3 rfl)
theorem dX12_some_20 : decode cX12_some 20 = .ok (.aload_n 0, 1) := bd42 (btAt dk12blev_cX12_some_0_a 4 rfl)
theorem dX12_some_21 : decode cX12_some 21 = .ok (.dup, 1) := bd89 (btAt dk12blev_cX12_some_0_a 5 rfl)
theorem dX12_some_22 : decode cX12_some 22 = .ok (.getfield 59, 3) := bd180 (a := 0) (b := 59) (btAt dk12blev_cX12_some_0_a 6 rfl)
theorem dX12_some_25 : decode cX12_some 25 = .ok (.iconst 1, 1) := bd4 (btAt dk12blev_cX12_some_0_a 7 rfl)
theorem dX12_some_26 : decode cX12_some 26 = .ok (.iadd, 1) := bd96 (btAt dk12blev_cX12_some_0_a 8 rfl)
theorem dX12_some_27 : decode cX12_some 27 = .ok (.putfield 59, 3) := bd181 (a := 0) (b := 59) (btAt dk12blev_cX12_some_0_a 9 rfl)
theorem dX12_some_30 : decode cX12_some 30 = .ok (.aload_n 0, 1) := bd42 (btAt dk12blev_cX12_some_0_a 10 rfl)
theorem dX12_some_31 : decode cX12_some 31 = .ok (.invokevirtual 112, 3) := bd182 (a := 0) (b := 112) (btAt dk12blev_cX12_some_0_a 11 rfl)
theorem dX12_some_34 : decode cX12_some 34 = .ok (.aload_n 0, 1) := bd42 (btAt dk12blev_cX12_some_0_a 12 rfl)
theorem dX12_some_35 : decode cX12_some 35 = .ok (.bipush (-3), 2) := bd16 (a := 253) (btAt dk12blev_cX12_some_0_a 13 rfl)
theorem dX12_some_37 : decode cX12_some 37 = .ok (.invokevirtual 95, 3) := bd182 (a := 0) (b := 95) (btAt dk12blev_cX12_some_0_a 14 rfl)
theorem dX12_some_40 : decode cX12_some 40 = .ok (.goto (-36), 3) := bd167 (a := 255) (b := 220) (btAt dk12blev_cX12_some_0_a 15 rfl)
theorem kc_factor5_0 : ∀ w ∈ wsX120, w ∈ wsX12_factor := fun w h => List.mem_cons_of_mem _ (gin_wsX120 w h)
theorem kc_factor5_1 : (.fieldLink RX12 65 "MistHeapsModel" "isWrong" "Z" : Cond) ∈ wsX12_factor := kc_of 1147 rfl rfl rfl
theorem kc_factor5_2 : (.fieldLink RX12 89 "MistHeapsModel" "open" "I" : Cond) ∈ wsX12_factor := kc_of 1148 rfl rfl rfl
theorem kc_factor5_3 : (.fieldLink RX12 59 "MistHeapsModel" "spot" "I" : Cond) ∈ wsX12_factor := kc_of 1145 rfl rfl rfl
set_option maxHeartbeats 4000000 in
set_option maxRecDepth 100000 in
theorem c_factor5 (l : Launch) (dC : Nat → ClassId) (dI : Nat → Nat → Nat) (sK sV : Nat → Nat) (m0 aS aI aB aT aG aO aN aD aY : Nat) (th im ac sp en wg op se dn rn kd nu tv : Int32) (bv : Int64) (cS : ClassId) (fS : Nat → Int32) (a p0 E : Nat) (K : List Nat) (d : Nat) (ss : Nat → Nat) (sz : Nat) (gI : PI fS a K d p0 E) (gT : TP fS E ss) : Met l yX12_factor wsX12_factor ({ frames := 5, cells := 0, slots := 0, locals := 107 } : Room) (va_Pc [.ref m0] (fun U => U.heap.size = sz ∧ va_P (dC, dI) vwCl [(zo14irriiiiiirriirrrrlriiii m0 th aS aI im (nI a) (nI p0) (nI E) 0 5 aB aT se dn aG aO aN aD bv aY rn kd nu tv), (zaI aS cS 901 fS)] U.heap ∧ va_K (dC, dI) vwCl [(cS, .int)] U ∧ va_D (fun _ => True) [(zo14irriiiiiirriirrrrlriiii m0 th aS aI im (nI a) (nI p0) (nI E) 0 5 aB aT se dn aG aO aN aD bv aY rn kd nu tv), (zaI aS cS 901 fS)] ∧ Gs sK sV (va_A [(zo14irriiiiiirriirrrrlriiii m0 th aS aI im (nI a) (nI p0) (nI E) 0 5 aB aT se dn aG aO aN aD bv aY rn kd nu tv), (zaI aS cS 901 fS)] sz) U)) (va_Qv (fun (u : (Nat → Int32) × (Int32) × (Int32)) => match u with | (fS9, sp9, wg9) => ∃ p9 : Nat, sp9 = nI p9 ∧ p0 ≤ p9 ∧ p9 ≤ E ∧ PF a fS fS9 ∧ ((wg9 = 1 ∧ pFac ss 0 p0 = (none, p9)) ∨ (wg9 = 0 ∧ ∃ L : List Nat, pFac ss 0 p0 = (some L, p9) ∧ p0 + 3 ≤ p9 ∧ PI fS9 a (K ++ L) (d + 1) p9 E ∧ L.length + p0 ≤ p9))) (fun (u : (Nat → Int32) × (Int32) × (Int32)) (t : State) => match u with | (fS9, sp9, wg9) => va_P (dC, dI) vwCl [(zo14irriiiiiirriirrrrlriiii m0 th aS aI im (nI a) sp9 (nI E) wg9 5 aB aT se dn aG aO aN aD bv aY rn kd nu tv), (zaI aS cS 901 fS9)] t.heap ∧ va_K (dC, dI) vwCl [(cS, .int)] t ∧ va_D (va_A [(zo14irriiiiiirriirrrrlriiii m0 th aS aI im (nI a) (nI p0) (nI E) 0 5 aB aT se dn aG aO aN aD bv aY rn kd nu tv), (zaI aS cS 901 fS)] sz) [(zo14irriiiiiirriirrrrlriiii m0 th aS aI im (nI a) sp9 (nI E) wg9 5 aB aT se dn aG aO aN aD bv aY rn kd nu tv), (zaI aS cS 901 fS9)]) (va_A [(zo14irriiiiiirriirrrrlriiii m0 th aS aI im (nI a) (nI p0) (nI E) 0 5 aB aT se dn aG aO aN aD bv aY rn kd nu tv), (zaI aS cS 901 fS)] sz)) 0 0 (va_A [(zo14irriiiiiirriirrrrlriiii m0 th aS aI im (nI a) (nI p0) (nI E) 0 5 aB aT se dn aG aO aN aD bv aY rn kd nu tv), (zaI aS cS 901 fS)] sz) := by
  refine met_ofQ (cc := cX12_factor) (maxL := 5) (ret := none) (by decide) rfl ?_
  intro p e s m args below meth c s₁ Q B hml hv hQ
  obtain ⟨rfl, hsz, hP, hK, hD0, hE⟩ := hv
  have hx := B.exec
  have hb := B.bytes
  have hr := B.returns
  have hts := atoms_spec (ws := wsX12_factor) B.pre
  have hown : s.vm.findClass RX12 = some m.cls := findClass_of_methodNamed B.named
  have hlocks := B.notSynchronized
  subst hsz
  have hD := hD0.self (sz := s.heap.size)
  generalize hAe : va_A [(zo14irriiiiiirriirrrrlriiii m0 th aS aI im (nI a) (nI p0) (nI E) 0 5 aB aT se dn aG aO aN aD bv aY rn kd nu tv), (zaI aS cS 901 fS)] s.heap.size = A at hD hQ hE ⊢
  have hA : ∀ q : Nat, s.heap.size ≤ q → A q := fun q h => by rw [← hAe]; exact Or.inr h
  have hS : va_S A s.heap s.heap [] := va_S.rf
  have hl := lv_entry [.ref m0] (n := 5) (Nat.le_of_ble_eq_true rfl)
  rw [lg_entry_eq]
  generalize (lg_sl [.ref m0] ++ List.replicate (5 - (lg_sl [.ref m0]).length) Slot.unset).toArray = ls at hl ⊢
  generalize hag : ([.ref m0] : List Value).toArray = args at hts hQ ⊢
  have hl : lv_has ls 5 [(0, .ref m0)] := hl
  obtain ⟨H, hH⟩ : ∃ H : Heap, H = s.heap := ⟨_, rfl⟩
  rw [← hH] at hP
  rw [← hH]
  have hS : va_S A s.heap H [] := by rw [hH]; exact hS
  obtain ⟨locs, hlo⟩ : ∃ L : List Loc, L = [] := ⟨_, rfl⟩
  rw [← hlo] at hS
  rw [← hlo]
  clear hH hlo
  obtain ⟨ga, gp, gE, zk, gkp, gd, gs, gcd⟩ := id gI
  refine lv_aload_n hx hb dX12_factor_0 rfl (lv_at hl 0 rfl) ?_
  refine va_get (D := (dC, dI)) (ci := 14) (v := .int 0) (C := RX12) (T := TX12) (N := 23) hx hb hts kc_factor5_0 hown hK hP 0 rfl rfl 7 (by decide) (hts (.fieldLink RX12 65 "MistHeapsModel" "isWrong" "Z") kc_factor5_1) (fun _ h9 => h9) rfl dX12_factor_1 ?_
  refine lv_if_eq (tgt := 8) hx hb dX12_factor_4 (by decide) (fun _ => ?_) (fun c_1 => absurd c_1 (by decide))
  refine lv_aload_n hx hb dX12_factor_8 rfl (lv_at hl 0 rfl) ?_
  have hPc := hP.sub (ws' := [(zo14irriiiiiirriirrrrlriiii m0 th aS aI im (nI a) (nI p0) (nI E) 0 5 aB aT se dn aG aO aN aD bv aY rn kd nu tv), (zaI aS cS 901 fS)]) [0, 1] rfl
  have hKc := hK.sub (tys' := [(cS, .int)]) [0] rfl
  refine vp_callSi (va_runV (As := []) (rest := []) ⟨hx, hb, hml, hown, hts⟩ (c_here l dC dI m0 aS aI aB aT aG aO aN aD aY th im (nI a) (nI p0) (nI E) 0 5 se dn rn kd nu tv bv cS fS a p0 E (by omega) (by omega) (by omega)) (cwV 0 hts gX12_factor_X12_here rfl rfl rfl hd_yX12_here ⟨Nat.le_of_ble_eq_true rfl, Nat.le_of_ble_eq_true rfl⟩) ⟨fun a U g mk q => by obtain ⟨q0, qP, qK⟩ := q; exact ⟨q0, mvP g mk a qP, mvK g mk a qK⟩, va_recv hK hP (ci := 14) (q := (RX12, TX12, 23)) (q0 := 0) rfl rfl, fun U hU hW => ⟨rfl, by rw [hU]; exact hPc, va_K.moved hW.alike hKc⟩⟩ rfl rfl hl.1 rfl (lv_room (Nat.le_of_ble_eq_true rfl)) dX12_factor_9 ⟨Nat.le_of_ble_eq_true rfl, Nat.le_of_ble_eq_true rfl⟩).run (fun r_2 hw_3 => ?_)
  refine lv_istore_n (lv' := [(1, .int r_2), (0, .ref m0)]) hx hb dX12_factor_12 rfl hl (by decide) rfl (fun ls hl => ?_)
  refine lv_iload_n hx hb dX12_factor_13 rfl (lv_at hl 0 rfl) ?_
  refine lv_bipush (v := 33) hx hb dX12_factor_14 (by decide) ?_
  refine lv_icmp_eq (tgt := 25) hx hb dX12_factor_16 (by decide) (fun c_4 => ?_) (fun c_4 => ?_)
  · skip
    subst c_4
    have hs : ss p0 = 33 := (gT.eq (c := 33) (by omega) (by omega)).mp hw_3.symm
    have hlt : p0 < E := Nat.lt_of_not_le (fun z => by have := gT.2.1 p0 z; omega)
    refine lv_aload_n hx hb dX12_factor_25 rfl (lv_at hl 1 rfl) ?_
    refine lv_aload_n hx hb dX12_factor_26 rfl (lv_at hl 1 rfl) ?_
    refine va_get (D := (dC, dI)) (ci := 14) (v := .int 5) (C := RX12) (T := TX12) (N := 23) hx hb hts kc_factor5_0 hown hK hP 0 rfl rfl 8 (by decide) (hts (.fieldLink RX12 89 "MistHeapsModel" "open" "I") kc_factor5_2) (fun _ h9 => h9) rfl dX12_factor_27 ?_
    refine lv_iconst (v := 5) hx hb dX12_factor_30 (by decide) ?_
    refine lv_icmp_ne (tgt := 38) hx hb dX12_factor_31 (by decide) (fun c_5 => absurd c_5 (by decide)) (fun _ => ?_)
    refine lv_iconst (v := 1) hx hb dX12_factor_34 (by decide) ?_
    refine lv_goto (tgt := 39) hx hb dX12_factor_35 (by decide) ?_
    refine va_put (D := (dC, dI)) (ci := 14) (v := .int 1) (ty := .boolean) (C := RX12) (T := TX12) (N := 23) hx hb hts kc_factor5_0 tyX12 tyX12_ok nmX12 hown hK hP hD hS 0 rfl rfl 7 (by decide) (hts (.fieldLink RX12 65 "MistHeapsModel" "isWrong" "Z") kc_factor5_1) (fun _ h9 => h9) rfl (by decide +kernel) rfl rfl (Nat.le_of_ble_eq_true rfl) dX12_factor_39 (fun H locs hP hD hS => ?_)
    have hP : va_P (dC, dI) vwCl [(zo14irriiiiiirriirrrrlriiii m0 th aS aI im (nI a) (nI p0) (nI E) 1 5 aB aT se dn aG aO aN aD bv aY rn kd nu tv), (zaI aS cS 901 fS)] H := hP
    have hD : va_D A [(zo14irriiiiiirriirrrrlriiii m0 th aS aI im (nI a) (nI p0) (nI E) 1 5 aB aT se dn aG aO aN aD bv aY rn kd nu tv), (zaI aS cS 901 fS)] := hD
    refine lv_aload_n hx hb dX12_factor_42 rfl (lv_at hl 1 rfl) ?_
    refine lv_dup hx hb dX12_factor_43 rfl ?_
    refine va_get (D := (dC, dI)) (ci := 14) (v := .int 5) (C := RX12) (T := TX12) (N := 23) hx hb hts kc_factor5_0 hown hK hP 0 rfl rfl 8 (by decide) (hts (.fieldLink RX12 89 "MistHeapsModel" "open" "I") kc_factor5_2) (fun _ h9 => h9) rfl dX12_factor_44 ?_
    refine lv_iconst (v := 1) hx hb dX12_factor_47 (by decide) ?_
    refine lv_iadd hx hb dX12_factor_48 ?_
    refine qi_as (y := 6) (by decide) ?_
    refine va_put (D := (dC, dI)) (ci := 14) (v := .int 6) (ty := .int) (C := RX12) (T := TX12) (N := 23) hx hb hts kc_factor5_0 tyX12 tyX12_ok nmX12 hown hK hP hD hS 0 rfl rfl 8 (by decide) (hts (.fieldLink RX12 89 "MistHeapsModel" "open" "I") kc_factor5_2) (fun _ h9 => h9) rfl (by decide +kernel) rfl rfl (Nat.le_of_ble_eq_true rfl) dX12_factor_49 (fun H locs hP hD hS => ?_)
    have hP : va_P (dC, dI) vwCl [(zo14irriiiiiirriirrrrlriiii m0 th aS aI im (nI a) (nI p0) (nI E) 1 6 aB aT se dn aG aO aN aD bv aY rn kd nu tv), (zaI aS cS 901 fS)] H := hP
    have hD : va_D A [(zo14irriiiiiirriirrrrlriiii m0 th aS aI im (nI a) (nI p0) (nI E) 1 6 aB aT se dn aG aO aN aD bv aY rn kd nu tv), (zaI aS cS 901 fS)] := hD
    refine lv_aload_n hx hb dX12_factor_52 rfl (lv_at hl 1 rfl) ?_
    refine lv_dup hx hb dX12_factor_53 rfl ?_
    refine va_get (D := (dC, dI)) (ci := 14) (v := .int (nI p0)) (C := RX12) (T := TX12) (N := 23) hx hb hts kc_factor5_0 hown hK hP 0 rfl rfl 5 (by decide) (hts (.fieldLink RX12 59 "MistHeapsModel" "spot" "I") kc_factor5_3) (fun _ h9 => h9) rfl dX12_factor_54 ?_
    refine lv_aload_n hx hb dX12_factor_57 rfl (lv_at hl 1 rfl) ?_
    refine va_get (D := (dC, dI)) (ci := 14) (v := .int 1) (C := RX12) (T := TX12) (N := 23) hx hb hts kc_factor5_0 hown hK hP 0 rfl rfl 7 (by decide) (hts (.fieldLink RX12 65 "MistHeapsModel" "isWrong" "Z") kc_factor5_1) (fun _ h9 => h9) rfl dX12_factor_58 ?_
    refine lv_if_eq (tgt := 68) hx hb dX12_factor_61 (by decide) (fun c_6 => absurd c_6 (by decide)) (fun _ => ?_)
    refine lv_iconst (v := 0) hx hb dX12_factor_64 (by decide) ?_
    refine lv_goto (tgt := 69) hx hb dX12_factor_65 (by decide) ?_
    refine lv_iadd hx hb dX12_factor_69 ?_
    refine qi_as (y := nI (p0 + 0)) (nI_add p0 0) ?_
    refine va_put (D := (dC, dI)) (ci := 14) (v := .int (nI (p0 + 0))) (ty := .int) (C := RX12) (T := TX12) (N := 23) hx hb hts kc_factor5_0 tyX12 tyX12_ok nmX12 hown hK hP hD hS 0 rfl rfl 5 (by decide) (hts (.fieldLink RX12 59 "MistHeapsModel" "spot" "I") kc_factor5_3) (fun _ h9 => h9) rfl (by decide +kernel) rfl rfl (Nat.le_of_ble_eq_true rfl) dX12_factor_70 (fun H locs hP hD hS => ?_)
    have hP : va_P (dC, dI) vwCl [(zo14irriiiiiirriirrrrlriiii m0 th aS aI im (nI a) (nI (p0 + 0)) (nI E) 1 6 aB aT se dn aG aO aN aD bv aY rn kd nu tv), (zaI aS cS 901 fS)] H := hP
    have hD : va_D A [(zo14irriiiiiirriirrrrlriiii m0 th aS aI im (nI a) (nI (p0 + 0)) (nI E) 1 6 aB aT se dn aG aO aN aD bv aY rn kd nu tv), (zaI aS cS 901 fS)] := hD
    refine lv_iload_n hx hb dX12_factor_73 rfl (lv_at hl 0 rfl) ?_
    refine lv_bipush (v := 33) hx hb dX12_factor_74 (by decide) ?_
    refine lv_icmp_ne (tgt := 91) hx hb dX12_factor_76 (by decide) (fun c_7 => absurd c_7 (by decide)) (fun _ => ?_)
    refine lv_aload_n hx hb dX12_factor_79 rfl (lv_at hl 1 rfl) ?_
    have hPc := hP.sub (ws' := [(zo14irriiiiiirriirrrrlriiii m0 th aS aI im (nI a) (nI (p0 + 0)) (nI E) 1 6 aB aT se dn aG aO aN aD bv aY rn kd nu tv)]) [0] rfl
    have hKc := hK.sub (tys' := []) [] rfl
    refine va_csv (va_runV (As := []) (rest := []) ⟨hx, hb, hml, hown, hts⟩ (c_factorW l dC dI m0 aS aI aB aT aG aO aN aD aY th im (nI a) (nI (p0 + 0)) (nI E) 1 6 se dn rn kd nu tv bv) (cwV 0 hts gX12_factor_X12_factor rfl rfl rfl hd_yX12_factor ⟨Nat.le_of_ble_eq_true rfl, Nat.le_of_ble_eq_true rfl⟩) ⟨fun a U g mk q => by obtain ⟨q0, qP, qK⟩ := q; exact ⟨q0, mvP g mk a qP, mvK g mk a qK⟩, va_recv hK hP (ci := 14) (q := (RX12, TX12, 23)) (q0 := 0) rfl rfl, fun U hU hW => ⟨rfl, by rw [hU]; exact hPc, va_K.moved hW.alike hKc⟩⟩ rfl rfl hl.1 rfl (lv_room (Nat.le_of_ble_eq_true rfl)) dX12_factor_80 ⟨Nat.le_of_ble_eq_true rfl, Nat.le_of_ble_eq_true rfl⟩).run (fun hw_9 => ?_)
    refine lv_aload_n hx hb dX12_factor_83 rfl (lv_at hl 1 rfl) ?_
    refine lv_iconst (v := (-1)) hx hb dX12_factor_84 (by decide) ?_
    have hPc := hP.sub (ws' := [(zo14irriiiiiirriirrrrlriiii m0 th aS aI im (nI a) (nI (p0 + 0)) (nI E) 1 6 aB aT se dn aG aO aN aD bv aY rn kd nu tv)]) [0] rfl
    have hKc := hK.sub (tys' := []) [] rfl
    refine va_csv (va_runV (As := [.int (-1)]) (rest := []) ⟨hx, hb, hml, hown, hts⟩ (c_emitsW l dC dI m0 aS aI aB aT aG aO aN aD aY th im (nI a) (nI (p0 + 0)) (nI E) 1 6 se dn rn kd nu tv bv (-1)) (cwV 1 hts gX12_factor_X12_emits rfl rfl rfl hd_yX12_emits ⟨Nat.le_of_ble_eq_true rfl, Nat.le_of_ble_eq_true rfl⟩) ⟨fun a U g mk q => by obtain ⟨q0, qP, qK⟩ := q; exact ⟨q0, mvP g mk a qP, mvK g mk a qK⟩, va_recv hK hP (ci := 14) (q := (RX12, TX12, 23)) (q0 := 0) rfl rfl, fun U hU hW => ⟨rfl, by rw [hU]; exact hPc, va_K.moved hW.alike hKc⟩⟩ rfl rfl hl.1 rfl (lv_room (Nat.le_of_ble_eq_true rfl)) dX12_factor_85 ⟨Nat.le_of_ble_eq_true rfl, Nat.le_of_ble_eq_true rfl⟩).run (fun hw_11 => ?_)
    refine lv_goto (tgt := 101) hx hb dX12_factor_88 (by decide) ?_
    refine lv_aload_n hx hb dX12_factor_101 rfl (lv_at hl 1 rfl) ?_
    refine lv_dup hx hb dX12_factor_102 rfl ?_
    refine va_get (D := (dC, dI)) (ci := 14) (v := .int 6) (C := RX12) (T := TX12) (N := 23) hx hb hts kc_factor5_0 hown hK hP 0 rfl rfl 8 (by decide) (hts (.fieldLink RX12 89 "MistHeapsModel" "open" "I") kc_factor5_2) (fun _ h9 => h9) rfl dX12_factor_103 ?_
    refine lv_iconst (v := 1) hx hb dX12_factor_106 (by decide) ?_
    refine lv_isub hx hb dX12_factor_107 ?_
    refine qi_as (y := 5) (by decide) ?_
    refine va_put (D := (dC, dI)) (ci := 14) (v := .int 5) (ty := .int) (C := RX12) (T := TX12) (N := 23) hx hb hts kc_factor5_0 tyX12 tyX12_ok nmX12 hown hK hP hD hS 0 rfl rfl 8 (by decide) (hts (.fieldLink RX12 89 "MistHeapsModel" "open" "I") kc_factor5_2) (fun _ h9 => h9) rfl (by decide +kernel) rfl rfl (Nat.le_of_ble_eq_true rfl) dX12_factor_108 (fun H locs hP hD hS => ?_)
    have hP : va_P (dC, dI) vwCl [(zo14irriiiiiirriirrrrlriiii m0 th aS aI im (nI a) (nI (p0 + 0)) (nI E) 1 5 aB aT se dn aG aO aN aD bv aY rn kd nu tv), (zaI aS cS 901 fS)] H := hP
    have hD : va_D A [(zo14irriiiiiirriirrrrlriiii m0 th aS aI im (nI a) (nI (p0 + 0)) (nI E) 1 5 aB aT se dn aG aO aN aD bv aY rn kd nu tv), (zaI aS cS 901 fS)] := hD
    rw [hQ]
    have hP9 := hP.sub (ws' := [(zo14irriiiiiirriirrrrlriiii m0 th aS aI im (nI a) (nI (p0 + 0)) (nI E) 1 5 aB aT se dn aG aO aN aD bv aY rn kd nu tv), (zaI aS cS 901 fS)]) [0, 1] rfl
    have hD9 := hD.sub (ws' := [(zo14irriiiiiirriirrrrlriiii m0 th aS aI im (nI a) (nI (p0 + 0)) (nI E) 1 5 aB aT se dn aG aO aN aD bv aY rn kd nu tv), (zaI aS cS 901 fS)]) [0, 1] (by decide) rfl
    have hK9 := hK.sub (tys' := [(cS, .int)]) [0] rfl
    exact W.vret hx hb hr (fun tQ htQ hWQ => ⟨⟨(fS, (nI (p0 + 0)), 1), rfl, ⟨p0 + 0, rfl, by omega, by omega, PF.rf, Or.inl ⟨rfl, pf_0 (Or.inl hs)⟩⟩, by rw [htQ]; exact hP9, va_K.moved hWQ.alike hK9, hD9⟩, hS.F htQ⟩) hS.2.2 dX12_factor_111
  · skip
    have hn33 : ¬ ss p0 = 33 := fun z => c_4 (hw_3.trans ((gT.eq (c := 33) (by omega) (by omega)).mpr z))
    refine lv_iload_n hx hb dX12_factor_19 rfl (lv_at hl 0 rfl) ?_
    refine lv_bipush (v := 40) hx hb dX12_factor_20 (by decide) ?_
    refine lv_icmp_ne (tgt := 112) hx hb dX12_factor_22 (by decide) (fun c_12 => ?_) (fun c_12 => ?_)
    · skip
      have hn40 : ¬ ss p0 = 40 := fun z => c_12 (hw_3.trans ((gT.eq (c := 40) (by omega) (by omega)).mpr z))
      refine lv_aload_n hx hb dX12_factor_112 rfl (lv_at hl 1 rfl) ?_
      refine va_ldcS hx hb hown (show vk_R RX12 101 "hkrcms" (sK 6) s from hE.1 6 (by decide)) dX12_factor_113 ?_
      have hPc := hP.sub (ws' := [(zo14irriiiiiirriirrrrlriiii m0 th aS aI im (nI a) (nI p0) (nI E) 0 5 aB aT se dn aG aO aN aD bv aY rn kd nu tv), (zaI aS cS 901 fS)]) [0, 1] rfl
      have hDc := hD.sub (ws' := [(zo14irriiiiiirriirrrrlriiii m0 th aS aI im (nI a) (nI p0) (nI E) 0 5 aB aT se dn aG aO aN aD bv aY rn kd nu tv), (zaI aS cS 901 fS)]) [0, 1] (by decide) rfl
      have hKc := hK.sub (tys' := [(cS, .int)]) [0] rfl
      have hFc := va_free (wc := [(zo14irriiiiiirriirrrrlriiii m0 th aS aI im (nI a) (nI p0) (nI E) 0 5 aB aT se dn aG aO aN aD bv aY rn kd nu tv), (zaI aS cS 901 fS)]) hD hS hA [0, 1] rfl
      refine va_calli (va_runV (As := [.ref (sK 6)]) (rest := []) ⟨hx, hb, hml, hown, hts⟩ (c_among l dC dI sK sV m0 aS aI aB aT aG aO aN aD aY th im (nI a) (nI p0) (nI E) 0 5 se dn rn kd nu tv bv cS fS a p0 E 6 ss H.size (by omega) (by omega) (by omega) (by decide) (gT)) (cwV 1 hts gX12_factor_X12_among rfl rfl rfl hd_yX12_among ⟨Nat.le_of_ble_eq_true rfl, Nat.le_of_ble_eq_true rfl⟩) ⟨fun a U g mk q => by obtain ⟨q0, q1, qP, qK, qD, qhE⟩ := q; exact ⟨q0, mvz g mk a q1, mvP g mk a qP, mvK g mk a qK, qD, qhE.mv g mk a⟩, va_recv hK hP (ci := 14) (q := (RX12, TX12, 23)) (q0 := 0) rfl rfl, fun U hU hW => ⟨rfl, by rw [hU], by rw [hU]; exact hPc, va_K.moved hW.alike hKc, hDc.weaken (fun _ _ _ _ => trivial), hE.call hS hU hW (fun q h => hFc q h)⟩⟩ rfl rfl hl.1 rfl (lv_room (Nat.le_of_ble_eq_true rfl)) dX12_factor_115 ⟨Nat.le_of_ble_eq_true rfl, Nat.le_of_ble_eq_true rfl⟩) hS (fun q _ h => hFc q h) hFc (fun r_13 u tC H1 locs htC hvm hw_14 hB hz1 hk1 hS => ?_)
      obtain ⟨sp9_15, rfl⟩ : ∃ z, z = u := ⟨_, rfl⟩
      try dsimp only at hw_14 hB
      obtain ⟨hP1, hK1, hD1⟩ := hB
      rw [htC] at hP1
      have hK1 := va_K.moved hvm.symm hK1
      obtain ⟨hP, hD⟩ := va_join (wr := []) (w1 := [(zo14irriiiiiirriirrrrlriiii m0 th aS aI im (nI a) sp9_15 (nI E) 0 5 aB aT se dn aG aO aN aD bv aY rn kd nu tv), (zaI aS cS 901 fS)]) hP hD [0, 1] [] rfl rfl (by decide) (by decide) hk1 hFc hP1 hD1
      have hK := (hK.sub (tys' := []) [] rfl).app hK1
      generalize H1 = H at hP hS ⊢
      have hP : va_P (dC, dI) vwCl [(zo14irriiiiiirriirrrrlriiii m0 th aS aI im (nI a) sp9_15 (nI E) 0 5 aB aT se dn aG aO aN aD bv aY rn kd nu tv), (zaI aS cS 901 fS)] H := hP
      have hD : va_D A [(zo14irriiiiiirriirrrrlriiii m0 th aS aI im (nI a) sp9_15 (nI E) 0 5 aB aT se dn aG aO aN aD bv aY rn kd nu tv), (zaI aS cS 901 fS)] := hD
      have hK : va_K (dC, dI) vwCl [(cS, .int)] s := hK
      rcases hw_14 with ⟨rfl, rfl, h_19⟩ | ⟨j_16, hj_17, rfl, h_18, rfl, h_19⟩
      · skip
        have hx6 := am6_n (fun q hq => h_19 q hq)
        refine lv_istore_n (lv' := [(2, .int (-1)), (1, .int r_2), (0, .ref m0)]) hx hb dX12_factor_118 rfl hl (by decide) rfl (fun ls hl => ?_)
        refine lv_aload_n hx hb dX12_factor_119 rfl (lv_at hl 2 rfl) ?_
        refine lv_iload_n hx hb dX12_factor_120 rfl (lv_at hl 0 rfl) ?_
        refine lv_iconst (v := (-1)) hx hb dX12_factor_121 (by decide) ?_
        refine lv_icmp_ne (tgt := 129) hx hb dX12_factor_122 (by decide) (fun c_20 => absurd c_20 (by decide)) (fun _ => ?_)
        refine lv_iconst (v := 1) hx hb dX12_factor_125 (by decide) ?_
        refine lv_goto (tgt := 130) hx hb dX12_factor_126 (by decide) ?_
        refine va_put (D := (dC, dI)) (ci := 14) (v := .int 1) (ty := .boolean) (C := RX12) (T := TX12) (N := 23) hx hb hts kc_factor5_0 tyX12 tyX12_ok nmX12 hown hK hP hD hS 0 rfl rfl 7 (by decide) (hts (.fieldLink RX12 65 "MistHeapsModel" "isWrong" "Z") kc_factor5_1) (fun _ h9 => h9) rfl (by decide +kernel) rfl rfl (Nat.le_of_ble_eq_true rfl) dX12_factor_130 (fun H locs hP hD hS => ?_)
        have hP : va_P (dC, dI) vwCl [(zo14irriiiiiirriirrrrlriiii m0 th aS aI im (nI a) (nI p0) (nI E) 1 5 aB aT se dn aG aO aN aD bv aY rn kd nu tv), (zaI aS cS 901 fS)] H := hP
        have hD : va_D A [(zo14irriiiiiirriirrrrlriiii m0 th aS aI im (nI a) (nI p0) (nI E) 1 5 aB aT se dn aG aO aN aD bv aY rn kd nu tv), (zaI aS cS 901 fS)] := hD
        refine lv_aload_n hx hb dX12_factor_133 rfl (lv_at hl 2 rfl) ?_
        refine va_get (D := (dC, dI)) (ci := 14) (v := .int 1) (C := RX12) (T := TX12) (N := 23) hx hb hts kc_factor5_0 hown hK hP 0 rfl rfl 7 (by decide) (hts (.fieldLink RX12 65 "MistHeapsModel" "isWrong" "Z") kc_factor5_1) (fun _ h9 => h9) rfl dX12_factor_134 ?_
        refine lv_if_eq (tgt := 144) hx hb dX12_factor_137 (by decide) (fun c_21 => absurd c_21 (by decide)) (fun _ => ?_)
        refine lv_iconst (v := 0) hx hb dX12_factor_140 (by decide) ?_
        refine lv_goto (tgt := 150) hx hb dX12_factor_141 (by decide) ?_
        refine lv_istore_n (lv' := [(3, .int 0), (2, .int (-1)), (1, .int r_2), (0, .ref m0)]) hx hb dX12_factor_150 rfl hl (by decide) rfl (fun ls hl => ?_)
        refine lv_aload_n hx hb dX12_factor_151 rfl (lv_at hl 3 rfl) ?_
        refine lv_aload_n hx hb dX12_factor_152 rfl (lv_at hl 3 rfl) ?_
        refine va_get (D := (dC, dI)) (ci := 14) (v := .int 1) (C := RX12) (T := TX12) (N := 23) hx hb hts kc_factor5_0 hown hK hP 0 rfl rfl 7 (by decide) (hts (.fieldLink RX12 65 "MistHeapsModel" "isWrong" "Z") kc_factor5_1) (fun _ h9 => h9) rfl dX12_factor_153 ?_
        refine lv_if_ne (tgt := 164) hx hb dX12_factor_156 (by decide) (fun _ => ?_) (fun c_22 => absurd c_22 (by decide))
        refine lv_iconst (v := 1) hx hb dX12_factor_164 (by decide) ?_
        refine lv_goto (tgt := 169) hx hb dX12_factor_165 (by decide) ?_
        refine va_put (D := (dC, dI)) (ci := 14) (v := .int 1) (ty := .boolean) (C := RX12) (T := TX12) (N := 23) hx hb hts kc_factor5_0 tyX12 tyX12_ok nmX12 hown hK hP hD hS 0 rfl rfl 7 (by decide) (hts (.fieldLink RX12 65 "MistHeapsModel" "isWrong" "Z") kc_factor5_1) (fun _ h9 => h9) rfl (by decide +kernel) rfl rfl (Nat.le_of_ble_eq_true rfl) dX12_factor_169 (fun H locs hP hD hS => ?_)
        have hP : va_P (dC, dI) vwCl [(zo14irriiiiiirriirrrrlriiii m0 th aS aI im (nI a) (nI p0) (nI E) 1 5 aB aT se dn aG aO aN aD bv aY rn kd nu tv), (zaI aS cS 901 fS)] H := hP
        have hD : va_D A [(zo14irriiiiiirriirrrrlriiii m0 th aS aI im (nI a) (nI p0) (nI E) 1 5 aB aT se dn aG aO aN aD bv aY rn kd nu tv), (zaI aS cS 901 fS)] := hD
        refine lv_aload_n hx hb dX12_factor_172 rfl (lv_at hl 3 rfl) ?_
        have hPc := hP.sub (ws' := [(zo14irriiiiiirriirrrrlriiii m0 th aS aI im (nI a) (nI p0) (nI E) 1 5 aB aT se dn aG aO aN aD bv aY rn kd nu tv), (zaI aS cS 901 fS)]) [0, 1] rfl
        have hDc := hD.sub (ws' := [(zo14irriiiiiirriirrrrlriiii m0 th aS aI im (nI a) (nI p0) (nI E) 1 5 aB aT se dn aG aO aN aD bv aY rn kd nu tv), (zaI aS cS 901 fS)]) [0, 1] (by decide) rfl
        have hKc := hK.sub (tys' := [(cS, .int)]) [0] rfl
        have hFc := va_free (wc := [(zo14irriiiiiirriirrrrlriiii m0 th aS aI im (nI a) (nI p0) (nI E) 1 5 aB aT se dn aG aO aN aD bv aY rn kd nu tv), (zaI aS cS 901 fS)]) hD hS hA [0, 1] rfl
        refine va_calli (va_runV (As := []) (rest := []) ⟨hx, hb, hml, hown, hts⟩ (c_figures l dC dI m0 aS aI aB aT aG aO aN aD aY th im (nI a) (nI p0) (nI E) 1 5 se dn rn kd nu tv bv cS fS a p0 E ss H.size (by omega) (by omega) (by omega) (Or.inr rfl) (gT)) (cwV 0 hts gX12_factor_X12_figures rfl rfl rfl hd_yX12_figures ⟨Nat.le_of_ble_eq_true rfl, Nat.le_of_ble_eq_true rfl⟩) ⟨fun a U g mk q => by obtain ⟨q0, q1, qP, qK, qD⟩ := q; exact ⟨q0, mvz g mk a q1, mvP g mk a qP, mvK g mk a qK, qD⟩, va_recv hK hP (ci := 14) (q := (RX12, TX12, 23)) (q0 := 0) rfl rfl, fun U hU hW => ⟨rfl, by rw [hU], by rw [hU]; exact hPc, va_K.moved hW.alike hKc, hDc.weaken (fun _ _ _ _ => trivial)⟩⟩ rfl rfl hl.1 rfl (lv_room (Nat.le_of_ble_eq_true rfl)) dX12_factor_173 ⟨Nat.le_of_ble_eq_true rfl, Nat.le_of_ble_eq_true rfl⟩) hS (fun q _ h => hFc q h) hFc (fun r_23 u tC H1 locs htC hvm hw_24 hB hz1 hk1 hS => ?_)
        obtain ⟨sp9_25, wg9_26⟩ := u
        try dsimp only at hw_24 hB
        obtain ⟨hP1, hK1, hD1⟩ := hB
        rw [htC] at hP1
        have hK1 := va_K.moved hvm.symm hK1
        obtain ⟨hP, hD⟩ := va_join (wr := []) (w1 := [(zo14irriiiiiirriirrrrlriiii m0 th aS aI im (nI a) sp9_25 (nI E) wg9_26 5 aB aT se dn aG aO aN aD bv aY rn kd nu tv), (zaI aS cS 901 fS)]) hP hD [0, 1] [] rfl rfl (by decide) (by decide) hk1 hFc hP1 hD1
        have hK := (hK.sub (tys' := []) [] rfl).app hK1
        generalize H1 = H at hP hS ⊢
        have hP : va_P (dC, dI) vwCl [(zo14irriiiiiirriirrrrlriiii m0 th aS aI im (nI a) sp9_25 (nI E) wg9_26 5 aB aT se dn aG aO aN aD bv aY rn kd nu tv), (zaI aS cS 901 fS)] H := hP
        have hD : va_D A [(zo14irriiiiiirriirrrrlriiii m0 th aS aI im (nI a) sp9_25 (nI E) wg9_26 5 aB aT se dn aG aO aN aD bv aY rn kd nu tv), (zaI aS cS 901 fS)] := hD
        have hK : va_K (dC, dI) vwCl [(cS, .int)] s := hK
        rcases hw_24 with ⟨rfl, rfl, hN_34, v_27, h_29, rfl⟩ | ⟨rfl, h_33, v_27, p_28, h_29, h_30, h_31, rfl, rfl, hN_34⟩
        · skip
          refine lv_istore (lv' := [(4, .int (nI v_27)), (3, .int 0), (2, .int (-1)), (1, .int r_2), (0, .ref m0)]) hx hb dX12_factor_176 hl (by decide) rfl (fun ls hl => ?_)
          refine lv_aload_n hx hb dX12_factor_178 rfl (lv_at hl 4 rfl) ?_
          refine lv_iload_n hx hb dX12_factor_179 rfl (lv_at hl 2 rfl) ?_
          refine lv_bipush (v := 8) hx hb dX12_factor_180 (by decide) ?_
          refine lv_iload_n hx hb dX12_factor_182 rfl (lv_at hl 1 rfl) ?_
          refine lv_imul hx hb dX12_factor_183 ?_
          refine qi_as (y := 0) (by decide) ?_
          refine lv_iadd hx hb dX12_factor_184 ?_
          refine qi_as (y := (-1)) (by decide) ?_
          refine lv_bipush (v := 32) hx hb dX12_factor_185 (by decide) ?_
          refine lv_iload hx hb dX12_factor_187 (lv_at hl 0 rfl) ?_
          refine lv_imul hx hb dX12_factor_189 ?_
          refine qi_as (y := nI (32 * v_27)) (pk_mul 32 v_27) ?_
          refine lv_iadd hx hb dX12_factor_190 ?_
          have hPc := hP.sub (ws' := [(zo14irriiiiiirriirrrrlriiii m0 th aS aI im (nI a) (nI p0) (nI E) 1 5 aB aT se dn aG aO aN aD bv aY rn kd nu tv)]) [0] rfl
          have hKc := hK.sub (tys' := []) [] rfl
          refine va_csv (va_runV (As := [.int ((-1) + (nI (32 * v_27)))]) (rest := []) ⟨hx, hb, hml, hown, hts⟩ (c_emitsW l dC dI m0 aS aI aB aT aG aO aN aD aY th im (nI a) (nI p0) (nI E) 1 5 se dn rn kd nu tv bv ((-1) + (nI (32 * v_27)))) (cwV 1 hts gX12_factor_X12_emits rfl rfl rfl hd_yX12_emits ⟨Nat.le_of_ble_eq_true rfl, Nat.le_of_ble_eq_true rfl⟩) ⟨fun a U g mk q => by obtain ⟨q0, qP, qK⟩ := q; exact ⟨q0, mvP g mk a qP, mvK g mk a qK⟩, va_recv hK hP (ci := 14) (q := (RX12, TX12, 23)) (q0 := 0) rfl rfl, fun U hU hW => ⟨rfl, by rw [hU]; exact hPc, va_K.moved hW.alike hKc⟩⟩ rfl rfl hl.1 rfl (lv_room (Nat.le_of_ble_eq_true rfl)) dX12_factor_191 ⟨Nat.le_of_ble_eq_true rfl, Nat.le_of_ble_eq_true rfl⟩).run (fun hw_36 => ?_)
          rw [hQ]
          have hP9 := hP.sub (ws' := [(zo14irriiiiiirriirrrrlriiii m0 th aS aI im (nI a) (nI p0) (nI E) 1 5 aB aT se dn aG aO aN aD bv aY rn kd nu tv), (zaI aS cS 901 fS)]) [0, 1] rfl
          have hD9 := hD.sub (ws' := [(zo14irriiiiiirriirrrrlriiii m0 th aS aI im (nI a) (nI p0) (nI E) 1 5 aB aT se dn aG aO aN aD bv aY rn kd nu tv), (zaI aS cS 901 fS)]) [0, 1] (by decide) rfl
          have hK9 := hK.sub (tys' := [(cS, .int)]) [0] rfl
          exact W.vret hx hb hr (fun tQ htQ hWQ => ⟨⟨(fS, (nI p0), 1), rfl, ⟨p0, rfl, by omega, by omega, PF.rf, Or.inl ⟨rfl, (pf_t hn33 hn40).trans (pt_1 hx6)⟩⟩, by rw [htQ]; exact hP9, va_K.moved hWQ.alike hK9, hD9⟩, hS.F htQ⟩) hS.2.2 dX12_factor_194
        · skip
          exact absurd h_33 (by decide)
      · skip
        have hj_17 : j_16 < 6 := hj_17
        have hx6 := am6_y hj_17 h_19
        refine lv_istore_n (lv' := [(2, .int (nI j_16)), (1, .int r_2), (0, .ref m0)]) hx hb dX12_factor_118 rfl hl (by decide) rfl (fun ls hl => ?_)
        refine lv_aload_n hx hb dX12_factor_119 rfl (lv_at hl 2 rfl) ?_
        refine lv_iload_n hx hb dX12_factor_120 rfl (lv_at hl 0 rfl) ?_
        refine lv_iconst (v := (-1)) hx hb dX12_factor_121 (by decide) ?_
        refine lv_icmp_ne (tgt := 129) hx hb dX12_factor_122 (by decide) (fun c_37 => ?_) (fun c_37 => absurd c_37 (nI_nm1 (by omega)))
        refine lv_iconst (v := 0) hx hb dX12_factor_129 (by decide) ?_
        refine va_put (D := (dC, dI)) (ci := 14) (v := .int 0) (ty := .boolean) (C := RX12) (T := TX12) (N := 23) hx hb hts kc_factor5_0 tyX12 tyX12_ok nmX12 hown hK hP hD hS 0 rfl rfl 7 (by decide) (hts (.fieldLink RX12 65 "MistHeapsModel" "isWrong" "Z") kc_factor5_1) (fun _ h9 => h9) rfl (by decide +kernel) rfl rfl (Nat.le_of_ble_eq_true rfl) dX12_factor_130 (fun H locs hP hD hS => ?_)
        have hP : va_P (dC, dI) vwCl [(zo14irriiiiiirriirrrrlriiii m0 th aS aI im (nI a) (nI (p0 + 1)) (nI E) 0 5 aB aT se dn aG aO aN aD bv aY rn kd nu tv), (zaI aS cS 901 fS)] H := hP
        have hD : va_D A [(zo14irriiiiiirriirrrrlriiii m0 th aS aI im (nI a) (nI (p0 + 1)) (nI E) 0 5 aB aT se dn aG aO aN aD bv aY rn kd nu tv), (zaI aS cS 901 fS)] := hD
        refine lv_aload_n hx hb dX12_factor_133 rfl (lv_at hl 2 rfl) ?_
        refine va_get (D := (dC, dI)) (ci := 14) (v := .int 0) (C := RX12) (T := TX12) (N := 23) hx hb hts kc_factor5_0 hown hK hP 0 rfl rfl 7 (by decide) (hts (.fieldLink RX12 65 "MistHeapsModel" "isWrong" "Z") kc_factor5_1) (fun _ h9 => h9) rfl dX12_factor_134 ?_
        refine lv_if_eq (tgt := 144) hx hb dX12_factor_137 (by decide) (fun _ => ?_) (fun c_38 => absurd c_38 (by decide))
        refine lv_aload_n hx hb dX12_factor_144 rfl (lv_at hl 2 rfl) ?_
        refine va_ldcS hx hb hown (show vk_R RX12 107 "<=>" (sK 7) s from hE.1 7 (by decide)) dX12_factor_145 ?_
        have hPc := hP.sub (ws' := [(zo14irriiiiiirriirrrrlriiii m0 th aS aI im (nI a) (nI (p0 + 1)) (nI E) 0 5 aB aT se dn aG aO aN aD bv aY rn kd nu tv), (zaI aS cS 901 fS)]) [0, 1] rfl
        have hDc := hD.sub (ws' := [(zo14irriiiiiirriirrrrlriiii m0 th aS aI im (nI a) (nI (p0 + 1)) (nI E) 0 5 aB aT se dn aG aO aN aD bv aY rn kd nu tv), (zaI aS cS 901 fS)]) [0, 1] (by decide) rfl
        have hKc := hK.sub (tys' := [(cS, .int)]) [0] rfl
        have hFc := va_free (wc := [(zo14irriiiiiirriirrrrlriiii m0 th aS aI im (nI a) (nI (p0 + 1)) (nI E) 0 5 aB aT se dn aG aO aN aD bv aY rn kd nu tv), (zaI aS cS 901 fS)]) hD hS hA [0, 1] rfl
        refine va_calli (va_runV (As := [.ref (sK 7)]) (rest := []) ⟨hx, hb, hml, hown, hts⟩ (c_among l dC dI sK sV m0 aS aI aB aT aG aO aN aD aY th im (nI a) (nI (p0 + 1)) (nI E) 0 5 se dn rn kd nu tv bv cS fS a (p0 + 1) E 7 ss H.size (by omega) (by omega) (by omega) (by decide) (gT)) (cwV 1 hts gX12_factor_X12_among rfl rfl rfl hd_yX12_among ⟨Nat.le_of_ble_eq_true rfl, Nat.le_of_ble_eq_true rfl⟩) ⟨fun a U g mk q => by obtain ⟨q0, q1, qP, qK, qD, qhE⟩ := q; exact ⟨q0, mvz g mk a q1, mvP g mk a qP, mvK g mk a qK, qD, qhE.mv g mk a⟩, va_recv hK hP (ci := 14) (q := (RX12, TX12, 23)) (q0 := 0) rfl rfl, fun U hU hW => ⟨rfl, by rw [hU], by rw [hU]; exact hPc, va_K.moved hW.alike hKc, hDc.weaken (fun _ _ _ _ => trivial), hE.call hS hU hW (fun q h => hFc q h)⟩⟩ rfl rfl hl.1 rfl (lv_room (Nat.le_of_ble_eq_true rfl)) dX12_factor_147 ⟨Nat.le_of_ble_eq_true rfl, Nat.le_of_ble_eq_true rfl⟩) hS (fun q _ h => hFc q h) hFc (fun r_39 u tC H1 locs htC hvm hw_40 hB hz1 hk1 hS => ?_)
        obtain ⟨sp9_41, rfl⟩ : ∃ z, z = u := ⟨_, rfl⟩
        try dsimp only at hw_40 hB
        obtain ⟨hP1, hK1, hD1⟩ := hB
        rw [htC] at hP1
        have hK1 := va_K.moved hvm.symm hK1
        obtain ⟨hP, hD⟩ := va_join (wr := []) (w1 := [(zo14irriiiiiirriirrrrlriiii m0 th aS aI im (nI a) sp9_41 (nI E) 0 5 aB aT se dn aG aO aN aD bv aY rn kd nu tv), (zaI aS cS 901 fS)]) hP hD [0, 1] [] rfl rfl (by decide) (by decide) hk1 hFc hP1 hD1
        have hK := (hK.sub (tys' := []) [] rfl).app hK1
        generalize H1 = H at hP hS ⊢
        have hP : va_P (dC, dI) vwCl [(zo14irriiiiiirriirrrrlriiii m0 th aS aI im (nI a) sp9_41 (nI E) 0 5 aB aT se dn aG aO aN aD bv aY rn kd nu tv), (zaI aS cS 901 fS)] H := hP
        have hD : va_D A [(zo14irriiiiiirriirrrrlriiii m0 th aS aI im (nI a) sp9_41 (nI E) 0 5 aB aT se dn aG aO aN aD bv aY rn kd nu tv), (zaI aS cS 901 fS)] := hD
        have hK : va_K (dC, dI) vwCl [(cS, .int)] s := hK
        rcases hw_40 with ⟨rfl, rfl, h_45⟩ | ⟨j_42, hj_43, rfl, h_44, rfl, h_45⟩
        · skip
          have hx3 := am3_n (fun q hq => h_45 q hq)
          refine lv_istore_n (lv' := [(3, .int (-1)), (2, .int (nI j_16)), (1, .int r_2), (0, .ref m0)]) hx hb dX12_factor_150 rfl hl (by decide) rfl (fun ls hl => ?_)
          refine lv_aload_n hx hb dX12_factor_151 rfl (lv_at hl 3 rfl) ?_
          refine lv_aload_n hx hb dX12_factor_152 rfl (lv_at hl 3 rfl) ?_
          refine va_get (D := (dC, dI)) (ci := 14) (v := .int 0) (C := RX12) (T := TX12) (N := 23) hx hb hts kc_factor5_0 hown hK hP 0 rfl rfl 7 (by decide) (hts (.fieldLink RX12 65 "MistHeapsModel" "isWrong" "Z") kc_factor5_1) (fun _ h9 => h9) rfl dX12_factor_153 ?_
          refine lv_if_ne (tgt := 164) hx hb dX12_factor_156 (by decide) (fun c_46 => absurd c_46 (by decide)) (fun _ => ?_)
          refine lv_iload_n hx hb dX12_factor_159 rfl (lv_at hl 0 rfl) ?_
          refine lv_iconst (v := (-1)) hx hb dX12_factor_160 (by decide) ?_
          refine lv_icmp_ne (tgt := 168) hx hb dX12_factor_161 (by decide) (fun c_47 => absurd c_47 (by decide)) (fun _ => ?_)
          refine lv_iconst (v := 1) hx hb dX12_factor_164 (by decide) ?_
          refine lv_goto (tgt := 169) hx hb dX12_factor_165 (by decide) ?_
          refine va_put (D := (dC, dI)) (ci := 14) (v := .int 1) (ty := .boolean) (C := RX12) (T := TX12) (N := 23) hx hb hts kc_factor5_0 tyX12 tyX12_ok nmX12 hown hK hP hD hS 0 rfl rfl 7 (by decide) (hts (.fieldLink RX12 65 "MistHeapsModel" "isWrong" "Z") kc_factor5_1) (fun _ h9 => h9) rfl (by decide +kernel) rfl rfl (Nat.le_of_ble_eq_true rfl) dX12_factor_169 (fun H locs hP hD hS => ?_)
          have hP : va_P (dC, dI) vwCl [(zo14irriiiiiirriirrrrlriiii m0 th aS aI im (nI a) (nI (p0 + 1)) (nI E) 1 5 aB aT se dn aG aO aN aD bv aY rn kd nu tv), (zaI aS cS 901 fS)] H := hP
          have hD : va_D A [(zo14irriiiiiirriirrrrlriiii m0 th aS aI im (nI a) (nI (p0 + 1)) (nI E) 1 5 aB aT se dn aG aO aN aD bv aY rn kd nu tv), (zaI aS cS 901 fS)] := hD
          refine lv_aload_n hx hb dX12_factor_172 rfl (lv_at hl 3 rfl) ?_
          have hPc := hP.sub (ws' := [(zo14irriiiiiirriirrrrlriiii m0 th aS aI im (nI a) (nI (p0 + 1)) (nI E) 1 5 aB aT se dn aG aO aN aD bv aY rn kd nu tv), (zaI aS cS 901 fS)]) [0, 1] rfl
          have hDc := hD.sub (ws' := [(zo14irriiiiiirriirrrrlriiii m0 th aS aI im (nI a) (nI (p0 + 1)) (nI E) 1 5 aB aT se dn aG aO aN aD bv aY rn kd nu tv), (zaI aS cS 901 fS)]) [0, 1] (by decide) rfl
          have hKc := hK.sub (tys' := [(cS, .int)]) [0] rfl
          have hFc := va_free (wc := [(zo14irriiiiiirriirrrrlriiii m0 th aS aI im (nI a) (nI (p0 + 1)) (nI E) 1 5 aB aT se dn aG aO aN aD bv aY rn kd nu tv), (zaI aS cS 901 fS)]) hD hS hA [0, 1] rfl
          refine va_calli (va_runV (As := []) (rest := []) ⟨hx, hb, hml, hown, hts⟩ (c_figures l dC dI m0 aS aI aB aT aG aO aN aD aY th im (nI a) (nI (p0 + 1)) (nI E) 1 5 se dn rn kd nu tv bv cS fS a (p0 + 1) E ss H.size (by omega) (by omega) (by omega) (Or.inr rfl) (gT)) (cwV 0 hts gX12_factor_X12_figures rfl rfl rfl hd_yX12_figures ⟨Nat.le_of_ble_eq_true rfl, Nat.le_of_ble_eq_true rfl⟩) ⟨fun a U g mk q => by obtain ⟨q0, q1, qP, qK, qD⟩ := q; exact ⟨q0, mvz g mk a q1, mvP g mk a qP, mvK g mk a qK, qD⟩, va_recv hK hP (ci := 14) (q := (RX12, TX12, 23)) (q0 := 0) rfl rfl, fun U hU hW => ⟨rfl, by rw [hU], by rw [hU]; exact hPc, va_K.moved hW.alike hKc, hDc.weaken (fun _ _ _ _ => trivial)⟩⟩ rfl rfl hl.1 rfl (lv_room (Nat.le_of_ble_eq_true rfl)) dX12_factor_173 ⟨Nat.le_of_ble_eq_true rfl, Nat.le_of_ble_eq_true rfl⟩) hS (fun q _ h => hFc q h) hFc (fun r_48 u tC H1 locs htC hvm hw_49 hB hz1 hk1 hS => ?_)
          obtain ⟨sp9_50, wg9_51⟩ := u
          try dsimp only at hw_49 hB
          obtain ⟨hP1, hK1, hD1⟩ := hB
          rw [htC] at hP1
          have hK1 := va_K.moved hvm.symm hK1
          obtain ⟨hP, hD⟩ := va_join (wr := []) (w1 := [(zo14irriiiiiirriirrrrlriiii m0 th aS aI im (nI a) sp9_50 (nI E) wg9_51 5 aB aT se dn aG aO aN aD bv aY rn kd nu tv), (zaI aS cS 901 fS)]) hP hD [0, 1] [] rfl rfl (by decide) (by decide) hk1 hFc hP1 hD1
          have hK := (hK.sub (tys' := []) [] rfl).app hK1
          generalize H1 = H at hP hS ⊢
          have hP : va_P (dC, dI) vwCl [(zo14irriiiiiirriirrrrlriiii m0 th aS aI im (nI a) sp9_50 (nI E) wg9_51 5 aB aT se dn aG aO aN aD bv aY rn kd nu tv), (zaI aS cS 901 fS)] H := hP
          have hD : va_D A [(zo14irriiiiiirriirrrrlriiii m0 th aS aI im (nI a) sp9_50 (nI E) wg9_51 5 aB aT se dn aG aO aN aD bv aY rn kd nu tv), (zaI aS cS 901 fS)] := hD
          have hK : va_K (dC, dI) vwCl [(cS, .int)] s := hK
          rcases hw_49 with ⟨rfl, rfl, hN_59, v_52, h_54, rfl⟩ | ⟨rfl, h_58, v_52, p_53, h_54, h_55, h_56, rfl, rfl, hN_59⟩
          · skip
            refine lv_istore (lv' := [(4, .int (nI v_52)), (3, .int (-1)), (2, .int (nI j_16)), (1, .int r_2), (0, .ref m0)]) hx hb dX12_factor_176 hl (by decide) rfl (fun ls hl => ?_)
            refine lv_aload_n hx hb dX12_factor_178 rfl (lv_at hl 4 rfl) ?_
            refine lv_iload_n hx hb dX12_factor_179 rfl (lv_at hl 2 rfl) ?_
            refine lv_bipush (v := 8) hx hb dX12_factor_180 (by decide) ?_
            refine lv_iload_n hx hb dX12_factor_182 rfl (lv_at hl 1 rfl) ?_
            refine lv_imul hx hb dX12_factor_183 ?_
            refine qi_as (y := (-8)) (by decide) ?_
            refine lv_iadd hx hb dX12_factor_184 ?_
            refine lv_bipush (v := 32) hx hb dX12_factor_185 (by decide) ?_
            refine lv_iload hx hb dX12_factor_187 (lv_at hl 0 rfl) ?_
            refine lv_imul hx hb dX12_factor_189 ?_
            refine qi_as (y := nI (32 * v_52)) (pk_mul 32 v_52) ?_
            refine lv_iadd hx hb dX12_factor_190 ?_
            have hPc := hP.sub (ws' := [(zo14irriiiiiirriirrrrlriiii m0 th aS aI im (nI a) (nI (p0 + 1)) (nI E) 1 5 aB aT se dn aG aO aN aD bv aY rn kd nu tv)]) [0] rfl
            have hKc := hK.sub (tys' := []) [] rfl
            refine va_csv (va_runV (As := [.int (((nI j_16) + (-8)) + (nI (32 * v_52)))]) (rest := []) ⟨hx, hb, hml, hown, hts⟩ (c_emitsW l dC dI m0 aS aI aB aT aG aO aN aD aY th im (nI a) (nI (p0 + 1)) (nI E) 1 5 se dn rn kd nu tv bv (((nI j_16) + (-8)) + (nI (32 * v_52)))) (cwV 1 hts gX12_factor_X12_emits rfl rfl rfl hd_yX12_emits ⟨Nat.le_of_ble_eq_true rfl, Nat.le_of_ble_eq_true rfl⟩) ⟨fun a U g mk q => by obtain ⟨q0, qP, qK⟩ := q; exact ⟨q0, mvP g mk a qP, mvK g mk a qK⟩, va_recv hK hP (ci := 14) (q := (RX12, TX12, 23)) (q0 := 0) rfl rfl, fun U hU hW => ⟨rfl, by rw [hU]; exact hPc, va_K.moved hW.alike hKc⟩⟩ rfl rfl hl.1 rfl (lv_room (Nat.le_of_ble_eq_true rfl)) dX12_factor_191 ⟨Nat.le_of_ble_eq_true rfl, Nat.le_of_ble_eq_true rfl⟩).run (fun hw_61 => ?_)
            rw [hQ]
            have hP9 := hP.sub (ws' := [(zo14irriiiiiirriirrrrlriiii m0 th aS aI im (nI a) (nI (p0 + 1)) (nI E) 1 5 aB aT se dn aG aO aN aD bv aY rn kd nu tv), (zaI aS cS 901 fS)]) [0, 1] rfl
            have hD9 := hD.sub (ws' := [(zo14irriiiiiirriirrrrlriiii m0 th aS aI im (nI a) (nI (p0 + 1)) (nI E) 1 5 aB aT se dn aG aO aN aD bv aY rn kd nu tv), (zaI aS cS 901 fS)]) [0, 1] (by decide) rfl
            have hK9 := hK.sub (tys' := [(cS, .int)]) [0] rfl
            exact W.vret hx hb hr (fun tQ htQ hWQ => ⟨⟨(fS, (nI (p0 + 1)), 1), rfl, ⟨p0 + 1, rfl, by omega, by omega, PF.rf, Or.inl ⟨rfl, (pf_t hn33 hn40).trans (pt_2 hx6 hx3)⟩⟩, by rw [htQ]; exact hP9, va_K.moved hWQ.alike hK9, hD9⟩, hS.F htQ⟩) hS.2.2 dX12_factor_194
          · skip
            exact absurd h_58 (by decide)
        · skip
          have hj_43 : j_42 < 3 := hj_43
          have hx3 := am3_y hj_43 h_45
          refine lv_istore_n (lv' := [(3, .int (nI j_42)), (2, .int (nI j_16)), (1, .int r_2), (0, .ref m0)]) hx hb dX12_factor_150 rfl hl (by decide) rfl (fun ls hl => ?_)
          refine lv_aload_n hx hb dX12_factor_151 rfl (lv_at hl 3 rfl) ?_
          refine lv_aload_n hx hb dX12_factor_152 rfl (lv_at hl 3 rfl) ?_
          refine va_get (D := (dC, dI)) (ci := 14) (v := .int 0) (C := RX12) (T := TX12) (N := 23) hx hb hts kc_factor5_0 hown hK hP 0 rfl rfl 7 (by decide) (hts (.fieldLink RX12 65 "MistHeapsModel" "isWrong" "Z") kc_factor5_1) (fun _ h9 => h9) rfl dX12_factor_153 ?_
          refine lv_if_ne (tgt := 164) hx hb dX12_factor_156 (by decide) (fun c_62 => absurd c_62 (by decide)) (fun _ => ?_)
          refine lv_iload_n hx hb dX12_factor_159 rfl (lv_at hl 0 rfl) ?_
          refine lv_iconst (v := (-1)) hx hb dX12_factor_160 (by decide) ?_
          refine lv_icmp_ne (tgt := 168) hx hb dX12_factor_161 (by decide) (fun c_63 => ?_) (fun c_63 => absurd c_63 (nI_nm1 (by omega)))
          refine lv_iconst (v := 0) hx hb dX12_factor_168 (by decide) ?_
          refine va_put (D := (dC, dI)) (ci := 14) (v := .int 0) (ty := .boolean) (C := RX12) (T := TX12) (N := 23) hx hb hts kc_factor5_0 tyX12 tyX12_ok nmX12 hown hK hP hD hS 0 rfl rfl 7 (by decide) (hts (.fieldLink RX12 65 "MistHeapsModel" "isWrong" "Z") kc_factor5_1) (fun _ h9 => h9) rfl (by decide +kernel) rfl rfl (Nat.le_of_ble_eq_true rfl) dX12_factor_169 (fun H locs hP hD hS => ?_)
          have hP : va_P (dC, dI) vwCl [(zo14irriiiiiirriirrrrlriiii m0 th aS aI im (nI a) (nI ((p0 + 1) + 1)) (nI E) 0 5 aB aT se dn aG aO aN aD bv aY rn kd nu tv), (zaI aS cS 901 fS)] H := hP
          have hD : va_D A [(zo14irriiiiiirriirrrrlriiii m0 th aS aI im (nI a) (nI ((p0 + 1) + 1)) (nI E) 0 5 aB aT se dn aG aO aN aD bv aY rn kd nu tv), (zaI aS cS 901 fS)] := hD
          refine lv_aload_n hx hb dX12_factor_172 rfl (lv_at hl 3 rfl) ?_
          have hPc := hP.sub (ws' := [(zo14irriiiiiirriirrrrlriiii m0 th aS aI im (nI a) (nI ((p0 + 1) + 1)) (nI E) 0 5 aB aT se dn aG aO aN aD bv aY rn kd nu tv), (zaI aS cS 901 fS)]) [0, 1] rfl
          have hDc := hD.sub (ws' := [(zo14irriiiiiirriirrrrlriiii m0 th aS aI im (nI a) (nI ((p0 + 1) + 1)) (nI E) 0 5 aB aT se dn aG aO aN aD bv aY rn kd nu tv), (zaI aS cS 901 fS)]) [0, 1] (by decide) rfl
          have hKc := hK.sub (tys' := [(cS, .int)]) [0] rfl
          have hFc := va_free (wc := [(zo14irriiiiiirriirrrrlriiii m0 th aS aI im (nI a) (nI ((p0 + 1) + 1)) (nI E) 0 5 aB aT se dn aG aO aN aD bv aY rn kd nu tv), (zaI aS cS 901 fS)]) hD hS hA [0, 1] rfl
          refine va_calli (va_runV (As := []) (rest := []) ⟨hx, hb, hml, hown, hts⟩ (c_figures l dC dI m0 aS aI aB aT aG aO aN aD aY th im (nI a) (nI ((p0 + 1) + 1)) (nI E) 0 5 se dn rn kd nu tv bv cS fS a ((p0 + 1) + 1) E ss H.size (by omega) (by omega) (by omega) (Or.inl rfl) (gT)) (cwV 0 hts gX12_factor_X12_figures rfl rfl rfl hd_yX12_figures ⟨Nat.le_of_ble_eq_true rfl, Nat.le_of_ble_eq_true rfl⟩) ⟨fun a U g mk q => by obtain ⟨q0, q1, qP, qK, qD⟩ := q; exact ⟨q0, mvz g mk a q1, mvP g mk a qP, mvK g mk a qK, qD⟩, va_recv hK hP (ci := 14) (q := (RX12, TX12, 23)) (q0 := 0) rfl rfl, fun U hU hW => ⟨rfl, by rw [hU], by rw [hU]; exact hPc, va_K.moved hW.alike hKc, hDc.weaken (fun _ _ _ _ => trivial)⟩⟩ rfl rfl hl.1 rfl (lv_room (Nat.le_of_ble_eq_true rfl)) dX12_factor_173 ⟨Nat.le_of_ble_eq_true rfl, Nat.le_of_ble_eq_true rfl⟩) hS (fun q _ h => hFc q h) hFc (fun r_64 u tC H1 locs htC hvm hw_65 hB hz1 hk1 hS => ?_)
          obtain ⟨sp9_66, wg9_67⟩ := u
          try dsimp only at hw_65 hB
          obtain ⟨hP1, hK1, hD1⟩ := hB
          rw [htC] at hP1
          have hK1 := va_K.moved hvm.symm hK1
          obtain ⟨hP, hD⟩ := va_join (wr := []) (w1 := [(zo14irriiiiiirriirrrrlriiii m0 th aS aI im (nI a) sp9_66 (nI E) wg9_67 5 aB aT se dn aG aO aN aD bv aY rn kd nu tv), (zaI aS cS 901 fS)]) hP hD [0, 1] [] rfl rfl (by decide) (by decide) hk1 hFc hP1 hD1
          have hK := (hK.sub (tys' := []) [] rfl).app hK1
          generalize H1 = H at hP hS ⊢
          have hP : va_P (dC, dI) vwCl [(zo14irriiiiiirriirrrrlriiii m0 th aS aI im (nI a) sp9_66 (nI E) wg9_67 5 aB aT se dn aG aO aN aD bv aY rn kd nu tv), (zaI aS cS 901 fS)] H := hP
          have hD : va_D A [(zo14irriiiiiirriirrrrlriiii m0 th aS aI im (nI a) sp9_66 (nI E) wg9_67 5 aB aT se dn aG aO aN aD bv aY rn kd nu tv), (zaI aS cS 901 fS)] := hD
          have hK : va_K (dC, dI) vwCl [(cS, .int)] s := hK
          rcases hw_65 with ⟨rfl, rfl, hN_75, v_68, h_70, rfl⟩ | ⟨rfl, h_74, v_68, p_69, h_70, h_71, h_72, rfl, rfl, hN_75⟩
          · skip
            have hN := hN_75 rfl
            refine lv_istore (lv' := [(4, .int (nI v_68)), (3, .int (nI j_42)), (2, .int (nI j_16)), (1, .int r_2), (0, .ref m0)]) hx hb dX12_factor_176 hl (by decide) rfl (fun ls hl => ?_)
            refine lv_aload_n hx hb dX12_factor_178 rfl (lv_at hl 4 rfl) ?_
            refine lv_iload_n hx hb dX12_factor_179 rfl (lv_at hl 2 rfl) ?_
            refine lv_bipush (v := 8) hx hb dX12_factor_180 (by decide) ?_
            refine lv_iload_n hx hb dX12_factor_182 rfl (lv_at hl 1 rfl) ?_
            refine lv_imul hx hb dX12_factor_183 ?_
            refine qi_as (y := nI (8 * j_42)) (pk_mul 8 j_42) ?_
            refine lv_iadd hx hb dX12_factor_184 ?_
            refine qi_as (y := nI (j_16 + (8 * j_42))) (nI_add j_16 (8 * j_42)) ?_
            refine lv_bipush (v := 32) hx hb dX12_factor_185 (by decide) ?_
            refine lv_iload hx hb dX12_factor_187 (lv_at hl 0 rfl) ?_
            refine lv_imul hx hb dX12_factor_189 ?_
            refine qi_as (y := nI (32 * v_68)) (pk_mul 32 v_68) ?_
            refine lv_iadd hx hb dX12_factor_190 ?_
            refine qi_as (y := nI ((j_16 + (8 * j_42)) + (32 * v_68))) (nI_add (j_16 + (8 * j_42)) (32 * v_68)) ?_
            have hPc := hP.sub (ws' := [(zo14irriiiiiirriirrrrlriiii m0 th aS aI im (nI a) (nI ((p0 + 1) + 1)) (nI E) 1 5 aB aT se dn aG aO aN aD bv aY rn kd nu tv)]) [0] rfl
            have hKc := hK.sub (tys' := []) [] rfl
            refine va_csv (va_runV (As := [.int (nI ((j_16 + (8 * j_42)) + (32 * v_68)))]) (rest := []) ⟨hx, hb, hml, hown, hts⟩ (c_emitsW l dC dI m0 aS aI aB aT aG aO aN aD aY th im (nI a) (nI ((p0 + 1) + 1)) (nI E) 1 5 se dn rn kd nu tv bv (nI ((j_16 + (8 * j_42)) + (32 * v_68)))) (cwV 1 hts gX12_factor_X12_emits rfl rfl rfl hd_yX12_emits ⟨Nat.le_of_ble_eq_true rfl, Nat.le_of_ble_eq_true rfl⟩) ⟨fun a U g mk q => by obtain ⟨q0, qP, qK⟩ := q; exact ⟨q0, mvP g mk a qP, mvK g mk a qK⟩, va_recv hK hP (ci := 14) (q := (RX12, TX12, 23)) (q0 := 0) rfl rfl, fun U hU hW => ⟨rfl, by rw [hU]; exact hPc, va_K.moved hW.alike hKc⟩⟩ rfl rfl hl.1 rfl (lv_room (Nat.le_of_ble_eq_true rfl)) dX12_factor_191 ⟨Nat.le_of_ble_eq_true rfl, Nat.le_of_ble_eq_true rfl⟩).run (fun hw_77 => ?_)
            rw [hQ]
            have hP9 := hP.sub (ws' := [(zo14irriiiiiirriirrrrlriiii m0 th aS aI im (nI a) (nI ((p0 + 1) + 1)) (nI E) 1 5 aB aT se dn aG aO aN aD bv aY rn kd nu tv), (zaI aS cS 901 fS)]) [0, 1] rfl
            have hD9 := hD.sub (ws' := [(zo14irriiiiiirriirrrrlriiii m0 th aS aI im (nI a) (nI ((p0 + 1) + 1)) (nI E) 1 5 aB aT se dn aG aO aN aD bv aY rn kd nu tv), (zaI aS cS 901 fS)]) [0, 1] (by decide) rfl
            have hK9 := hK.sub (tys' := [(cS, .int)]) [0] rfl
            exact W.vret hx hb hr (fun tQ htQ hWQ => ⟨⟨(fS, (nI ((p0 + 1) + 1)), 1), rfl, ⟨(p0 + 1) + 1, rfl, by omega, by omega, PF.rf, Or.inl ⟨rfl, (pf_t hn33 hn40).trans (pt_3 hx6 hx3 hN)⟩⟩, by rw [htQ]; exact hP9, va_K.moved hWQ.alike hK9, hD9⟩, hS.F htQ⟩) hS.2.2 dX12_factor_194
          · skip
            have hN := hN_75
            refine lv_istore (lv' := [(4, .int (nI v_68)), (3, .int (nI j_42)), (2, .int (nI j_16)), (1, .int r_2), (0, .ref m0)]) hx hb dX12_factor_176 hl (by decide) rfl (fun ls hl => ?_)
            refine lv_aload_n hx hb dX12_factor_178 rfl (lv_at hl 4 rfl) ?_
            refine lv_iload_n hx hb dX12_factor_179 rfl (lv_at hl 2 rfl) ?_
            refine lv_bipush (v := 8) hx hb dX12_factor_180 (by decide) ?_
            refine lv_iload_n hx hb dX12_factor_182 rfl (lv_at hl 1 rfl) ?_
            refine lv_imul hx hb dX12_factor_183 ?_
            refine qi_as (y := nI (8 * j_42)) (pk_mul 8 j_42) ?_
            refine lv_iadd hx hb dX12_factor_184 ?_
            refine qi_as (y := nI (j_16 + (8 * j_42))) (nI_add j_16 (8 * j_42)) ?_
            refine lv_bipush (v := 32) hx hb dX12_factor_185 (by decide) ?_
            refine lv_iload hx hb dX12_factor_187 (lv_at hl 0 rfl) ?_
            refine lv_imul hx hb dX12_factor_189 ?_
            refine qi_as (y := nI (32 * v_68)) (pk_mul 32 v_68) ?_
            refine lv_iadd hx hb dX12_factor_190 ?_
            refine qi_as (y := nI ((j_16 + (8 * j_42)) + (32 * v_68))) (nI_add (j_16 + (8 * j_42)) (32 * v_68)) ?_
            have hPc := hP.sub (ws' := [(zo14irriiiiiirriirrrrlriiii m0 th aS aI im (nI a) (nI p_69) (nI E) 0 5 aB aT se dn aG aO aN aD bv aY rn kd nu tv), (zaI aS cS 901 fS)]) [0, 1] rfl
            have hDc := hD.sub (ws' := [(zo14irriiiiiirriirrrrlriiii m0 th aS aI im (nI a) (nI p_69) (nI E) 0 5 aB aT se dn aG aO aN aD bv aY rn kd nu tv), (zaI aS cS 901 fS)]) [0, 1] (by decide) rfl
            have hKc := hK.sub (tys' := [(cS, .int)]) [0] rfl
            have hFc := va_free (wc := [(zo14irriiiiiirriirrrrlriiii m0 th aS aI im (nI a) (nI p_69) (nI E) 0 5 aB aT se dn aG aO aN aD bv aY rn kd nu tv), (zaI aS cS 901 fS)]) hD hS hA [0, 1] rfl
            refine va_callv (va_runV (As := [.int (nI ((j_16 + (8 * j_42)) + (32 * v_68)))]) (rest := []) ⟨hx, hb, hml, hown, hts⟩ (c_emits l dC dI m0 aS aI aB aT aG aO aN aD aY th im (nI a) (nI p_69) (nI E) 0 5 se dn rn kd nu tv bv cS fS a K.length (nI ((j_16 + (8 * j_42)) + (32 * v_68))) H.size (ga) ((gI).2.2.2.1) (by have := (gI).2.2.2.2.1; omega)) (cwV 1 hts gX12_factor_X12_emits rfl rfl rfl hd_yX12_emits ⟨Nat.le_of_ble_eq_true rfl, Nat.le_of_ble_eq_true rfl⟩) ⟨fun a U g mk q => by obtain ⟨q0, q1, qP, qK, qD⟩ := q; exact ⟨q0, mvz g mk a q1, mvP g mk a qP, mvK g mk a qK, qD⟩, va_recv hK hP (ci := 14) (q := (RX12, TX12, 23)) (q0 := 0) rfl rfl, fun U hU hW => ⟨rfl, by rw [hU], by rw [hU]; exact hPc, va_K.moved hW.alike hKc, hDc.weaken (fun _ _ _ _ => trivial)⟩⟩ rfl rfl hl.1 rfl (lv_room (Nat.le_of_ble_eq_true rfl)) dX12_factor_191 ⟨Nat.le_of_ble_eq_true rfl, Nat.le_of_ble_eq_true rfl⟩) hS (fun q _ h => hFc q h) hFc (fun u tC H1 locs htC hvm hw_79 hB hz1 hk1 hS => ?_)
            obtain ⟨fS9_80, rfl⟩ : ∃ z, z = u := ⟨_, rfl⟩
            try dsimp only at hw_79 hB
            obtain ⟨hP1, hK1, hD1⟩ := hB
            rw [htC] at hP1
            have hK1 := va_K.moved hvm.symm hK1
            obtain ⟨hP, hD⟩ := va_join (wr := []) (w1 := [(zo14irriiiiiirriirrrrlriiii m0 th aS aI im (nI a) (nI p_69) (nI E) 0 5 aB aT se dn aG aO aN aD bv aY rn kd nu tv), (zaI aS cS 901 fS9_80)]) hP hD [0, 1] [] rfl rfl (by decide) (by decide) hk1 hFc hP1 hD1
            have hK := (hK.sub (tys' := []) [] rfl).app hK1
            generalize H1 = H at hP hS ⊢
            have hP : va_P (dC, dI) vwCl [(zo14irriiiiiirriirrrrlriiii m0 th aS aI im (nI a) (nI p_69) (nI E) 0 5 aB aT se dn aG aO aN aD bv aY rn kd nu tv), (zaI aS cS 901 fS9_80)] H := hP
            have hD : va_D A [(zo14irriiiiiirriirrrrlriiii m0 th aS aI im (nI a) (nI p_69) (nI E) 0 5 aB aT se dn aG aO aN aD bv aY rn kd nu tv), (zaI aS cS 901 fS9_80)] := hD
            have hK : va_K (dC, dI) vwCl [(cS, .int)] s := hK
            obtain rfl : fS9_80 = emt fS a K.length (nI ((j_16 + (8 * j_42)) + (32 * v_68))) := by rcases hw_79 with ⟨q, _⟩ | ⟨_, q⟩; exact absurd rfl q; exact q
            have hI_81 : PI (emt fS a K.length (nI ((j_16 + (8 * j_42)) + (32 * v_68)))) a (K ++ [j_16 * 300 + j_42 * 100 + v_68]) (d + 1) p_69 E := PI.em (t := j_16 * 300 + j_42 * 100 + v_68) ((gI).mono (by omega) (by omega)) (by omega) (by omega) (stepd_test (by omega) (by omega) (by omega) (by omega)) (rcd_t (by omega) (by omega) (by omega))
            have hF_82 : PF a fS (emt fS a K.length (nI ((j_16 + (8 * j_42)) + (32 * v_68)))) := (PF.rf).tr (PF_emt (k := K.length) (x := nI ((j_16 + (8 * j_42)) + (32 * v_68))) ga (by have := (gI).2.2.2.2.1; omega))
            have hKhI_81 : (K ++ [j_16 * 300 + j_42 * 100 + v_68]).length = K.length + 1 := by rw [List.length_append]; rfl
            rw [hQ]
            have hP9 := hP.sub (ws' := [(zo14irriiiiiirriirrrrlriiii m0 th aS aI im (nI a) (nI p_69) (nI E) 0 5 aB aT se dn aG aO aN aD bv aY rn kd nu tv), (zaI aS cS 901 (emt fS a K.length (nI ((j_16 + (8 * j_42)) + (32 * v_68)))))]) [0, 1] rfl
            have hD9 := hD.sub (ws' := [(zo14irriiiiiirriirrrrlriiii m0 th aS aI im (nI a) (nI p_69) (nI E) 0 5 aB aT se dn aG aO aN aD bv aY rn kd nu tv), (zaI aS cS 901 (emt fS a K.length (nI ((j_16 + (8 * j_42)) + (32 * v_68)))))]) [0, 1] (by decide) rfl
            have hK9 := hK.sub (tys' := [(cS, .int)]) [0] rfl
            exact W.vret hx hb hr (fun tQ htQ hWQ => ⟨⟨((emt fS a K.length (nI ((j_16 + (8 * j_42)) + (32 * v_68)))), (nI p_69), 0), rfl, ⟨p_69, rfl, by omega, by omega, hF_82, Or.inr ⟨rfl, [j_16 * 300 + j_42 * 100 + v_68], (pf_t hn33 hn40).trans (pt_4 hx6 hx3 hN), by omega, (hI_81).mono (by omega) (by omega), by (try simp only [List.length_append, List.length_cons, List.length_nil]); omega⟩⟩, by rw [htQ]; exact hP9, va_K.moved hWQ.alike hK9, hD9⟩, hS.F htQ⟩) hS.2.2 dX12_factor_194
    · skip
      subst c_12
      have hs : ss p0 = 40 := (gT.eq (c := 40) (by omega) (by omega)).mp hw_3.symm
      have hlt : p0 < E := Nat.lt_of_not_le (fun z => by have := gT.2.1 p0 z; omega)
      refine lv_aload_n hx hb dX12_factor_25 rfl (lv_at hl 1 rfl) ?_
      refine lv_aload_n hx hb dX12_factor_26 rfl (lv_at hl 1 rfl) ?_
      refine va_get (D := (dC, dI)) (ci := 14) (v := .int 5) (C := RX12) (T := TX12) (N := 23) hx hb hts kc_factor5_0 hown hK hP 0 rfl rfl 8 (by decide) (hts (.fieldLink RX12 89 "MistHeapsModel" "open" "I") kc_factor5_2) (fun _ h9 => h9) rfl dX12_factor_27 ?_
      refine lv_iconst (v := 5) hx hb dX12_factor_30 (by decide) ?_
      refine lv_icmp_ne (tgt := 38) hx hb dX12_factor_31 (by decide) (fun c_83 => absurd c_83 (by decide)) (fun _ => ?_)
      refine lv_iconst (v := 1) hx hb dX12_factor_34 (by decide) ?_
      refine lv_goto (tgt := 39) hx hb dX12_factor_35 (by decide) ?_
      refine va_put (D := (dC, dI)) (ci := 14) (v := .int 1) (ty := .boolean) (C := RX12) (T := TX12) (N := 23) hx hb hts kc_factor5_0 tyX12 tyX12_ok nmX12 hown hK hP hD hS 0 rfl rfl 7 (by decide) (hts (.fieldLink RX12 65 "MistHeapsModel" "isWrong" "Z") kc_factor5_1) (fun _ h9 => h9) rfl (by decide +kernel) rfl rfl (Nat.le_of_ble_eq_true rfl) dX12_factor_39 (fun H locs hP hD hS => ?_)
      have hP : va_P (dC, dI) vwCl [(zo14irriiiiiirriirrrrlriiii m0 th aS aI im (nI a) (nI p0) (nI E) 1 5 aB aT se dn aG aO aN aD bv aY rn kd nu tv), (zaI aS cS 901 fS)] H := hP
      have hD : va_D A [(zo14irriiiiiirriirrrrlriiii m0 th aS aI im (nI a) (nI p0) (nI E) 1 5 aB aT se dn aG aO aN aD bv aY rn kd nu tv), (zaI aS cS 901 fS)] := hD
      refine lv_aload_n hx hb dX12_factor_42 rfl (lv_at hl 1 rfl) ?_
      refine lv_dup hx hb dX12_factor_43 rfl ?_
      refine va_get (D := (dC, dI)) (ci := 14) (v := .int 5) (C := RX12) (T := TX12) (N := 23) hx hb hts kc_factor5_0 hown hK hP 0 rfl rfl 8 (by decide) (hts (.fieldLink RX12 89 "MistHeapsModel" "open" "I") kc_factor5_2) (fun _ h9 => h9) rfl dX12_factor_44 ?_
      refine lv_iconst (v := 1) hx hb dX12_factor_47 (by decide) ?_
      refine lv_iadd hx hb dX12_factor_48 ?_
      refine qi_as (y := 6) (by decide) ?_
      refine va_put (D := (dC, dI)) (ci := 14) (v := .int 6) (ty := .int) (C := RX12) (T := TX12) (N := 23) hx hb hts kc_factor5_0 tyX12 tyX12_ok nmX12 hown hK hP hD hS 0 rfl rfl 8 (by decide) (hts (.fieldLink RX12 89 "MistHeapsModel" "open" "I") kc_factor5_2) (fun _ h9 => h9) rfl (by decide +kernel) rfl rfl (Nat.le_of_ble_eq_true rfl) dX12_factor_49 (fun H locs hP hD hS => ?_)
      have hP : va_P (dC, dI) vwCl [(zo14irriiiiiirriirrrrlriiii m0 th aS aI im (nI a) (nI p0) (nI E) 1 6 aB aT se dn aG aO aN aD bv aY rn kd nu tv), (zaI aS cS 901 fS)] H := hP
      have hD : va_D A [(zo14irriiiiiirriirrrrlriiii m0 th aS aI im (nI a) (nI p0) (nI E) 1 6 aB aT se dn aG aO aN aD bv aY rn kd nu tv), (zaI aS cS 901 fS)] := hD
      refine lv_aload_n hx hb dX12_factor_52 rfl (lv_at hl 1 rfl) ?_
      refine lv_dup hx hb dX12_factor_53 rfl ?_
      refine va_get (D := (dC, dI)) (ci := 14) (v := .int (nI p0)) (C := RX12) (T := TX12) (N := 23) hx hb hts kc_factor5_0 hown hK hP 0 rfl rfl 5 (by decide) (hts (.fieldLink RX12 59 "MistHeapsModel" "spot" "I") kc_factor5_3) (fun _ h9 => h9) rfl dX12_factor_54 ?_
      refine lv_aload_n hx hb dX12_factor_57 rfl (lv_at hl 1 rfl) ?_
      refine va_get (D := (dC, dI)) (ci := 14) (v := .int 1) (C := RX12) (T := TX12) (N := 23) hx hb hts kc_factor5_0 hown hK hP 0 rfl rfl 7 (by decide) (hts (.fieldLink RX12 65 "MistHeapsModel" "isWrong" "Z") kc_factor5_1) (fun _ h9 => h9) rfl dX12_factor_58 ?_
      refine lv_if_eq (tgt := 68) hx hb dX12_factor_61 (by decide) (fun c_84 => absurd c_84 (by decide)) (fun _ => ?_)
      refine lv_iconst (v := 0) hx hb dX12_factor_64 (by decide) ?_
      refine lv_goto (tgt := 69) hx hb dX12_factor_65 (by decide) ?_
      refine lv_iadd hx hb dX12_factor_69 ?_
      refine qi_as (y := nI (p0 + 0)) (nI_add p0 0) ?_
      refine va_put (D := (dC, dI)) (ci := 14) (v := .int (nI (p0 + 0))) (ty := .int) (C := RX12) (T := TX12) (N := 23) hx hb hts kc_factor5_0 tyX12 tyX12_ok nmX12 hown hK hP hD hS 0 rfl rfl 5 (by decide) (hts (.fieldLink RX12 59 "MistHeapsModel" "spot" "I") kc_factor5_3) (fun _ h9 => h9) rfl (by decide +kernel) rfl rfl (Nat.le_of_ble_eq_true rfl) dX12_factor_70 (fun H locs hP hD hS => ?_)
      have hP : va_P (dC, dI) vwCl [(zo14irriiiiiirriirrrrlriiii m0 th aS aI im (nI a) (nI (p0 + 0)) (nI E) 1 6 aB aT se dn aG aO aN aD bv aY rn kd nu tv), (zaI aS cS 901 fS)] H := hP
      have hD : va_D A [(zo14irriiiiiirriirrrrlriiii m0 th aS aI im (nI a) (nI (p0 + 0)) (nI E) 1 6 aB aT se dn aG aO aN aD bv aY rn kd nu tv), (zaI aS cS 901 fS)] := hD
      refine lv_iload_n hx hb dX12_factor_73 rfl (lv_at hl 0 rfl) ?_
      refine lv_bipush (v := 33) hx hb dX12_factor_74 (by decide) ?_
      refine lv_icmp_ne (tgt := 91) hx hb dX12_factor_76 (by decide) (fun _ => ?_) (fun c_85 => absurd c_85 (by decide))
      refine lv_aload_n hx hb dX12_factor_91 rfl (lv_at hl 1 rfl) ?_
      have hPc := hP.sub (ws' := [(zo14irriiiiiirriirrrrlriiii m0 th aS aI im (nI a) (nI (p0 + 0)) (nI E) 1 6 aB aT se dn aG aO aN aD bv aY rn kd nu tv)]) [0] rfl
      have hKc := hK.sub (tys' := []) [] rfl
      refine va_csv (va_runV (As := []) (rest := []) ⟨hx, hb, hml, hown, hts⟩ (c_someW l dC dI m0 aS aI aB aT aG aO aN aD aY th im (nI a) (nI (p0 + 0)) (nI E) 1 6 se dn rn kd nu tv bv) (cwV 0 hts gX12_factor_X12_some rfl rfl rfl hd_yX12_some ⟨Nat.le_of_ble_eq_true rfl, Nat.le_of_ble_eq_true rfl⟩) ⟨fun a U g mk q => by obtain ⟨q0, qP, qK⟩ := q; exact ⟨q0, mvP g mk a qP, mvK g mk a qK⟩, va_recv hK hP (ci := 14) (q := (RX12, TX12, 23)) (q0 := 0) rfl rfl, fun U hU hW => ⟨rfl, by rw [hU]; exact hPc, va_K.moved hW.alike hKc⟩⟩ rfl rfl hl.1 rfl (lv_room (Nat.le_of_ble_eq_true rfl)) dX12_factor_92 ⟨Nat.le_of_ble_eq_true rfl, Nat.le_of_ble_eq_true rfl⟩).run (fun hw_87 => ?_)
      refine lv_aload_n hx hb dX12_factor_95 rfl (lv_at hl 1 rfl) ?_
      refine lv_bipush (v := 41) hx hb dX12_factor_96 (by decide) ?_
      have hPc := hP.sub (ws' := [(zo14irriiiiiirriirrrrlriiii m0 th aS aI im (nI a) (nI (p0 + 0)) (nI E) 1 6 aB aT se dn aG aO aN aD bv aY rn kd nu tv), (zaI aS cS 901 fS)]) [0, 1] rfl
      have hDc := hD.sub (ws' := [(zo14irriiiiiirriirrrrlriiii m0 th aS aI im (nI a) (nI (p0 + 0)) (nI E) 1 6 aB aT se dn aG aO aN aD bv aY rn kd nu tv), (zaI aS cS 901 fS)]) [0, 1] (by decide) rfl
      have hKc := hK.sub (tys' := [(cS, .int)]) [0] rfl
      have hFc := va_free (wc := [(zo14irriiiiiirriirrrrlriiii m0 th aS aI im (nI a) (nI (p0 + 0)) (nI E) 1 6 aB aT se dn aG aO aN aD bv aY rn kd nu tv), (zaI aS cS 901 fS)]) hD hS hA [0, 1] rfl
      refine va_callv (va_runV (As := [.int 41]) (rest := []) ⟨hx, hb, hml, hown, hts⟩ (c_must l dC dI m0 aS aI aB aT aG aO aN aD aY th im (nI a) (nI (p0 + 0)) (nI E) 1 6 se dn rn kd nu tv bv cS fS a (p0 + 0) E 41 H.size (by omega) (by omega) (by omega) (Or.inr rfl) (by decide)) (cwV 1 hts gX12_factor_X12_must rfl rfl rfl hd_yX12_must ⟨Nat.le_of_ble_eq_true rfl, Nat.le_of_ble_eq_true rfl⟩) ⟨fun a U g mk q => by obtain ⟨q0, q1, qP, qK, qD⟩ := q; exact ⟨q0, mvz g mk a q1, mvP g mk a qP, mvK g mk a qK, qD⟩, va_recv hK hP (ci := 14) (q := (RX12, TX12, 23)) (q0 := 0) rfl rfl, fun U hU hW => ⟨rfl, by rw [hU], by rw [hU]; exact hPc, va_K.moved hW.alike hKc, hDc.weaken (fun _ _ _ _ => trivial)⟩⟩ rfl rfl hl.1 rfl (lv_room (Nat.le_of_ble_eq_true rfl)) dX12_factor_98 ⟨Nat.le_of_ble_eq_true rfl, Nat.le_of_ble_eq_true rfl⟩) hS (fun q _ h => hFc q h) hFc (fun u tC H1 locs htC hvm hw_89 hB hz1 hk1 hS => ?_)
      obtain ⟨sp9_90, wg9_91⟩ := u
      try dsimp only at hw_89 hB
      obtain ⟨hP1, hK1, hD1⟩ := hB
      rw [htC] at hP1
      have hK1 := va_K.moved hvm.symm hK1
      obtain ⟨hP, hD⟩ := va_join (wr := []) (w1 := [(zo14irriiiiiirriirrrrlriiii m0 th aS aI im (nI a) sp9_90 (nI E) wg9_91 6 aB aT se dn aG aO aN aD bv aY rn kd nu tv), (zaI aS cS 901 fS)]) hP hD [0, 1] [] rfl rfl (by decide) (by decide) hk1 hFc hP1 hD1
      have hK := (hK.sub (tys' := []) [] rfl).app hK1
      generalize H1 = H at hP hS ⊢
      have hP : va_P (dC, dI) vwCl [(zo14irriiiiiirriirrrrlriiii m0 th aS aI im (nI a) sp9_90 (nI E) wg9_91 6 aB aT se dn aG aO aN aD bv aY rn kd nu tv), (zaI aS cS 901 fS)] H := hP
      have hD : va_D A [(zo14irriiiiiirriirrrrlriiii m0 th aS aI im (nI a) sp9_90 (nI E) wg9_91 6 aB aT se dn aG aO aN aD bv aY rn kd nu tv), (zaI aS cS 901 fS)] := hD
      have hK : va_K (dC, dI) vwCl [(cS, .int)] s := hK
      obtain ⟨rfl, rfl⟩ : _ ∧ _ := by rcases hw_89 with ⟨q, q2, _⟩ | ⟨_, q, _⟩; exact ⟨q, q2⟩; exact absurd q (by decide)
      refine lv_aload_n hx hb dX12_factor_101 rfl (lv_at hl 1 rfl) ?_
      refine lv_dup hx hb dX12_factor_102 rfl ?_
      refine va_get (D := (dC, dI)) (ci := 14) (v := .int 6) (C := RX12) (T := TX12) (N := 23) hx hb hts kc_factor5_0 hown hK hP 0 rfl rfl 8 (by decide) (hts (.fieldLink RX12 89 "MistHeapsModel" "open" "I") kc_factor5_2) (fun _ h9 => h9) rfl dX12_factor_103 ?_
      refine lv_iconst (v := 1) hx hb dX12_factor_106 (by decide) ?_
      refine lv_isub hx hb dX12_factor_107 ?_
      refine qi_as (y := 5) (by decide) ?_
      refine va_put (D := (dC, dI)) (ci := 14) (v := .int 5) (ty := .int) (C := RX12) (T := TX12) (N := 23) hx hb hts kc_factor5_0 tyX12 tyX12_ok nmX12 hown hK hP hD hS 0 rfl rfl 8 (by decide) (hts (.fieldLink RX12 89 "MistHeapsModel" "open" "I") kc_factor5_2) (fun _ h9 => h9) rfl (by decide +kernel) rfl rfl (Nat.le_of_ble_eq_true rfl) dX12_factor_108 (fun H locs hP hD hS => ?_)
      have hP : va_P (dC, dI) vwCl [(zo14irriiiiiirriirrrrlriiii m0 th aS aI im (nI a) (nI (p0 + 0)) (nI E) 1 5 aB aT se dn aG aO aN aD bv aY rn kd nu tv), (zaI aS cS 901 fS)] H := hP
      have hD : va_D A [(zo14irriiiiiirriirrrrlriiii m0 th aS aI im (nI a) (nI (p0 + 0)) (nI E) 1 5 aB aT se dn aG aO aN aD bv aY rn kd nu tv), (zaI aS cS 901 fS)] := hD
      rw [hQ]
      have hP9 := hP.sub (ws' := [(zo14irriiiiiirriirrrrlriiii m0 th aS aI im (nI a) (nI (p0 + 0)) (nI E) 1 5 aB aT se dn aG aO aN aD bv aY rn kd nu tv), (zaI aS cS 901 fS)]) [0, 1] rfl
      have hD9 := hD.sub (ws' := [(zo14irriiiiiirriirrrrlriiii m0 th aS aI im (nI a) (nI (p0 + 0)) (nI E) 1 5 aB aT se dn aG aO aN aD bv aY rn kd nu tv), (zaI aS cS 901 fS)]) [0, 1] (by decide) rfl
      have hK9 := hK.sub (tys' := [(cS, .int)]) [0] rfl
      exact W.vret hx hb hr (fun tQ htQ hWQ => ⟨⟨(fS, (nI (p0 + 0)), 1), rfl, ⟨p0 + 0, rfl, by omega, by omega, PF.rf, Or.inl ⟨rfl, pf_0 (Or.inr hs)⟩⟩, by rw [htQ]; exact hP9, va_K.moved hWQ.alike hK9, hD9⟩, hS.F htQ⟩) hS.2.2 dX12_factor_111

theorem kc_every5_0 : ∀ w ∈ wsX120, w ∈ wsX12_every := fun w h => List.mem_cons_of_mem _ (gin_wsX120 w h)
theorem kc_every5_1 : (.fieldLink RX12 65 "MistHeapsModel" "isWrong" "Z" : Cond) ∈ wsX12_every := kc_of 1147 rfl rfl rfl
theorem kc_every5_2 : (.fieldLink RX12 59 "MistHeapsModel" "spot" "I" : Cond) ∈ wsX12_every := kc_of 1145 rfl rfl rfl
set_option maxHeartbeats 4000000 in
set_option maxRecDepth 100000 in
theorem c_every5 (l : Launch) (dC : Nat → ClassId) (dI : Nat → Nat → Nat) (sK sV : Nat → Nat) (m0 aS aI aB aT aG aO aN aD aY : Nat) (th im ac sp en wg op se dn rn kd nu tv : Int32) (bv : Int64) (cS : ClassId) (fS : Nat → Int32) (a p0 E : Nat) (K : List Nat) (d : Nat) (ss : Nat → Nat) (sz : Nat) (gI : PI fS a K d p0 E) (gT : TP fS E ss) : Met l yX12_every wsX12_every ({ frames := 6, cells := 0, slots := 0, locals := 131 } : Room) (va_Pc [.ref m0] (fun U => U.heap.size = sz ∧ va_P (dC, dI) vwCl [(zo14irriiiiiirriirrrrlriiii m0 th aS aI im (nI a) (nI p0) (nI E) 0 5 aB aT se dn aG aO aN aD bv aY rn kd nu tv), (zaI aS cS 901 fS)] U.heap ∧ va_K (dC, dI) vwCl [(cS, .int)] U ∧ va_D (fun _ => True) [(zo14irriiiiiirriirrrrlriiii m0 th aS aI im (nI a) (nI p0) (nI E) 0 5 aB aT se dn aG aO aN aD bv aY rn kd nu tv), (zaI aS cS 901 fS)] ∧ Gs sK sV (va_A [(zo14irriiiiiirriirrrrlriiii m0 th aS aI im (nI a) (nI p0) (nI E) 0 5 aB aT se dn aG aO aN aD bv aY rn kd nu tv), (zaI aS cS 901 fS)] sz) U)) (va_Qv (fun (u : (Nat → Int32) × (Int32) × (Int32)) => match u with | (fS9, sp9, wg9) => ∃ p9 : Nat, sp9 = nI p9 ∧ p0 ≤ p9 ∧ p9 ≤ E ∧ PF a fS fS9 ∧ ((wg9 = 1 ∧ pEv ss (pFac ss 0) p0 = (none, p9)) ∨ (wg9 = 0 ∧ ∃ L : List Nat, pEv ss (pFac ss 0) p0 = (some L, p9) ∧ p0 + 3 ≤ p9 ∧ PI fS9 a (K ++ L) (d + 1) p9 E ∧ L.length + p0 ≤ p9))) (fun (u : (Nat → Int32) × (Int32) × (Int32)) (t : State) => match u with | (fS9, sp9, wg9) => va_P (dC, dI) vwCl [(zo14irriiiiiirriirrrrlriiii m0 th aS aI im (nI a) sp9 (nI E) wg9 5 aB aT se dn aG aO aN aD bv aY rn kd nu tv), (zaI aS cS 901 fS9)] t.heap ∧ va_K (dC, dI) vwCl [(cS, .int)] t ∧ va_D (va_A [(zo14irriiiiiirriirrrrlriiii m0 th aS aI im (nI a) (nI p0) (nI E) 0 5 aB aT se dn aG aO aN aD bv aY rn kd nu tv), (zaI aS cS 901 fS)] sz) [(zo14irriiiiiirriirrrrlriiii m0 th aS aI im (nI a) sp9 (nI E) wg9 5 aB aT se dn aG aO aN aD bv aY rn kd nu tv), (zaI aS cS 901 fS9)]) (va_A [(zo14irriiiiiirriirrrrlriiii m0 th aS aI im (nI a) (nI p0) (nI E) 0 5 aB aT se dn aG aO aN aD bv aY rn kd nu tv), (zaI aS cS 901 fS)] sz)) 0 0 (va_A [(zo14irriiiiiirriirrrrlriiii m0 th aS aI im (nI a) (nI p0) (nI E) 0 5 aB aT se dn aG aO aN aD bv aY rn kd nu tv), (zaI aS cS 901 fS)] sz) := by
  refine met_ofQ (cc := cX12_every) (maxL := 1) (ret := none) (by decide) rfl ?_
  intro p e s m args below meth c s₁ Q B hml hv hQ
  obtain ⟨rfl, hsz, hP, hK, hD0, hE⟩ := hv
  have hx := B.exec
  have hb := B.bytes
  have hr := B.returns
  have hts := atoms_spec (ws := wsX12_every) B.pre
  have hown : s.vm.findClass RX12 = some m.cls := findClass_of_methodNamed B.named
  have hlocks := B.notSynchronized
  subst hsz
  have hD := hD0.self (sz := s.heap.size)
  generalize hAe : va_A [(zo14irriiiiiirriirrrrlriiii m0 th aS aI im (nI a) (nI p0) (nI E) 0 5 aB aT se dn aG aO aN aD bv aY rn kd nu tv), (zaI aS cS 901 fS)] s.heap.size = A at hD hQ hE ⊢
  have hA : ∀ q : Nat, s.heap.size ≤ q → A q := fun q h => by rw [← hAe]; exact Or.inr h
  have hS : va_S A s.heap s.heap [] := va_S.rf
  have hl := lv_entry [.ref m0] (n := 1) (Nat.le_of_ble_eq_true rfl)
  rw [lg_entry_eq]
  generalize (lg_sl [.ref m0] ++ List.replicate (1 - (lg_sl [.ref m0]).length) Slot.unset).toArray = ls at hl ⊢
  generalize hag : ([.ref m0] : List Value).toArray = args at hts hQ ⊢
  have hl : lv_has ls 1 [(0, .ref m0)] := hl
  obtain ⟨H, hH⟩ : ∃ H : Heap, H = s.heap := ⟨_, rfl⟩
  rw [← hH] at hP
  rw [← hH]
  have hS : va_S A s.heap H [] := by rw [hH]; exact hS
  obtain ⟨locs, hlo⟩ : ∃ L : List Loc, L = [] := ⟨_, rfl⟩
  rw [← hlo] at hS
  rw [← hlo]
  clear hH hlo
  obtain ⟨ga, gp, gE, zk, gkp, gd, gs, gcd⟩ := id gI
  refine lv_aload_n hx hb dX12_every_0 rfl (lv_at hl 0 rfl) ?_
  have hPc := hP.sub (ws' := [(zo14irriiiiiirriirrrrlriiii m0 th aS aI im (nI a) (nI p0) (nI E) 0 5 aB aT se dn aG aO aN aD bv aY rn kd nu tv), (zaI aS cS 901 fS)]) [0, 1] rfl
  have hDc := hD.sub (ws' := [(zo14irriiiiiirriirrrrlriiii m0 th aS aI im (nI a) (nI p0) (nI E) 0 5 aB aT se dn aG aO aN aD bv aY rn kd nu tv), (zaI aS cS 901 fS)]) [0, 1] (by decide) rfl
  have hKc := hK.sub (tys' := [(cS, .int)]) [0] rfl
  have hFc := va_free (wc := [(zo14irriiiiiirriirrrrlriiii m0 th aS aI im (nI a) (nI p0) (nI E) 0 5 aB aT se dn aG aO aN aD bv aY rn kd nu tv), (zaI aS cS 901 fS)]) hD hS hA [0, 1] rfl
  refine va_callv (va_runV (As := []) (rest := []) ⟨hx, hb, hml, hown, hts⟩ (c_factor5 l dC dI sK sV m0 aS aI aB aT aG aO aN aD aY th im (nI a) (nI p0) (nI E) 0 5 se dn rn kd nu tv bv cS fS a p0 E K d ss H.size ((gI).mono (by omega) (by omega)) (gT)) (cwV 0 hts gX12_every_X12_factor rfl rfl rfl hd_yX12_factor ⟨Nat.le_of_ble_eq_true rfl, Nat.le_of_ble_eq_true rfl⟩) ⟨fun a U g mk q => by obtain ⟨q0, q1, qP, qK, qD, qhE⟩ := q; exact ⟨q0, mvz g mk a q1, mvP g mk a qP, mvK g mk a qK, qD, qhE.mv g mk a⟩, va_recv hK hP (ci := 14) (q := (RX12, TX12, 23)) (q0 := 0) rfl rfl, fun U hU hW => ⟨rfl, by rw [hU], by rw [hU]; exact hPc, va_K.moved hW.alike hKc, hDc.weaken (fun _ _ _ _ => trivial), hE.call hS hU hW (fun q h => hFc q h)⟩⟩ rfl rfl hl.1 rfl (lv_room (Nat.le_of_ble_eq_true rfl)) dX12_every_1 ⟨Nat.le_of_ble_eq_true rfl, Nat.le_of_ble_eq_true rfl⟩) hS (fun q _ h => hFc q h) hFc (fun u tC H1 locs htC hvm hw_2 hB hz1 hk1 hS => ?_)
  obtain ⟨fS9_3, sp9_4, wg9_5⟩ := u
  try dsimp only at hw_2 hB
  obtain ⟨hP1, hK1, hD1⟩ := hB
  rw [htC] at hP1
  have hK1 := va_K.moved hvm.symm hK1
  obtain ⟨hP, hD⟩ := va_join (wr := []) (w1 := [(zo14irriiiiiirriirrrrlriiii m0 th aS aI im (nI a) sp9_4 (nI E) wg9_5 5 aB aT se dn aG aO aN aD bv aY rn kd nu tv), (zaI aS cS 901 fS9_3)]) hP hD [0, 1] [] rfl rfl (by decide) (by decide) hk1 hFc hP1 hD1
  have hK := (hK.sub (tys' := []) [] rfl).app hK1
  generalize H1 = H at hP hS ⊢
  have hP : va_P (dC, dI) vwCl [(zo14irriiiiiirriirrrrlriiii m0 th aS aI im (nI a) sp9_4 (nI E) wg9_5 5 aB aT se dn aG aO aN aD bv aY rn kd nu tv), (zaI aS cS 901 fS9_3)] H := hP
  have hD : va_D A [(zo14irriiiiiirriirrrrlriiii m0 th aS aI im (nI a) sp9_4 (nI E) wg9_5 5 aB aT se dn aG aO aN aD bv aY rn kd nu tv), (zaI aS cS 901 fS9_3)] := hD
  have hK : va_K (dC, dI) vwCl [(cS, .int)] s := hK
  obtain ⟨p_6, rfl, h_9, h_10, hF_11, q9⟩ := hw_2
  rcases q9 with ⟨rfl, eP_8⟩ | ⟨rfl, L_7, eP_8, h_12, hI_13, h_14⟩
  · skip
    have L4 : ∀ (nF : Nat) (p1 : Nat) (L1 : List Nat) (m1 : Nat) (w1 : Int32) (f1 : Nat → Int32), E - p1 < nF → (p0 ≤ p1 ∧ p1 ≤ E) → (PF a fS f1) → ((w1 = 1 ∧ pEv ss (pFac ss 0) p0 = (none, p1)) ∨ (w1 = 0 ∧ pEv ss (pFac ss 0) p0 = pSep ss 38 1802 (pFac ss 0) m1 (some L1, p1) ∧ 101 ≤ m1 + p1 ∧ p0 + 3 ≤ p1 ∧ PI f1 a (K ++ L1) (d + 1) p1 E ∧ L1.length + p0 ≤ p1)) → ∀ (H : Heap) (locs : List Loc), va_K (dC, dI) vwCl [(cS, .int)] s → va_P (dC, dI) vwCl [(zo14irriiiiiirriirrrrlriiii m0 th aS aI im (nI a) (nI p1) (nI E) w1 5 aB aT se dn aG aO aN aD bv aY rn kd nu tv), (zaI aS cS 901 f1)] H → va_D A [(zo14irriiiiiirriirrrrlriiii m0 th aS aI im (nI a) (nI p1) (nI E) w1 5 aB aT se dn aG aO aN aD bv aY rn kd nu tv), (zaI aS cS 901 f1)] → va_S A s.heap H locs → ∀ (ls : Array Slot), lv_has ls 1 [(0, .ref m0)] → W p l e ({ frames := 6, cells := 0, slots := 0, locals := 131 } : Room) s m args below meth c H locs 0 0 Q (F0 m 4 ls []) := by
      intro nF
      induction nF with
      | zero => intro p1 L1 m1 w1 f1 hm; exact absurd hm (Nat.not_lt_zero _)
      | succ nF ih4 =>
        intro p1 L1 m1 w1 f1 hm h1 hF hw1 H locs hK hP hD hS ls hl
        obtain ⟨h1a, h1b⟩ := h1
        rcases hw1 with ⟨rfl, hE9⟩ | ⟨rfl, hE9, hm9, h3, hI, h4⟩
        · skip
          refine lv_aload_n hx hb dX12_every_4 rfl (lv_at hl 0 rfl) ?_
          refine va_get (D := (dC, dI)) (ci := 14) (v := .int 1) (C := RX12) (T := TX12) (N := 23) hx hb hts kc_every5_0 hown hK hP 0 rfl rfl 7 (by decide) (hts (.fieldLink RX12 65 "MistHeapsModel" "isWrong" "Z") kc_every5_1) (fun _ h9 => h9) rfl dX12_every_5 ?_
          refine lv_if_ne (tgt := 43) hx hb dX12_every_8 (by decide) (fun _ => ?_) (fun c_15 => absurd c_15 (by decide))
          rw [hQ]
          have hP9 := hP.sub (ws' := [(zo14irriiiiiirriirrrrlriiii m0 th aS aI im (nI a) (nI p1) (nI E) 1 5 aB aT se dn aG aO aN aD bv aY rn kd nu tv), (zaI aS cS 901 f1)]) [0, 1] rfl
          have hD9 := hD.sub (ws' := [(zo14irriiiiiirriirrrrlriiii m0 th aS aI im (nI a) (nI p1) (nI E) 1 5 aB aT se dn aG aO aN aD bv aY rn kd nu tv), (zaI aS cS 901 f1)]) [0, 1] (by decide) rfl
          have hK9 := hK.sub (tys' := [(cS, .int)]) [0] rfl
          exact W.vret hx hb hr (fun tQ htQ hWQ => ⟨⟨(f1, (nI p1), 1), rfl, ⟨p1, rfl, by omega, by omega, hF, Or.inl ⟨rfl, hE9⟩⟩, by rw [htQ]; exact hP9, va_K.moved hWQ.alike hK9, hD9⟩, hS.F htQ⟩) hS.2.2 dX12_every_43
        · skip
          have k5 := hI.2.2.2.2.1
          have hq1 : (K ++ L1).length = K.length + L1.length := List.length_append
          refine lv_aload_n hx hb dX12_every_4 rfl (lv_at hl 0 rfl) ?_
          refine va_get (D := (dC, dI)) (ci := 14) (v := .int 0) (C := RX12) (T := TX12) (N := 23) hx hb hts kc_every5_0 hown hK hP 0 rfl rfl 7 (by decide) (hts (.fieldLink RX12 65 "MistHeapsModel" "isWrong" "Z") kc_every5_1) (fun _ h9 => h9) rfl dX12_every_5 ?_
          refine lv_if_ne (tgt := 43) hx hb dX12_every_8 (by decide) (fun c_16 => absurd c_16 (by decide)) (fun _ => ?_)
          refine lv_aload_n hx hb dX12_every_11 rfl (lv_at hl 0 rfl) ?_
          have hPc := hP.sub (ws' := [(zo14irriiiiiirriirrrrlriiii m0 th aS aI im (nI a) (nI p1) (nI E) 0 5 aB aT se dn aG aO aN aD bv aY rn kd nu tv), (zaI aS cS 901 f1)]) [0, 1] rfl
          have hKc := hK.sub (tys' := [(cS, .int)]) [0] rfl
          refine vp_callSi (va_runV (As := []) (rest := []) ⟨hx, hb, hml, hown, hts⟩ (c_here l dC dI m0 aS aI aB aT aG aO aN aD aY th im (nI a) (nI p1) (nI E) 0 5 se dn rn kd nu tv bv cS f1 a p1 E (by omega) (by omega) (by omega)) (cwV 0 hts gX12_every_X12_here rfl rfl rfl hd_yX12_here ⟨Nat.le_of_ble_eq_true rfl, Nat.le_of_ble_eq_true rfl⟩) ⟨fun a U g mk q => by obtain ⟨q0, qP, qK⟩ := q; exact ⟨q0, mvP g mk a qP, mvK g mk a qK⟩, va_recv hK hP (ci := 14) (q := (RX12, TX12, 23)) (q0 := 0) rfl rfl, fun U hU hW => ⟨rfl, by rw [hU]; exact hPc, va_K.moved hW.alike hKc⟩⟩ rfl rfl hl.1 rfl (lv_room (Nat.le_of_ble_eq_true rfl)) dX12_every_12 ⟨Nat.le_of_ble_eq_true rfl, Nat.le_of_ble_eq_true rfl⟩).run (fun r_17 hw_18 => ?_)
          refine lv_bipush (v := 38) hx hb dX12_every_15 (by decide) ?_
          refine lv_icmp_ne (tgt := 43) hx hb dX12_every_17 (by decide) (fun c_19 => ?_) (fun c_19 => ?_)
          · skip
            have hn9 : ¬ ss p1 = 38 := fun z => c_19 (by rw [hw_18]; exact ((TP_PF gT gE hF).eq (c := 38) (by omega) (by omega)).mpr z)
            rw [hQ]
            have hP9 := hP.sub (ws' := [(zo14irriiiiiirriirrrrlriiii m0 th aS aI im (nI a) (nI p1) (nI E) 0 5 aB aT se dn aG aO aN aD bv aY rn kd nu tv), (zaI aS cS 901 f1)]) [0, 1] rfl
            have hD9 := hD.sub (ws' := [(zo14irriiiiiirriirrrrlriiii m0 th aS aI im (nI a) (nI p1) (nI E) 0 5 aB aT se dn aG aO aN aD bv aY rn kd nu tv), (zaI aS cS 901 f1)]) [0, 1] (by decide) rfl
            have hK9 := hK.sub (tys' := [(cS, .int)]) [0] rfl
            exact W.vret hx hb hr (fun tQ htQ hWQ => ⟨⟨(f1, (nI p1), 0), rfl, ⟨p1, rfl, by omega, by omega, hF, Or.inr ⟨rfl, L1, hE9.trans (ps_end hn9), by omega, hI, by (try simp only [List.length_append, List.length_cons, List.length_nil]); omega⟩⟩, by rw [htQ]; exact hP9, va_K.moved hWQ.alike hK9, hD9⟩, hS.F htQ⟩) hS.2.2 dX12_every_43
          · skip
            have hs9 : ss p1 = 38 := ((TP_PF gT gE hF).eq (c := 38) (by omega) (by omega)).mp (by rw [← hw_18, c_19]; rfl)
            have hlt : p1 < E := Nat.lt_of_not_le (fun z => by have := gT.2.1 p1 z; omega)
            obtain ⟨m2, rfl⟩ : ∃ q : Nat, m1 = q + 1 := ⟨m1 - 1, by omega⟩
            refine lv_aload_n hx hb dX12_every_20 rfl (lv_at hl 0 rfl) ?_
            refine lv_dup hx hb dX12_every_21 rfl ?_
            refine va_get (D := (dC, dI)) (ci := 14) (v := .int (nI p1)) (C := RX12) (T := TX12) (N := 23) hx hb hts kc_every5_0 hown hK hP 0 rfl rfl 5 (by decide) (hts (.fieldLink RX12 59 "MistHeapsModel" "spot" "I") kc_every5_2) (fun _ h9 => h9) rfl dX12_every_22 ?_
            refine lv_iconst (v := 1) hx hb dX12_every_25 (by decide) ?_
            refine lv_iadd hx hb dX12_every_26 ?_
            refine qi_as (y := nI (p1 + 1)) (nI_add p1 1) ?_
            refine va_put (D := (dC, dI)) (ci := 14) (v := .int (nI (p1 + 1))) (ty := .int) (C := RX12) (T := TX12) (N := 23) hx hb hts kc_every5_0 tyX12 tyX12_ok nmX12 hown hK hP hD hS 0 rfl rfl 5 (by decide) (hts (.fieldLink RX12 59 "MistHeapsModel" "spot" "I") kc_every5_2) (fun _ h9 => h9) rfl (by decide +kernel) rfl rfl (Nat.le_of_ble_eq_true rfl) dX12_every_27 (fun H locs hP hD hS => ?_)
            have hP : va_P (dC, dI) vwCl [(zo14irriiiiiirriirrrrlriiii m0 th aS aI im (nI a) (nI (p1 + 1)) (nI E) 0 5 aB aT se dn aG aO aN aD bv aY rn kd nu tv), (zaI aS cS 901 f1)] H := hP
            have hD : va_D A [(zo14irriiiiiirriirrrrlriiii m0 th aS aI im (nI a) (nI (p1 + 1)) (nI E) 0 5 aB aT se dn aG aO aN aD bv aY rn kd nu tv), (zaI aS cS 901 f1)] := hD
            refine lv_aload_n hx hb dX12_every_30 rfl (lv_at hl 0 rfl) ?_
            have hPc := hP.sub (ws' := [(zo14irriiiiiirriirrrrlriiii m0 th aS aI im (nI a) (nI (p1 + 1)) (nI E) 0 5 aB aT se dn aG aO aN aD bv aY rn kd nu tv), (zaI aS cS 901 f1)]) [0, 1] rfl
            have hDc := hD.sub (ws' := [(zo14irriiiiiirriirrrrlriiii m0 th aS aI im (nI a) (nI (p1 + 1)) (nI E) 0 5 aB aT se dn aG aO aN aD bv aY rn kd nu tv), (zaI aS cS 901 f1)]) [0, 1] (by decide) rfl
            have hKc := hK.sub (tys' := [(cS, .int)]) [0] rfl
            have hFc := va_free (wc := [(zo14irriiiiiirriirrrrlriiii m0 th aS aI im (nI a) (nI (p1 + 1)) (nI E) 0 5 aB aT se dn aG aO aN aD bv aY rn kd nu tv), (zaI aS cS 901 f1)]) hD hS hA [0, 1] rfl
            refine va_callv (va_runV (As := []) (rest := []) ⟨hx, hb, hml, hown, hts⟩ (c_factor5 l dC dI sK sV m0 aS aI aB aT aG aO aN aD aY th im (nI a) (nI (p1 + 1)) (nI E) 0 5 se dn rn kd nu tv bv cS f1 a (p1 + 1) E (K ++ L1) (d + 1) ss H.size ((hI).mono (by omega) (by omega)) ((TP_PF gT gE (hF)))) (cwV 0 hts gX12_every_X12_factor rfl rfl rfl hd_yX12_factor ⟨Nat.le_of_ble_eq_true rfl, Nat.le_of_ble_eq_true rfl⟩) ⟨fun a U g mk q => by obtain ⟨q0, q1, qP, qK, qD, qhE⟩ := q; exact ⟨q0, mvz g mk a q1, mvP g mk a qP, mvK g mk a qK, qD, qhE.mv g mk a⟩, va_recv hK hP (ci := 14) (q := (RX12, TX12, 23)) (q0 := 0) rfl rfl, fun U hU hW => ⟨rfl, by rw [hU], by rw [hU]; exact hPc, va_K.moved hW.alike hKc, hDc.weaken (fun _ _ _ _ => trivial), hE.call hS hU hW (fun q h => hFc q h)⟩⟩ rfl rfl hl.1 rfl (lv_room (Nat.le_of_ble_eq_true rfl)) dX12_every_31 ⟨Nat.le_of_ble_eq_true rfl, Nat.le_of_ble_eq_true rfl⟩) hS (fun q _ h => hFc q h) hFc (fun u tC H1 locs htC hvm hw_21 hB hz1 hk1 hS => ?_)
            obtain ⟨fS9_22, sp9_23, wg9_24⟩ := u
            try dsimp only at hw_21 hB
            obtain ⟨hP1, hK1, hD1⟩ := hB
            rw [htC] at hP1
            have hK1 := va_K.moved hvm.symm hK1
            obtain ⟨hP, hD⟩ := va_join (wr := []) (w1 := [(zo14irriiiiiirriirrrrlriiii m0 th aS aI im (nI a) sp9_23 (nI E) wg9_24 5 aB aT se dn aG aO aN aD bv aY rn kd nu tv), (zaI aS cS 901 fS9_22)]) hP hD [0, 1] [] rfl rfl (by decide) (by decide) hk1 hFc hP1 hD1
            have hK := (hK.sub (tys' := []) [] rfl).app hK1
            generalize H1 = H at hP hS ⊢
            have hP : va_P (dC, dI) vwCl [(zo14irriiiiiirriirrrrlriiii m0 th aS aI im (nI a) sp9_23 (nI E) wg9_24 5 aB aT se dn aG aO aN aD bv aY rn kd nu tv), (zaI aS cS 901 fS9_22)] H := hP
            have hD : va_D A [(zo14irriiiiiirriirrrrlriiii m0 th aS aI im (nI a) sp9_23 (nI E) wg9_24 5 aB aT se dn aG aO aN aD bv aY rn kd nu tv), (zaI aS cS 901 fS9_22)] := hD
            have hK : va_K (dC, dI) vwCl [(cS, .int)] s := hK
            obtain ⟨p_25, rfl, h_28, h_29, hF_30, q9⟩ := hw_21
            rcases q9 with ⟨rfl, eP_27⟩ | ⟨rfl, L_26, eP_27, h_31, hI_32, h_33⟩
            · skip
              refine lv_aload_n hx hb dX12_every_34 rfl (lv_at hl 0 rfl) ?_
              refine lv_bipush (v := (-2)) hx hb dX12_every_35 (by decide) ?_
              have hPc := hP.sub (ws' := [(zo14irriiiiiirriirrrrlriiii m0 th aS aI im (nI a) (nI p_25) (nI E) 1 5 aB aT se dn aG aO aN aD bv aY rn kd nu tv)]) [0] rfl
              have hKc := hK.sub (tys' := []) [] rfl
              refine va_csv (va_runV (As := [.int (-2)]) (rest := []) ⟨hx, hb, hml, hown, hts⟩ (c_emitsW l dC dI m0 aS aI aB aT aG aO aN aD aY th im (nI a) (nI p_25) (nI E) 1 5 se dn rn kd nu tv bv (-2)) (cwV 1 hts gX12_every_X12_emits rfl rfl rfl hd_yX12_emits ⟨Nat.le_of_ble_eq_true rfl, Nat.le_of_ble_eq_true rfl⟩) ⟨fun a U g mk q => by obtain ⟨q0, qP, qK⟩ := q; exact ⟨q0, mvP g mk a qP, mvK g mk a qK⟩, va_recv hK hP (ci := 14) (q := (RX12, TX12, 23)) (q0 := 0) rfl rfl, fun U hU hW => ⟨rfl, by rw [hU]; exact hPc, va_K.moved hW.alike hKc⟩⟩ rfl rfl hl.1 rfl (lv_room (Nat.le_of_ble_eq_true rfl)) dX12_every_37 ⟨Nat.le_of_ble_eq_true rfl, Nat.le_of_ble_eq_true rfl⟩).run (fun hw_35 => ?_)
              refine lv_goto (tgt := 4) hx hb dX12_every_40 (by decide) ?_
              exact ih4 (p_25) ([]) (0) (1) (fS9_22) (by omega) (by omega) ((hF).tr hF_30) (Or.inl ⟨rfl, hE9.trans (ps_bad hs9 eP_27)⟩) _ _ (hK.sub [0] rfl) (hP.sub [0, 1] rfl) (hD.sub [0, 1] (by decide) rfl) hS ls (lv_sub hl [0] rfl)
            · skip
              have k5 := hI_32.2.2.2.2.1
              have hqL_26 : ((K ++ L1) ++ L_26).length = (K ++ L1).length + L_26.length := List.length_append
              refine lv_aload_n hx hb dX12_every_34 rfl (lv_at hl 0 rfl) ?_
              refine lv_bipush (v := (-2)) hx hb dX12_every_35 (by decide) ?_
              have hPc := hP.sub (ws' := [(zo14irriiiiiirriirrrrlriiii m0 th aS aI im (nI a) (nI p_25) (nI E) 0 5 aB aT se dn aG aO aN aD bv aY rn kd nu tv), (zaI aS cS 901 fS9_22)]) [0, 1] rfl
              have hDc := hD.sub (ws' := [(zo14irriiiiiirriirrrrlriiii m0 th aS aI im (nI a) (nI p_25) (nI E) 0 5 aB aT se dn aG aO aN aD bv aY rn kd nu tv), (zaI aS cS 901 fS9_22)]) [0, 1] (by decide) rfl
              have hKc := hK.sub (tys' := [(cS, .int)]) [0] rfl
              have hFc := va_free (wc := [(zo14irriiiiiirriirrrrlriiii m0 th aS aI im (nI a) (nI p_25) (nI E) 0 5 aB aT se dn aG aO aN aD bv aY rn kd nu tv), (zaI aS cS 901 fS9_22)]) hD hS hA [0, 1] rfl
              refine va_callv (va_runV (As := [.int (-2)]) (rest := []) ⟨hx, hb, hml, hown, hts⟩ (c_emits l dC dI m0 aS aI aB aT aG aO aN aD aY th im (nI a) (nI p_25) (nI E) 0 5 se dn rn kd nu tv bv cS fS9_22 a ((K ++ L1) ++ L_26).length (-2) H.size (ga) ((hI_32).2.2.2.1) (by have := (hI_32).2.2.2.2.1; omega)) (cwV 1 hts gX12_every_X12_emits rfl rfl rfl hd_yX12_emits ⟨Nat.le_of_ble_eq_true rfl, Nat.le_of_ble_eq_true rfl⟩) ⟨fun a U g mk q => by obtain ⟨q0, q1, qP, qK, qD⟩ := q; exact ⟨q0, mvz g mk a q1, mvP g mk a qP, mvK g mk a qK, qD⟩, va_recv hK hP (ci := 14) (q := (RX12, TX12, 23)) (q0 := 0) rfl rfl, fun U hU hW => ⟨rfl, by rw [hU], by rw [hU]; exact hPc, va_K.moved hW.alike hKc, hDc.weaken (fun _ _ _ _ => trivial)⟩⟩ rfl rfl hl.1 rfl (lv_room (Nat.le_of_ble_eq_true rfl)) dX12_every_37 ⟨Nat.le_of_ble_eq_true rfl, Nat.le_of_ble_eq_true rfl⟩) hS (fun q _ h => hFc q h) hFc (fun u tC H1 locs htC hvm hw_37 hB hz1 hk1 hS => ?_)
              obtain ⟨fS9_38, rfl⟩ : ∃ z, z = u := ⟨_, rfl⟩
              try dsimp only at hw_37 hB
              obtain ⟨hP1, hK1, hD1⟩ := hB
              rw [htC] at hP1
              have hK1 := va_K.moved hvm.symm hK1
              obtain ⟨hP, hD⟩ := va_join (wr := []) (w1 := [(zo14irriiiiiirriirrrrlriiii m0 th aS aI im (nI a) (nI p_25) (nI E) 0 5 aB aT se dn aG aO aN aD bv aY rn kd nu tv), (zaI aS cS 901 fS9_38)]) hP hD [0, 1] [] rfl rfl (by decide) (by decide) hk1 hFc hP1 hD1
              have hK := (hK.sub (tys' := []) [] rfl).app hK1
              generalize H1 = H at hP hS ⊢
              have hP : va_P (dC, dI) vwCl [(zo14irriiiiiirriirrrrlriiii m0 th aS aI im (nI a) (nI p_25) (nI E) 0 5 aB aT se dn aG aO aN aD bv aY rn kd nu tv), (zaI aS cS 901 fS9_38)] H := hP
              have hD : va_D A [(zo14irriiiiiirriirrrrlriiii m0 th aS aI im (nI a) (nI p_25) (nI E) 0 5 aB aT se dn aG aO aN aD bv aY rn kd nu tv), (zaI aS cS 901 fS9_38)] := hD
              have hK : va_K (dC, dI) vwCl [(cS, .int)] s := hK
              obtain rfl : fS9_38 = emt fS9_22 a ((K ++ L1) ++ L_26).length (-2) := by rcases hw_37 with ⟨q, _⟩ | ⟨_, q⟩; exact absurd rfl q; exact q
              have hI_39 : PI (emt fS9_22 a ((K ++ L1) ++ L_26).length (-2)) a (((K ++ L1) ++ L_26) ++ [1802]) (((d + 1) + 1) - 1) p_25 E := PI.em (t := 1802) ((hI_32).mono (by omega) (by omega)) (by omega) (by omega) (stepd_both (by omega)) (by decide)
              have hF_40 : PF a fS (emt fS9_22 a ((K ++ L1) ++ L_26).length (-2)) := ((hF).tr hF_30).tr (PF_emt (k := ((K ++ L1) ++ L_26).length) (x := (-2)) ga (by have := (hI_32).2.2.2.2.1; omega))
              have hKhI_39 : (((K ++ L1) ++ L_26) ++ [1802]).length = ((K ++ L1) ++ L_26).length + 1 := by rw [List.length_append]; rfl
              refine lv_goto (tgt := 4) hx hb dX12_every_40 (by decide) ?_
              exact ih4 (p_25) (L1 ++ (L_26 ++ [1802])) (m2) (0) (emt fS9_22 a ((K ++ L1) ++ L_26).length (-2)) (by omega) (by omega) (hF_40) (Or.inr ⟨rfl, hE9.trans (ps_go hs9 eP_27), by omega, by omega, PI.as (PI.as hI_39), by simp only [List.length_append, List.length_cons, List.length_nil]; omega⟩) _ _ (hK.sub [0] rfl) (hP.sub [0, 1] rfl) (hD.sub [0, 1] (by decide) rfl) hS ls (lv_sub hl [0] rfl)
    exact L4 _ (p_6) ([]) (0) (1) (fS9_3) (Nat.lt_succ_self _) (by omega) ((PF.rf).tr hF_11) (Or.inl ⟨rfl, pEv_n eP_8⟩) _ _ (hK.sub [0] rfl) (hP.sub [0, 1] rfl) (hD.sub [0, 1] (by decide) rfl) hS ls (lv_sub hl [0] rfl)
  · skip
    have k5 := hI_13.2.2.2.2.1
    have hqL_7 : (K ++ L_7).length = K.length + L_7.length := List.length_append
    have L4 : ∀ (nF : Nat) (p1 : Nat) (L1 : List Nat) (m1 : Nat) (w1 : Int32) (f1 : Nat → Int32), E - p1 < nF → (p0 ≤ p1 ∧ p1 ≤ E) → (PF a fS f1) → ((w1 = 1 ∧ pEv ss (pFac ss 0) p0 = (none, p1)) ∨ (w1 = 0 ∧ pEv ss (pFac ss 0) p0 = pSep ss 38 1802 (pFac ss 0) m1 (some L1, p1) ∧ 101 ≤ m1 + p1 ∧ p0 + 3 ≤ p1 ∧ PI f1 a (K ++ L1) (d + 1) p1 E ∧ L1.length + p0 ≤ p1)) → ∀ (H : Heap) (locs : List Loc), va_K (dC, dI) vwCl [(cS, .int)] s → va_P (dC, dI) vwCl [(zo14irriiiiiirriirrrrlriiii m0 th aS aI im (nI a) (nI p1) (nI E) w1 5 aB aT se dn aG aO aN aD bv aY rn kd nu tv), (zaI aS cS 901 f1)] H → va_D A [(zo14irriiiiiirriirrrrlriiii m0 th aS aI im (nI a) (nI p1) (nI E) w1 5 aB aT se dn aG aO aN aD bv aY rn kd nu tv), (zaI aS cS 901 f1)] → va_S A s.heap H locs → ∀ (ls : Array Slot), lv_has ls 1 [(0, .ref m0)] → W p l e ({ frames := 6, cells := 0, slots := 0, locals := 131 } : Room) s m args below meth c H locs 0 0 Q (F0 m 4 ls []) := by
      intro nF
      induction nF with
      | zero => intro p1 L1 m1 w1 f1 hm; exact absurd hm (Nat.not_lt_zero _)
      | succ nF ih4 =>
        intro p1 L1 m1 w1 f1 hm h1 hF hw1 H locs hK hP hD hS ls hl
        obtain ⟨h1a, h1b⟩ := h1
        rcases hw1 with ⟨rfl, hE9⟩ | ⟨rfl, hE9, hm9, h3, hI, h4⟩
        · skip
          refine lv_aload_n hx hb dX12_every_4 rfl (lv_at hl 0 rfl) ?_
          refine va_get (D := (dC, dI)) (ci := 14) (v := .int 1) (C := RX12) (T := TX12) (N := 23) hx hb hts kc_every5_0 hown hK hP 0 rfl rfl 7 (by decide) (hts (.fieldLink RX12 65 "MistHeapsModel" "isWrong" "Z") kc_every5_1) (fun _ h9 => h9) rfl dX12_every_5 ?_
          refine lv_if_ne (tgt := 43) hx hb dX12_every_8 (by decide) (fun _ => ?_) (fun c_41 => absurd c_41 (by decide))
          rw [hQ]
          have hP9 := hP.sub (ws' := [(zo14irriiiiiirriirrrrlriiii m0 th aS aI im (nI a) (nI p1) (nI E) 1 5 aB aT se dn aG aO aN aD bv aY rn kd nu tv), (zaI aS cS 901 f1)]) [0, 1] rfl
          have hD9 := hD.sub (ws' := [(zo14irriiiiiirriirrrrlriiii m0 th aS aI im (nI a) (nI p1) (nI E) 1 5 aB aT se dn aG aO aN aD bv aY rn kd nu tv), (zaI aS cS 901 f1)]) [0, 1] (by decide) rfl
          have hK9 := hK.sub (tys' := [(cS, .int)]) [0] rfl
          exact W.vret hx hb hr (fun tQ htQ hWQ => ⟨⟨(f1, (nI p1), 1), rfl, ⟨p1, rfl, by omega, by omega, hF, Or.inl ⟨rfl, hE9⟩⟩, by rw [htQ]; exact hP9, va_K.moved hWQ.alike hK9, hD9⟩, hS.F htQ⟩) hS.2.2 dX12_every_43
        · skip
          have k5 := hI.2.2.2.2.1
          have hq1 : (K ++ L1).length = K.length + L1.length := List.length_append
          refine lv_aload_n hx hb dX12_every_4 rfl (lv_at hl 0 rfl) ?_
          refine va_get (D := (dC, dI)) (ci := 14) (v := .int 0) (C := RX12) (T := TX12) (N := 23) hx hb hts kc_every5_0 hown hK hP 0 rfl rfl 7 (by decide) (hts (.fieldLink RX12 65 "MistHeapsModel" "isWrong" "Z") kc_every5_1) (fun _ h9 => h9) rfl dX12_every_5 ?_
          refine lv_if_ne (tgt := 43) hx hb dX12_every_8 (by decide) (fun c_42 => absurd c_42 (by decide)) (fun _ => ?_)
          refine lv_aload_n hx hb dX12_every_11 rfl (lv_at hl 0 rfl) ?_
          have hPc := hP.sub (ws' := [(zo14irriiiiiirriirrrrlriiii m0 th aS aI im (nI a) (nI p1) (nI E) 0 5 aB aT se dn aG aO aN aD bv aY rn kd nu tv), (zaI aS cS 901 f1)]) [0, 1] rfl
          have hKc := hK.sub (tys' := [(cS, .int)]) [0] rfl
          refine vp_callSi (va_runV (As := []) (rest := []) ⟨hx, hb, hml, hown, hts⟩ (c_here l dC dI m0 aS aI aB aT aG aO aN aD aY th im (nI a) (nI p1) (nI E) 0 5 se dn rn kd nu tv bv cS f1 a p1 E (by omega) (by omega) (by omega)) (cwV 0 hts gX12_every_X12_here rfl rfl rfl hd_yX12_here ⟨Nat.le_of_ble_eq_true rfl, Nat.le_of_ble_eq_true rfl⟩) ⟨fun a U g mk q => by obtain ⟨q0, qP, qK⟩ := q; exact ⟨q0, mvP g mk a qP, mvK g mk a qK⟩, va_recv hK hP (ci := 14) (q := (RX12, TX12, 23)) (q0 := 0) rfl rfl, fun U hU hW => ⟨rfl, by rw [hU]; exact hPc, va_K.moved hW.alike hKc⟩⟩ rfl rfl hl.1 rfl (lv_room (Nat.le_of_ble_eq_true rfl)) dX12_every_12 ⟨Nat.le_of_ble_eq_true rfl, Nat.le_of_ble_eq_true rfl⟩).run (fun r_43 hw_44 => ?_)
          refine lv_bipush (v := 38) hx hb dX12_every_15 (by decide) ?_
          refine lv_icmp_ne (tgt := 43) hx hb dX12_every_17 (by decide) (fun c_45 => ?_) (fun c_45 => ?_)
          · skip
            have hn9 : ¬ ss p1 = 38 := fun z => c_45 (by rw [hw_44]; exact ((TP_PF gT gE hF).eq (c := 38) (by omega) (by omega)).mpr z)
            rw [hQ]
            have hP9 := hP.sub (ws' := [(zo14irriiiiiirriirrrrlriiii m0 th aS aI im (nI a) (nI p1) (nI E) 0 5 aB aT se dn aG aO aN aD bv aY rn kd nu tv), (zaI aS cS 901 f1)]) [0, 1] rfl
            have hD9 := hD.sub (ws' := [(zo14irriiiiiirriirrrrlriiii m0 th aS aI im (nI a) (nI p1) (nI E) 0 5 aB aT se dn aG aO aN aD bv aY rn kd nu tv), (zaI aS cS 901 f1)]) [0, 1] (by decide) rfl
            have hK9 := hK.sub (tys' := [(cS, .int)]) [0] rfl
            exact W.vret hx hb hr (fun tQ htQ hWQ => ⟨⟨(f1, (nI p1), 0), rfl, ⟨p1, rfl, by omega, by omega, hF, Or.inr ⟨rfl, L1, hE9.trans (ps_end hn9), by omega, hI, by (try simp only [List.length_append, List.length_cons, List.length_nil]); omega⟩⟩, by rw [htQ]; exact hP9, va_K.moved hWQ.alike hK9, hD9⟩, hS.F htQ⟩) hS.2.2 dX12_every_43
          · skip
            have hs9 : ss p1 = 38 := ((TP_PF gT gE hF).eq (c := 38) (by omega) (by omega)).mp (by rw [← hw_44, c_45]; rfl)
            have hlt : p1 < E := Nat.lt_of_not_le (fun z => by have := gT.2.1 p1 z; omega)
            obtain ⟨m2, rfl⟩ : ∃ q : Nat, m1 = q + 1 := ⟨m1 - 1, by omega⟩
            refine lv_aload_n hx hb dX12_every_20 rfl (lv_at hl 0 rfl) ?_
            refine lv_dup hx hb dX12_every_21 rfl ?_
            refine va_get (D := (dC, dI)) (ci := 14) (v := .int (nI p1)) (C := RX12) (T := TX12) (N := 23) hx hb hts kc_every5_0 hown hK hP 0 rfl rfl 5 (by decide) (hts (.fieldLink RX12 59 "MistHeapsModel" "spot" "I") kc_every5_2) (fun _ h9 => h9) rfl dX12_every_22 ?_
            refine lv_iconst (v := 1) hx hb dX12_every_25 (by decide) ?_
            refine lv_iadd hx hb dX12_every_26 ?_
            refine qi_as (y := nI (p1 + 1)) (nI_add p1 1) ?_
            refine va_put (D := (dC, dI)) (ci := 14) (v := .int (nI (p1 + 1))) (ty := .int) (C := RX12) (T := TX12) (N := 23) hx hb hts kc_every5_0 tyX12 tyX12_ok nmX12 hown hK hP hD hS 0 rfl rfl 5 (by decide) (hts (.fieldLink RX12 59 "MistHeapsModel" "spot" "I") kc_every5_2) (fun _ h9 => h9) rfl (by decide +kernel) rfl rfl (Nat.le_of_ble_eq_true rfl) dX12_every_27 (fun H locs hP hD hS => ?_)
            have hP : va_P (dC, dI) vwCl [(zo14irriiiiiirriirrrrlriiii m0 th aS aI im (nI a) (nI (p1 + 1)) (nI E) 0 5 aB aT se dn aG aO aN aD bv aY rn kd nu tv), (zaI aS cS 901 f1)] H := hP
            have hD : va_D A [(zo14irriiiiiirriirrrrlriiii m0 th aS aI im (nI a) (nI (p1 + 1)) (nI E) 0 5 aB aT se dn aG aO aN aD bv aY rn kd nu tv), (zaI aS cS 901 f1)] := hD
            refine lv_aload_n hx hb dX12_every_30 rfl (lv_at hl 0 rfl) ?_
            have hPc := hP.sub (ws' := [(zo14irriiiiiirriirrrrlriiii m0 th aS aI im (nI a) (nI (p1 + 1)) (nI E) 0 5 aB aT se dn aG aO aN aD bv aY rn kd nu tv), (zaI aS cS 901 f1)]) [0, 1] rfl
            have hDc := hD.sub (ws' := [(zo14irriiiiiirriirrrrlriiii m0 th aS aI im (nI a) (nI (p1 + 1)) (nI E) 0 5 aB aT se dn aG aO aN aD bv aY rn kd nu tv), (zaI aS cS 901 f1)]) [0, 1] (by decide) rfl
            have hKc := hK.sub (tys' := [(cS, .int)]) [0] rfl
            have hFc := va_free (wc := [(zo14irriiiiiirriirrrrlriiii m0 th aS aI im (nI a) (nI (p1 + 1)) (nI E) 0 5 aB aT se dn aG aO aN aD bv aY rn kd nu tv), (zaI aS cS 901 f1)]) hD hS hA [0, 1] rfl
            refine va_callv (va_runV (As := []) (rest := []) ⟨hx, hb, hml, hown, hts⟩ (c_factor5 l dC dI sK sV m0 aS aI aB aT aG aO aN aD aY th im (nI a) (nI (p1 + 1)) (nI E) 0 5 se dn rn kd nu tv bv cS f1 a (p1 + 1) E (K ++ L1) (d + 1) ss H.size ((hI).mono (by omega) (by omega)) ((TP_PF gT gE (hF)))) (cwV 0 hts gX12_every_X12_factor rfl rfl rfl hd_yX12_factor ⟨Nat.le_of_ble_eq_true rfl, Nat.le_of_ble_eq_true rfl⟩) ⟨fun a U g mk q => by obtain ⟨q0, q1, qP, qK, qD, qhE⟩ := q; exact ⟨q0, mvz g mk a q1, mvP g mk a qP, mvK g mk a qK, qD, qhE.mv g mk a⟩, va_recv hK hP (ci := 14) (q := (RX12, TX12, 23)) (q0 := 0) rfl rfl, fun U hU hW => ⟨rfl, by rw [hU], by rw [hU]; exact hPc, va_K.moved hW.alike hKc, hDc.weaken (fun _ _ _ _ => trivial), hE.call hS hU hW (fun q h => hFc q h)⟩⟩ rfl rfl hl.1 rfl (lv_room (Nat.le_of_ble_eq_true rfl)) dX12_every_31 ⟨Nat.le_of_ble_eq_true rfl, Nat.le_of_ble_eq_true rfl⟩) hS (fun q _ h => hFc q h) hFc (fun u tC H1 locs htC hvm hw_47 hB hz1 hk1 hS => ?_)
            obtain ⟨fS9_48, sp9_49, wg9_50⟩ := u
            try dsimp only at hw_47 hB
            obtain ⟨hP1, hK1, hD1⟩ := hB
            rw [htC] at hP1
            have hK1 := va_K.moved hvm.symm hK1
            obtain ⟨hP, hD⟩ := va_join (wr := []) (w1 := [(zo14irriiiiiirriirrrrlriiii m0 th aS aI im (nI a) sp9_49 (nI E) wg9_50 5 aB aT se dn aG aO aN aD bv aY rn kd nu tv), (zaI aS cS 901 fS9_48)]) hP hD [0, 1] [] rfl rfl (by decide) (by decide) hk1 hFc hP1 hD1
            have hK := (hK.sub (tys' := []) [] rfl).app hK1
            generalize H1 = H at hP hS ⊢
            have hP : va_P (dC, dI) vwCl [(zo14irriiiiiirriirrrrlriiii m0 th aS aI im (nI a) sp9_49 (nI E) wg9_50 5 aB aT se dn aG aO aN aD bv aY rn kd nu tv), (zaI aS cS 901 fS9_48)] H := hP
            have hD : va_D A [(zo14irriiiiiirriirrrrlriiii m0 th aS aI im (nI a) sp9_49 (nI E) wg9_50 5 aB aT se dn aG aO aN aD bv aY rn kd nu tv), (zaI aS cS 901 fS9_48)] := hD
            have hK : va_K (dC, dI) vwCl [(cS, .int)] s := hK
            obtain ⟨p_51, rfl, h_54, h_55, hF_56, q9⟩ := hw_47
            rcases q9 with ⟨rfl, eP_53⟩ | ⟨rfl, L_52, eP_53, h_57, hI_58, h_59⟩
            · skip
              refine lv_aload_n hx hb dX12_every_34 rfl (lv_at hl 0 rfl) ?_
              refine lv_bipush (v := (-2)) hx hb dX12_every_35 (by decide) ?_
              have hPc := hP.sub (ws' := [(zo14irriiiiiirriirrrrlriiii m0 th aS aI im (nI a) (nI p_51) (nI E) 1 5 aB aT se dn aG aO aN aD bv aY rn kd nu tv)]) [0] rfl
              have hKc := hK.sub (tys' := []) [] rfl
              refine va_csv (va_runV (As := [.int (-2)]) (rest := []) ⟨hx, hb, hml, hown, hts⟩ (c_emitsW l dC dI m0 aS aI aB aT aG aO aN aD aY th im (nI a) (nI p_51) (nI E) 1 5 se dn rn kd nu tv bv (-2)) (cwV 1 hts gX12_every_X12_emits rfl rfl rfl hd_yX12_emits ⟨Nat.le_of_ble_eq_true rfl, Nat.le_of_ble_eq_true rfl⟩) ⟨fun a U g mk q => by obtain ⟨q0, qP, qK⟩ := q; exact ⟨q0, mvP g mk a qP, mvK g mk a qK⟩, va_recv hK hP (ci := 14) (q := (RX12, TX12, 23)) (q0 := 0) rfl rfl, fun U hU hW => ⟨rfl, by rw [hU]; exact hPc, va_K.moved hW.alike hKc⟩⟩ rfl rfl hl.1 rfl (lv_room (Nat.le_of_ble_eq_true rfl)) dX12_every_37 ⟨Nat.le_of_ble_eq_true rfl, Nat.le_of_ble_eq_true rfl⟩).run (fun hw_61 => ?_)
              refine lv_goto (tgt := 4) hx hb dX12_every_40 (by decide) ?_
              exact ih4 (p_51) ([]) (0) (1) (fS9_48) (by omega) (by omega) ((hF).tr hF_56) (Or.inl ⟨rfl, hE9.trans (ps_bad hs9 eP_53)⟩) _ _ (hK.sub [0] rfl) (hP.sub [0, 1] rfl) (hD.sub [0, 1] (by decide) rfl) hS ls (lv_sub hl [0] rfl)
            · skip
              have k5 := hI_58.2.2.2.2.1
              have hqL_52 : ((K ++ L1) ++ L_52).length = (K ++ L1).length + L_52.length := List.length_append
              refine lv_aload_n hx hb dX12_every_34 rfl (lv_at hl 0 rfl) ?_
              refine lv_bipush (v := (-2)) hx hb dX12_every_35 (by decide) ?_
              have hPc := hP.sub (ws' := [(zo14irriiiiiirriirrrrlriiii m0 th aS aI im (nI a) (nI p_51) (nI E) 0 5 aB aT se dn aG aO aN aD bv aY rn kd nu tv), (zaI aS cS 901 fS9_48)]) [0, 1] rfl
              have hDc := hD.sub (ws' := [(zo14irriiiiiirriirrrrlriiii m0 th aS aI im (nI a) (nI p_51) (nI E) 0 5 aB aT se dn aG aO aN aD bv aY rn kd nu tv), (zaI aS cS 901 fS9_48)]) [0, 1] (by decide) rfl
              have hKc := hK.sub (tys' := [(cS, .int)]) [0] rfl
              have hFc := va_free (wc := [(zo14irriiiiiirriirrrrlriiii m0 th aS aI im (nI a) (nI p_51) (nI E) 0 5 aB aT se dn aG aO aN aD bv aY rn kd nu tv), (zaI aS cS 901 fS9_48)]) hD hS hA [0, 1] rfl
              refine va_callv (va_runV (As := [.int (-2)]) (rest := []) ⟨hx, hb, hml, hown, hts⟩ (c_emits l dC dI m0 aS aI aB aT aG aO aN aD aY th im (nI a) (nI p_51) (nI E) 0 5 se dn rn kd nu tv bv cS fS9_48 a ((K ++ L1) ++ L_52).length (-2) H.size (ga) ((hI_58).2.2.2.1) (by have := (hI_58).2.2.2.2.1; omega)) (cwV 1 hts gX12_every_X12_emits rfl rfl rfl hd_yX12_emits ⟨Nat.le_of_ble_eq_true rfl, Nat.le_of_ble_eq_true rfl⟩) ⟨fun a U g mk q => by obtain ⟨q0, q1, qP, qK, qD⟩ := q; exact ⟨q0, mvz g mk a q1, mvP g mk a qP, mvK g mk a qK, qD⟩, va_recv hK hP (ci := 14) (q := (RX12, TX12, 23)) (q0 := 0) rfl rfl, fun U hU hW => ⟨rfl, by rw [hU], by rw [hU]; exact hPc, va_K.moved hW.alike hKc, hDc.weaken (fun _ _ _ _ => trivial)⟩⟩ rfl rfl hl.1 rfl (lv_room (Nat.le_of_ble_eq_true rfl)) dX12_every_37 ⟨Nat.le_of_ble_eq_true rfl, Nat.le_of_ble_eq_true rfl⟩) hS (fun q _ h => hFc q h) hFc (fun u tC H1 locs htC hvm hw_63 hB hz1 hk1 hS => ?_)
              obtain ⟨fS9_64, rfl⟩ : ∃ z, z = u := ⟨_, rfl⟩
              try dsimp only at hw_63 hB
              obtain ⟨hP1, hK1, hD1⟩ := hB
              rw [htC] at hP1
              have hK1 := va_K.moved hvm.symm hK1
              obtain ⟨hP, hD⟩ := va_join (wr := []) (w1 := [(zo14irriiiiiirriirrrrlriiii m0 th aS aI im (nI a) (nI p_51) (nI E) 0 5 aB aT se dn aG aO aN aD bv aY rn kd nu tv), (zaI aS cS 901 fS9_64)]) hP hD [0, 1] [] rfl rfl (by decide) (by decide) hk1 hFc hP1 hD1
              have hK := (hK.sub (tys' := []) [] rfl).app hK1
              generalize H1 = H at hP hS ⊢
              have hP : va_P (dC, dI) vwCl [(zo14irriiiiiirriirrrrlriiii m0 th aS aI im (nI a) (nI p_51) (nI E) 0 5 aB aT se dn aG aO aN aD bv aY rn kd nu tv), (zaI aS cS 901 fS9_64)] H := hP
              have hD : va_D A [(zo14irriiiiiirriirrrrlriiii m0 th aS aI im (nI a) (nI p_51) (nI E) 0 5 aB aT se dn aG aO aN aD bv aY rn kd nu tv), (zaI aS cS 901 fS9_64)] := hD
              have hK : va_K (dC, dI) vwCl [(cS, .int)] s := hK
              obtain rfl : fS9_64 = emt fS9_48 a ((K ++ L1) ++ L_52).length (-2) := by rcases hw_63 with ⟨q, _⟩ | ⟨_, q⟩; exact absurd rfl q; exact q
              have hI_65 : PI (emt fS9_48 a ((K ++ L1) ++ L_52).length (-2)) a (((K ++ L1) ++ L_52) ++ [1802]) (((d + 1) + 1) - 1) p_51 E := PI.em (t := 1802) ((hI_58).mono (by omega) (by omega)) (by omega) (by omega) (stepd_both (by omega)) (by decide)
              have hF_66 : PF a fS (emt fS9_48 a ((K ++ L1) ++ L_52).length (-2)) := ((hF).tr hF_56).tr (PF_emt (k := ((K ++ L1) ++ L_52).length) (x := (-2)) ga (by have := (hI_58).2.2.2.2.1; omega))
              have hKhI_65 : (((K ++ L1) ++ L_52) ++ [1802]).length = ((K ++ L1) ++ L_52).length + 1 := by rw [List.length_append]; rfl
              refine lv_goto (tgt := 4) hx hb dX12_every_40 (by decide) ?_
              exact ih4 (p_51) (L1 ++ (L_52 ++ [1802])) (m2) (0) (emt fS9_48 a ((K ++ L1) ++ L_52).length (-2)) (by omega) (by omega) (hF_66) (Or.inr ⟨rfl, hE9.trans (ps_go hs9 eP_53), by omega, by omega, PI.as (PI.as hI_65), by simp only [List.length_append, List.length_cons, List.length_nil]; omega⟩) _ _ (hK.sub [0] rfl) (hP.sub [0, 1] rfl) (hD.sub [0, 1] (by decide) rfl) hS ls (lv_sub hl [0] rfl)
    exact L4 _ (p_6) (L_7) (101) (0) (fS9_3) (Nat.lt_succ_self _) (by omega) ((PF.rf).tr hF_11) (Or.inr ⟨rfl, pEv_s eP_8, by omega, by omega, hI_13, by omega⟩) _ _ (hK.sub [0] rfl) (hP.sub [0, 1] rfl) (hD.sub [0, 1] (by decide) rfl) hS ls (lv_sub hl [0] rfl)

theorem kc_some5_0 : ∀ w ∈ wsX120, w ∈ wsX12_some := fun w h => List.mem_cons_of_mem _ (gin_wsX120 w h)
theorem kc_some5_1 : (.fieldLink RX12 65 "MistHeapsModel" "isWrong" "Z" : Cond) ∈ wsX12_some := kc_of 1147 rfl rfl rfl
theorem kc_some5_2 : (.fieldLink RX12 59 "MistHeapsModel" "spot" "I" : Cond) ∈ wsX12_some := kc_of 1145 rfl rfl rfl
set_option maxHeartbeats 4000000 in
set_option maxRecDepth 100000 in
theorem c_some5 (l : Launch) (dC : Nat → ClassId) (dI : Nat → Nat → Nat) (sK sV : Nat → Nat) (m0 aS aI aB aT aG aO aN aD aY : Nat) (th im ac sp en wg op se dn rn kd nu tv : Int32) (bv : Int64) (cS : ClassId) (fS : Nat → Int32) (a p0 E : Nat) (K : List Nat) (d : Nat) (ss : Nat → Nat) (sz : Nat) (gI : PI fS a K d p0 E) (gT : TP fS E ss) : Met l yX12_some wsX12_some ({ frames := 7, cells := 0, slots := 0, locals := 151 } : Room) (va_Pc [.ref m0] (fun U => U.heap.size = sz ∧ va_P (dC, dI) vwCl [(zo14irriiiiiirriirrrrlriiii m0 th aS aI im (nI a) (nI p0) (nI E) 0 5 aB aT se dn aG aO aN aD bv aY rn kd nu tv), (zaI aS cS 901 fS)] U.heap ∧ va_K (dC, dI) vwCl [(cS, .int)] U ∧ va_D (fun _ => True) [(zo14irriiiiiirriirrrrlriiii m0 th aS aI im (nI a) (nI p0) (nI E) 0 5 aB aT se dn aG aO aN aD bv aY rn kd nu tv), (zaI aS cS 901 fS)] ∧ Gs sK sV (va_A [(zo14irriiiiiirriirrrrlriiii m0 th aS aI im (nI a) (nI p0) (nI E) 0 5 aB aT se dn aG aO aN aD bv aY rn kd nu tv), (zaI aS cS 901 fS)] sz) U)) (va_Qv (fun (u : (Nat → Int32) × (Int32) × (Int32)) => match u with | (fS9, sp9, wg9) => ∃ p9 : Nat, sp9 = nI p9 ∧ p0 ≤ p9 ∧ p9 ≤ E ∧ PF a fS fS9 ∧ ((wg9 = 1 ∧ pSm ss (pFac ss 0) p0 = (none, p9)) ∨ (wg9 = 0 ∧ ∃ L : List Nat, pSm ss (pFac ss 0) p0 = (some L, p9) ∧ p0 + 3 ≤ p9 ∧ PI fS9 a (K ++ L) (d + 1) p9 E ∧ L.length + p0 ≤ p9))) (fun (u : (Nat → Int32) × (Int32) × (Int32)) (t : State) => match u with | (fS9, sp9, wg9) => va_P (dC, dI) vwCl [(zo14irriiiiiirriirrrrlriiii m0 th aS aI im (nI a) sp9 (nI E) wg9 5 aB aT se dn aG aO aN aD bv aY rn kd nu tv), (zaI aS cS 901 fS9)] t.heap ∧ va_K (dC, dI) vwCl [(cS, .int)] t ∧ va_D (va_A [(zo14irriiiiiirriirrrrlriiii m0 th aS aI im (nI a) (nI p0) (nI E) 0 5 aB aT se dn aG aO aN aD bv aY rn kd nu tv), (zaI aS cS 901 fS)] sz) [(zo14irriiiiiirriirrrrlriiii m0 th aS aI im (nI a) sp9 (nI E) wg9 5 aB aT se dn aG aO aN aD bv aY rn kd nu tv), (zaI aS cS 901 fS9)]) (va_A [(zo14irriiiiiirriirrrrlriiii m0 th aS aI im (nI a) (nI p0) (nI E) 0 5 aB aT se dn aG aO aN aD bv aY rn kd nu tv), (zaI aS cS 901 fS)] sz)) 0 0 (va_A [(zo14irriiiiiirriirrrrlriiii m0 th aS aI im (nI a) (nI p0) (nI E) 0 5 aB aT se dn aG aO aN aD bv aY rn kd nu tv), (zaI aS cS 901 fS)] sz) := by
  refine met_ofQ (cc := cX12_some) (maxL := 1) (ret := none) (by decide) rfl ?_
  intro p e s m args below meth c s₁ Q B hml hv hQ
  obtain ⟨rfl, hsz, hP, hK, hD0, hE⟩ := hv
  have hx := B.exec
  have hb := B.bytes
  have hr := B.returns
  have hts := atoms_spec (ws := wsX12_some) B.pre
  have hown : s.vm.findClass RX12 = some m.cls := findClass_of_methodNamed B.named
  have hlocks := B.notSynchronized
  subst hsz
  have hD := hD0.self (sz := s.heap.size)
  generalize hAe : va_A [(zo14irriiiiiirriirrrrlriiii m0 th aS aI im (nI a) (nI p0) (nI E) 0 5 aB aT se dn aG aO aN aD bv aY rn kd nu tv), (zaI aS cS 901 fS)] s.heap.size = A at hD hQ hE ⊢
  have hA : ∀ q : Nat, s.heap.size ≤ q → A q := fun q h => by rw [← hAe]; exact Or.inr h
  have hS : va_S A s.heap s.heap [] := va_S.rf
  have hl := lv_entry [.ref m0] (n := 1) (Nat.le_of_ble_eq_true rfl)
  rw [lg_entry_eq]
  generalize (lg_sl [.ref m0] ++ List.replicate (1 - (lg_sl [.ref m0]).length) Slot.unset).toArray = ls at hl ⊢
  generalize hag : ([.ref m0] : List Value).toArray = args at hts hQ ⊢
  have hl : lv_has ls 1 [(0, .ref m0)] := hl
  obtain ⟨H, hH⟩ : ∃ H : Heap, H = s.heap := ⟨_, rfl⟩
  rw [← hH] at hP
  rw [← hH]
  have hS : va_S A s.heap H [] := by rw [hH]; exact hS
  obtain ⟨locs, hlo⟩ : ∃ L : List Loc, L = [] := ⟨_, rfl⟩
  rw [← hlo] at hS
  rw [← hlo]
  clear hH hlo
  obtain ⟨ga, gp, gE, zk, gkp, gd, gs, gcd⟩ := id gI
  refine lv_aload_n hx hb dX12_some_0 rfl (lv_at hl 0 rfl) ?_
  have hPc := hP.sub (ws' := [(zo14irriiiiiirriirrrrlriiii m0 th aS aI im (nI a) (nI p0) (nI E) 0 5 aB aT se dn aG aO aN aD bv aY rn kd nu tv), (zaI aS cS 901 fS)]) [0, 1] rfl
  have hDc := hD.sub (ws' := [(zo14irriiiiiirriirrrrlriiii m0 th aS aI im (nI a) (nI p0) (nI E) 0 5 aB aT se dn aG aO aN aD bv aY rn kd nu tv), (zaI aS cS 901 fS)]) [0, 1] (by decide) rfl
  have hKc := hK.sub (tys' := [(cS, .int)]) [0] rfl
  have hFc := va_free (wc := [(zo14irriiiiiirriirrrrlriiii m0 th aS aI im (nI a) (nI p0) (nI E) 0 5 aB aT se dn aG aO aN aD bv aY rn kd nu tv), (zaI aS cS 901 fS)]) hD hS hA [0, 1] rfl
  refine va_callv (va_runV (As := []) (rest := []) ⟨hx, hb, hml, hown, hts⟩ (c_every5 l dC dI sK sV m0 aS aI aB aT aG aO aN aD aY th im (nI a) (nI p0) (nI E) 0 5 se dn rn kd nu tv bv cS fS a p0 E K d ss H.size ((gI).mono (by omega) (by omega)) (gT)) (cwV 0 hts gX12_some_X12_every rfl rfl rfl hd_yX12_every ⟨Nat.le_of_ble_eq_true rfl, Nat.le_of_ble_eq_true rfl⟩) ⟨fun a U g mk q => by obtain ⟨q0, q1, qP, qK, qD, qhE⟩ := q; exact ⟨q0, mvz g mk a q1, mvP g mk a qP, mvK g mk a qK, qD, qhE.mv g mk a⟩, va_recv hK hP (ci := 14) (q := (RX12, TX12, 23)) (q0 := 0) rfl rfl, fun U hU hW => ⟨rfl, by rw [hU], by rw [hU]; exact hPc, va_K.moved hW.alike hKc, hDc.weaken (fun _ _ _ _ => trivial), hE.call hS hU hW (fun q h => hFc q h)⟩⟩ rfl rfl hl.1 rfl (lv_room (Nat.le_of_ble_eq_true rfl)) dX12_some_1 ⟨Nat.le_of_ble_eq_true rfl, Nat.le_of_ble_eq_true rfl⟩) hS (fun q _ h => hFc q h) hFc (fun u tC H1 locs htC hvm hw_2 hB hz1 hk1 hS => ?_)
  obtain ⟨fS9_3, sp9_4, wg9_5⟩ := u
  try dsimp only at hw_2 hB
  obtain ⟨hP1, hK1, hD1⟩ := hB
  rw [htC] at hP1
  have hK1 := va_K.moved hvm.symm hK1
  obtain ⟨hP, hD⟩ := va_join (wr := []) (w1 := [(zo14irriiiiiirriirrrrlriiii m0 th aS aI im (nI a) sp9_4 (nI E) wg9_5 5 aB aT se dn aG aO aN aD bv aY rn kd nu tv), (zaI aS cS 901 fS9_3)]) hP hD [0, 1] [] rfl rfl (by decide) (by decide) hk1 hFc hP1 hD1
  have hK := (hK.sub (tys' := []) [] rfl).app hK1
  generalize H1 = H at hP hS ⊢
  have hP : va_P (dC, dI) vwCl [(zo14irriiiiiirriirrrrlriiii m0 th aS aI im (nI a) sp9_4 (nI E) wg9_5 5 aB aT se dn aG aO aN aD bv aY rn kd nu tv), (zaI aS cS 901 fS9_3)] H := hP
  have hD : va_D A [(zo14irriiiiiirriirrrrlriiii m0 th aS aI im (nI a) sp9_4 (nI E) wg9_5 5 aB aT se dn aG aO aN aD bv aY rn kd nu tv), (zaI aS cS 901 fS9_3)] := hD
  have hK : va_K (dC, dI) vwCl [(cS, .int)] s := hK
  obtain ⟨p_6, rfl, h_9, h_10, hF_11, q9⟩ := hw_2
  rcases q9 with ⟨rfl, eP_8⟩ | ⟨rfl, L_7, eP_8, h_12, hI_13, h_14⟩
  · skip
    have L4 : ∀ (nF : Nat) (p1 : Nat) (L1 : List Nat) (m1 : Nat) (w1 : Int32) (f1 : Nat → Int32), E - p1 < nF → (p0 ≤ p1 ∧ p1 ≤ E) → (PF a fS f1) → ((w1 = 1 ∧ pSm ss (pFac ss 0) p0 = (none, p1)) ∨ (w1 = 0 ∧ pSm ss (pFac ss 0) p0 = pSep ss 124 1803 (pEv ss (pFac ss 0)) m1 (some L1, p1) ∧ 101 ≤ m1 + p1 ∧ p0 + 3 ≤ p1 ∧ PI f1 a (K ++ L1) (d + 1) p1 E ∧ L1.length + p0 ≤ p1)) → ∀ (H : Heap) (locs : List Loc), va_K (dC, dI) vwCl [(cS, .int)] s → va_P (dC, dI) vwCl [(zo14irriiiiiirriirrrrlriiii m0 th aS aI im (nI a) (nI p1) (nI E) w1 5 aB aT se dn aG aO aN aD bv aY rn kd nu tv), (zaI aS cS 901 f1)] H → va_D A [(zo14irriiiiiirriirrrrlriiii m0 th aS aI im (nI a) (nI p1) (nI E) w1 5 aB aT se dn aG aO aN aD bv aY rn kd nu tv), (zaI aS cS 901 f1)] → va_S A s.heap H locs → ∀ (ls : Array Slot), lv_has ls 1 [(0, .ref m0)] → W p l e ({ frames := 7, cells := 0, slots := 0, locals := 151 } : Room) s m args below meth c H locs 0 0 Q (F0 m 4 ls []) := by
      intro nF
      induction nF with
      | zero => intro p1 L1 m1 w1 f1 hm; exact absurd hm (Nat.not_lt_zero _)
      | succ nF ih4 =>
        intro p1 L1 m1 w1 f1 hm h1 hF hw1 H locs hK hP hD hS ls hl
        obtain ⟨h1a, h1b⟩ := h1
        rcases hw1 with ⟨rfl, hE9⟩ | ⟨rfl, hE9, hm9, h3, hI, h4⟩
        · skip
          refine lv_aload_n hx hb dX12_some_4 rfl (lv_at hl 0 rfl) ?_
          refine va_get (D := (dC, dI)) (ci := 14) (v := .int 1) (C := RX12) (T := TX12) (N := 23) hx hb hts kc_some5_0 hown hK hP 0 rfl rfl 7 (by decide) (hts (.fieldLink RX12 65 "MistHeapsModel" "isWrong" "Z") kc_some5_1) (fun _ h9 => h9) rfl dX12_some_5 ?_
          refine lv_if_ne (tgt := 43) hx hb dX12_some_8 (by decide) (fun _ => ?_) (fun c_15 => absurd c_15 (by decide))
          rw [hQ]
          have hP9 := hP.sub (ws' := [(zo14irriiiiiirriirrrrlriiii m0 th aS aI im (nI a) (nI p1) (nI E) 1 5 aB aT se dn aG aO aN aD bv aY rn kd nu tv), (zaI aS cS 901 f1)]) [0, 1] rfl
          have hD9 := hD.sub (ws' := [(zo14irriiiiiirriirrrrlriiii m0 th aS aI im (nI a) (nI p1) (nI E) 1 5 aB aT se dn aG aO aN aD bv aY rn kd nu tv), (zaI aS cS 901 f1)]) [0, 1] (by decide) rfl
          have hK9 := hK.sub (tys' := [(cS, .int)]) [0] rfl
          exact W.vret hx hb hr (fun tQ htQ hWQ => ⟨⟨(f1, (nI p1), 1), rfl, ⟨p1, rfl, by omega, by omega, hF, Or.inl ⟨rfl, hE9⟩⟩, by rw [htQ]; exact hP9, va_K.moved hWQ.alike hK9, hD9⟩, hS.F htQ⟩) hS.2.2 dX12_some_43
        · skip
          have k5 := hI.2.2.2.2.1
          have hq1 : (K ++ L1).length = K.length + L1.length := List.length_append
          refine lv_aload_n hx hb dX12_some_4 rfl (lv_at hl 0 rfl) ?_
          refine va_get (D := (dC, dI)) (ci := 14) (v := .int 0) (C := RX12) (T := TX12) (N := 23) hx hb hts kc_some5_0 hown hK hP 0 rfl rfl 7 (by decide) (hts (.fieldLink RX12 65 "MistHeapsModel" "isWrong" "Z") kc_some5_1) (fun _ h9 => h9) rfl dX12_some_5 ?_
          refine lv_if_ne (tgt := 43) hx hb dX12_some_8 (by decide) (fun c_16 => absurd c_16 (by decide)) (fun _ => ?_)
          refine lv_aload_n hx hb dX12_some_11 rfl (lv_at hl 0 rfl) ?_
          have hPc := hP.sub (ws' := [(zo14irriiiiiirriirrrrlriiii m0 th aS aI im (nI a) (nI p1) (nI E) 0 5 aB aT se dn aG aO aN aD bv aY rn kd nu tv), (zaI aS cS 901 f1)]) [0, 1] rfl
          have hKc := hK.sub (tys' := [(cS, .int)]) [0] rfl
          refine vp_callSi (va_runV (As := []) (rest := []) ⟨hx, hb, hml, hown, hts⟩ (c_here l dC dI m0 aS aI aB aT aG aO aN aD aY th im (nI a) (nI p1) (nI E) 0 5 se dn rn kd nu tv bv cS f1 a p1 E (by omega) (by omega) (by omega)) (cwV 0 hts gX12_some_X12_here rfl rfl rfl hd_yX12_here ⟨Nat.le_of_ble_eq_true rfl, Nat.le_of_ble_eq_true rfl⟩) ⟨fun a U g mk q => by obtain ⟨q0, qP, qK⟩ := q; exact ⟨q0, mvP g mk a qP, mvK g mk a qK⟩, va_recv hK hP (ci := 14) (q := (RX12, TX12, 23)) (q0 := 0) rfl rfl, fun U hU hW => ⟨rfl, by rw [hU]; exact hPc, va_K.moved hW.alike hKc⟩⟩ rfl rfl hl.1 rfl (lv_room (Nat.le_of_ble_eq_true rfl)) dX12_some_12 ⟨Nat.le_of_ble_eq_true rfl, Nat.le_of_ble_eq_true rfl⟩).run (fun r_17 hw_18 => ?_)
          refine lv_bipush (v := 124) hx hb dX12_some_15 (by decide) ?_
          refine lv_icmp_ne (tgt := 43) hx hb dX12_some_17 (by decide) (fun c_19 => ?_) (fun c_19 => ?_)
          · skip
            have hn9 : ¬ ss p1 = 124 := fun z => c_19 (by rw [hw_18]; exact ((TP_PF gT gE hF).eq (c := 124) (by omega) (by omega)).mpr z)
            rw [hQ]
            have hP9 := hP.sub (ws' := [(zo14irriiiiiirriirrrrlriiii m0 th aS aI im (nI a) (nI p1) (nI E) 0 5 aB aT se dn aG aO aN aD bv aY rn kd nu tv), (zaI aS cS 901 f1)]) [0, 1] rfl
            have hD9 := hD.sub (ws' := [(zo14irriiiiiirriirrrrlriiii m0 th aS aI im (nI a) (nI p1) (nI E) 0 5 aB aT se dn aG aO aN aD bv aY rn kd nu tv), (zaI aS cS 901 f1)]) [0, 1] (by decide) rfl
            have hK9 := hK.sub (tys' := [(cS, .int)]) [0] rfl
            exact W.vret hx hb hr (fun tQ htQ hWQ => ⟨⟨(f1, (nI p1), 0), rfl, ⟨p1, rfl, by omega, by omega, hF, Or.inr ⟨rfl, L1, hE9.trans (ps_end hn9), by omega, hI, by (try simp only [List.length_append, List.length_cons, List.length_nil]); omega⟩⟩, by rw [htQ]; exact hP9, va_K.moved hWQ.alike hK9, hD9⟩, hS.F htQ⟩) hS.2.2 dX12_some_43
          · skip
            have hs9 : ss p1 = 124 := ((TP_PF gT gE hF).eq (c := 124) (by omega) (by omega)).mp (by rw [← hw_18, c_19]; rfl)
            have hlt : p1 < E := Nat.lt_of_not_le (fun z => by have := gT.2.1 p1 z; omega)
            obtain ⟨m2, rfl⟩ : ∃ q : Nat, m1 = q + 1 := ⟨m1 - 1, by omega⟩
            refine lv_aload_n hx hb dX12_some_20 rfl (lv_at hl 0 rfl) ?_
            refine lv_dup hx hb dX12_some_21 rfl ?_
            refine va_get (D := (dC, dI)) (ci := 14) (v := .int (nI p1)) (C := RX12) (T := TX12) (N := 23) hx hb hts kc_some5_0 hown hK hP 0 rfl rfl 5 (by decide) (hts (.fieldLink RX12 59 "MistHeapsModel" "spot" "I") kc_some5_2) (fun _ h9 => h9) rfl dX12_some_22 ?_
            refine lv_iconst (v := 1) hx hb dX12_some_25 (by decide) ?_
            refine lv_iadd hx hb dX12_some_26 ?_
            refine qi_as (y := nI (p1 + 1)) (nI_add p1 1) ?_
            refine va_put (D := (dC, dI)) (ci := 14) (v := .int (nI (p1 + 1))) (ty := .int) (C := RX12) (T := TX12) (N := 23) hx hb hts kc_some5_0 tyX12 tyX12_ok nmX12 hown hK hP hD hS 0 rfl rfl 5 (by decide) (hts (.fieldLink RX12 59 "MistHeapsModel" "spot" "I") kc_some5_2) (fun _ h9 => h9) rfl (by decide +kernel) rfl rfl (Nat.le_of_ble_eq_true rfl) dX12_some_27 (fun H locs hP hD hS => ?_)
            have hP : va_P (dC, dI) vwCl [(zo14irriiiiiirriirrrrlriiii m0 th aS aI im (nI a) (nI (p1 + 1)) (nI E) 0 5 aB aT se dn aG aO aN aD bv aY rn kd nu tv), (zaI aS cS 901 f1)] H := hP
            have hD : va_D A [(zo14irriiiiiirriirrrrlriiii m0 th aS aI im (nI a) (nI (p1 + 1)) (nI E) 0 5 aB aT se dn aG aO aN aD bv aY rn kd nu tv), (zaI aS cS 901 f1)] := hD
            refine lv_aload_n hx hb dX12_some_30 rfl (lv_at hl 0 rfl) ?_
            have hPc := hP.sub (ws' := [(zo14irriiiiiirriirrrrlriiii m0 th aS aI im (nI a) (nI (p1 + 1)) (nI E) 0 5 aB aT se dn aG aO aN aD bv aY rn kd nu tv), (zaI aS cS 901 f1)]) [0, 1] rfl
            have hDc := hD.sub (ws' := [(zo14irriiiiiirriirrrrlriiii m0 th aS aI im (nI a) (nI (p1 + 1)) (nI E) 0 5 aB aT se dn aG aO aN aD bv aY rn kd nu tv), (zaI aS cS 901 f1)]) [0, 1] (by decide) rfl
            have hKc := hK.sub (tys' := [(cS, .int)]) [0] rfl
            have hFc := va_free (wc := [(zo14irriiiiiirriirrrrlriiii m0 th aS aI im (nI a) (nI (p1 + 1)) (nI E) 0 5 aB aT se dn aG aO aN aD bv aY rn kd nu tv), (zaI aS cS 901 f1)]) hD hS hA [0, 1] rfl
            refine va_callv (va_runV (As := []) (rest := []) ⟨hx, hb, hml, hown, hts⟩ (c_every5 l dC dI sK sV m0 aS aI aB aT aG aO aN aD aY th im (nI a) (nI (p1 + 1)) (nI E) 0 5 se dn rn kd nu tv bv cS f1 a (p1 + 1) E (K ++ L1) (d + 1) ss H.size ((hI).mono (by omega) (by omega)) ((TP_PF gT gE (hF)))) (cwV 0 hts gX12_some_X12_every rfl rfl rfl hd_yX12_every ⟨Nat.le_of_ble_eq_true rfl, Nat.le_of_ble_eq_true rfl⟩) ⟨fun a U g mk q => by obtain ⟨q0, q1, qP, qK, qD, qhE⟩ := q; exact ⟨q0, mvz g mk a q1, mvP g mk a qP, mvK g mk a qK, qD, qhE.mv g mk a⟩, va_recv hK hP (ci := 14) (q := (RX12, TX12, 23)) (q0 := 0) rfl rfl, fun U hU hW => ⟨rfl, by rw [hU], by rw [hU]; exact hPc, va_K.moved hW.alike hKc, hDc.weaken (fun _ _ _ _ => trivial), hE.call hS hU hW (fun q h => hFc q h)⟩⟩ rfl rfl hl.1 rfl (lv_room (Nat.le_of_ble_eq_true rfl)) dX12_some_31 ⟨Nat.le_of_ble_eq_true rfl, Nat.le_of_ble_eq_true rfl⟩) hS (fun q _ h => hFc q h) hFc (fun u tC H1 locs htC hvm hw_21 hB hz1 hk1 hS => ?_)
            obtain ⟨fS9_22, sp9_23, wg9_24⟩ := u
            try dsimp only at hw_21 hB
            obtain ⟨hP1, hK1, hD1⟩ := hB
            rw [htC] at hP1
            have hK1 := va_K.moved hvm.symm hK1
            obtain ⟨hP, hD⟩ := va_join (wr := []) (w1 := [(zo14irriiiiiirriirrrrlriiii m0 th aS aI im (nI a) sp9_23 (nI E) wg9_24 5 aB aT se dn aG aO aN aD bv aY rn kd nu tv), (zaI aS cS 901 fS9_22)]) hP hD [0, 1] [] rfl rfl (by decide) (by decide) hk1 hFc hP1 hD1
            have hK := (hK.sub (tys' := []) [] rfl).app hK1
            generalize H1 = H at hP hS ⊢
            have hP : va_P (dC, dI) vwCl [(zo14irriiiiiirriirrrrlriiii m0 th aS aI im (nI a) sp9_23 (nI E) wg9_24 5 aB aT se dn aG aO aN aD bv aY rn kd nu tv), (zaI aS cS 901 fS9_22)] H := hP
            have hD : va_D A [(zo14irriiiiiirriirrrrlriiii m0 th aS aI im (nI a) sp9_23 (nI E) wg9_24 5 aB aT se dn aG aO aN aD bv aY rn kd nu tv), (zaI aS cS 901 fS9_22)] := hD
            have hK : va_K (dC, dI) vwCl [(cS, .int)] s := hK
            obtain ⟨p_25, rfl, h_28, h_29, hF_30, q9⟩ := hw_21
            rcases q9 with ⟨rfl, eP_27⟩ | ⟨rfl, L_26, eP_27, h_31, hI_32, h_33⟩
            · skip
              refine lv_aload_n hx hb dX12_some_34 rfl (lv_at hl 0 rfl) ?_
              refine lv_bipush (v := (-3)) hx hb dX12_some_35 (by decide) ?_
              have hPc := hP.sub (ws' := [(zo14irriiiiiirriirrrrlriiii m0 th aS aI im (nI a) (nI p_25) (nI E) 1 5 aB aT se dn aG aO aN aD bv aY rn kd nu tv)]) [0] rfl
              have hKc := hK.sub (tys' := []) [] rfl
              refine va_csv (va_runV (As := [.int (-3)]) (rest := []) ⟨hx, hb, hml, hown, hts⟩ (c_emitsW l dC dI m0 aS aI aB aT aG aO aN aD aY th im (nI a) (nI p_25) (nI E) 1 5 se dn rn kd nu tv bv (-3)) (cwV 1 hts gX12_some_X12_emits rfl rfl rfl hd_yX12_emits ⟨Nat.le_of_ble_eq_true rfl, Nat.le_of_ble_eq_true rfl⟩) ⟨fun a U g mk q => by obtain ⟨q0, qP, qK⟩ := q; exact ⟨q0, mvP g mk a qP, mvK g mk a qK⟩, va_recv hK hP (ci := 14) (q := (RX12, TX12, 23)) (q0 := 0) rfl rfl, fun U hU hW => ⟨rfl, by rw [hU]; exact hPc, va_K.moved hW.alike hKc⟩⟩ rfl rfl hl.1 rfl (lv_room (Nat.le_of_ble_eq_true rfl)) dX12_some_37 ⟨Nat.le_of_ble_eq_true rfl, Nat.le_of_ble_eq_true rfl⟩).run (fun hw_35 => ?_)
              refine lv_goto (tgt := 4) hx hb dX12_some_40 (by decide) ?_
              exact ih4 (p_25) ([]) (0) (1) (fS9_22) (by omega) (by omega) ((hF).tr hF_30) (Or.inl ⟨rfl, hE9.trans (ps_bad hs9 eP_27)⟩) _ _ (hK.sub [0] rfl) (hP.sub [0, 1] rfl) (hD.sub [0, 1] (by decide) rfl) hS ls (lv_sub hl [0] rfl)
            · skip
              have k5 := hI_32.2.2.2.2.1
              have hqL_26 : ((K ++ L1) ++ L_26).length = (K ++ L1).length + L_26.length := List.length_append
              refine lv_aload_n hx hb dX12_some_34 rfl (lv_at hl 0 rfl) ?_
              refine lv_bipush (v := (-3)) hx hb dX12_some_35 (by decide) ?_
              have hPc := hP.sub (ws' := [(zo14irriiiiiirriirrrrlriiii m0 th aS aI im (nI a) (nI p_25) (nI E) 0 5 aB aT se dn aG aO aN aD bv aY rn kd nu tv), (zaI aS cS 901 fS9_22)]) [0, 1] rfl
              have hDc := hD.sub (ws' := [(zo14irriiiiiirriirrrrlriiii m0 th aS aI im (nI a) (nI p_25) (nI E) 0 5 aB aT se dn aG aO aN aD bv aY rn kd nu tv), (zaI aS cS 901 fS9_22)]) [0, 1] (by decide) rfl
              have hKc := hK.sub (tys' := [(cS, .int)]) [0] rfl
              have hFc := va_free (wc := [(zo14irriiiiiirriirrrrlriiii m0 th aS aI im (nI a) (nI p_25) (nI E) 0 5 aB aT se dn aG aO aN aD bv aY rn kd nu tv), (zaI aS cS 901 fS9_22)]) hD hS hA [0, 1] rfl
              refine va_callv (va_runV (As := [.int (-3)]) (rest := []) ⟨hx, hb, hml, hown, hts⟩ (c_emits l dC dI m0 aS aI aB aT aG aO aN aD aY th im (nI a) (nI p_25) (nI E) 0 5 se dn rn kd nu tv bv cS fS9_22 a ((K ++ L1) ++ L_26).length (-3) H.size (ga) ((hI_32).2.2.2.1) (by have := (hI_32).2.2.2.2.1; omega)) (cwV 1 hts gX12_some_X12_emits rfl rfl rfl hd_yX12_emits ⟨Nat.le_of_ble_eq_true rfl, Nat.le_of_ble_eq_true rfl⟩) ⟨fun a U g mk q => by obtain ⟨q0, q1, qP, qK, qD⟩ := q; exact ⟨q0, mvz g mk a q1, mvP g mk a qP, mvK g mk a qK, qD⟩, va_recv hK hP (ci := 14) (q := (RX12, TX12, 23)) (q0 := 0) rfl rfl, fun U hU hW => ⟨rfl, by rw [hU], by rw [hU]; exact hPc, va_K.moved hW.alike hKc, hDc.weaken (fun _ _ _ _ => trivial)⟩⟩ rfl rfl hl.1 rfl (lv_room (Nat.le_of_ble_eq_true rfl)) dX12_some_37 ⟨Nat.le_of_ble_eq_true rfl, Nat.le_of_ble_eq_true rfl⟩) hS (fun q _ h => hFc q h) hFc (fun u tC H1 locs htC hvm hw_37 hB hz1 hk1 hS => ?_)
              obtain ⟨fS9_38, rfl⟩ : ∃ z, z = u := ⟨_, rfl⟩
              try dsimp only at hw_37 hB
              obtain ⟨hP1, hK1, hD1⟩ := hB
              rw [htC] at hP1
              have hK1 := va_K.moved hvm.symm hK1
              obtain ⟨hP, hD⟩ := va_join (wr := []) (w1 := [(zo14irriiiiiirriirrrrlriiii m0 th aS aI im (nI a) (nI p_25) (nI E) 0 5 aB aT se dn aG aO aN aD bv aY rn kd nu tv), (zaI aS cS 901 fS9_38)]) hP hD [0, 1] [] rfl rfl (by decide) (by decide) hk1 hFc hP1 hD1
              have hK := (hK.sub (tys' := []) [] rfl).app hK1
              generalize H1 = H at hP hS ⊢
              have hP : va_P (dC, dI) vwCl [(zo14irriiiiiirriirrrrlriiii m0 th aS aI im (nI a) (nI p_25) (nI E) 0 5 aB aT se dn aG aO aN aD bv aY rn kd nu tv), (zaI aS cS 901 fS9_38)] H := hP
              have hD : va_D A [(zo14irriiiiiirriirrrrlriiii m0 th aS aI im (nI a) (nI p_25) (nI E) 0 5 aB aT se dn aG aO aN aD bv aY rn kd nu tv), (zaI aS cS 901 fS9_38)] := hD
              have hK : va_K (dC, dI) vwCl [(cS, .int)] s := hK
              obtain rfl : fS9_38 = emt fS9_22 a ((K ++ L1) ++ L_26).length (-3) := by rcases hw_37 with ⟨q, _⟩ | ⟨_, q⟩; exact absurd rfl q; exact q
              have hI_39 : PI (emt fS9_22 a ((K ++ L1) ++ L_26).length (-3)) a (((K ++ L1) ++ L_26) ++ [1803]) (((d + 1) + 1) - 1) p_25 E := PI.em (t := 1803) ((hI_32).mono (by omega) (by omega)) (by omega) (by omega) (stepd_either (by omega)) (by decide)
              have hF_40 : PF a fS (emt fS9_22 a ((K ++ L1) ++ L_26).length (-3)) := ((hF).tr hF_30).tr (PF_emt (k := ((K ++ L1) ++ L_26).length) (x := (-3)) ga (by have := (hI_32).2.2.2.2.1; omega))
              have hKhI_39 : (((K ++ L1) ++ L_26) ++ [1803]).length = ((K ++ L1) ++ L_26).length + 1 := by rw [List.length_append]; rfl
              refine lv_goto (tgt := 4) hx hb dX12_some_40 (by decide) ?_
              exact ih4 (p_25) (L1 ++ (L_26 ++ [1803])) (m2) (0) (emt fS9_22 a ((K ++ L1) ++ L_26).length (-3)) (by omega) (by omega) (hF_40) (Or.inr ⟨rfl, hE9.trans (ps_go hs9 eP_27), by omega, by omega, PI.as (PI.as hI_39), by simp only [List.length_append, List.length_cons, List.length_nil]; omega⟩) _ _ (hK.sub [0] rfl) (hP.sub [0, 1] rfl) (hD.sub [0, 1] (by decide) rfl) hS ls (lv_sub hl [0] rfl)
    exact L4 _ (p_6) ([]) (0) (1) (fS9_3) (Nat.lt_succ_self _) (by omega) ((PF.rf).tr hF_11) (Or.inl ⟨rfl, pSm_n eP_8⟩) _ _ (hK.sub [0] rfl) (hP.sub [0, 1] rfl) (hD.sub [0, 1] (by decide) rfl) hS ls (lv_sub hl [0] rfl)
  · skip
    have k5 := hI_13.2.2.2.2.1
    have hqL_7 : (K ++ L_7).length = K.length + L_7.length := List.length_append
    have L4 : ∀ (nF : Nat) (p1 : Nat) (L1 : List Nat) (m1 : Nat) (w1 : Int32) (f1 : Nat → Int32), E - p1 < nF → (p0 ≤ p1 ∧ p1 ≤ E) → (PF a fS f1) → ((w1 = 1 ∧ pSm ss (pFac ss 0) p0 = (none, p1)) ∨ (w1 = 0 ∧ pSm ss (pFac ss 0) p0 = pSep ss 124 1803 (pEv ss (pFac ss 0)) m1 (some L1, p1) ∧ 101 ≤ m1 + p1 ∧ p0 + 3 ≤ p1 ∧ PI f1 a (K ++ L1) (d + 1) p1 E ∧ L1.length + p0 ≤ p1)) → ∀ (H : Heap) (locs : List Loc), va_K (dC, dI) vwCl [(cS, .int)] s → va_P (dC, dI) vwCl [(zo14irriiiiiirriirrrrlriiii m0 th aS aI im (nI a) (nI p1) (nI E) w1 5 aB aT se dn aG aO aN aD bv aY rn kd nu tv), (zaI aS cS 901 f1)] H → va_D A [(zo14irriiiiiirriirrrrlriiii m0 th aS aI im (nI a) (nI p1) (nI E) w1 5 aB aT se dn aG aO aN aD bv aY rn kd nu tv), (zaI aS cS 901 f1)] → va_S A s.heap H locs → ∀ (ls : Array Slot), lv_has ls 1 [(0, .ref m0)] → W p l e ({ frames := 7, cells := 0, slots := 0, locals := 151 } : Room) s m args below meth c H locs 0 0 Q (F0 m 4 ls []) := by
      intro nF
      induction nF with
      | zero => intro p1 L1 m1 w1 f1 hm; exact absurd hm (Nat.not_lt_zero _)
      | succ nF ih4 =>
        intro p1 L1 m1 w1 f1 hm h1 hF hw1 H locs hK hP hD hS ls hl
        obtain ⟨h1a, h1b⟩ := h1
        rcases hw1 with ⟨rfl, hE9⟩ | ⟨rfl, hE9, hm9, h3, hI, h4⟩
        · skip
          refine lv_aload_n hx hb dX12_some_4 rfl (lv_at hl 0 rfl) ?_
          refine va_get (D := (dC, dI)) (ci := 14) (v := .int 1) (C := RX12) (T := TX12) (N := 23) hx hb hts kc_some5_0 hown hK hP 0 rfl rfl 7 (by decide) (hts (.fieldLink RX12 65 "MistHeapsModel" "isWrong" "Z") kc_some5_1) (fun _ h9 => h9) rfl dX12_some_5 ?_
          refine lv_if_ne (tgt := 43) hx hb dX12_some_8 (by decide) (fun _ => ?_) (fun c_41 => absurd c_41 (by decide))
          rw [hQ]
          have hP9 := hP.sub (ws' := [(zo14irriiiiiirriirrrrlriiii m0 th aS aI im (nI a) (nI p1) (nI E) 1 5 aB aT se dn aG aO aN aD bv aY rn kd nu tv), (zaI aS cS 901 f1)]) [0, 1] rfl
          have hD9 := hD.sub (ws' := [(zo14irriiiiiirriirrrrlriiii m0 th aS aI im (nI a) (nI p1) (nI E) 1 5 aB aT se dn aG aO aN aD bv aY rn kd nu tv), (zaI aS cS 901 f1)]) [0, 1] (by decide) rfl
          have hK9 := hK.sub (tys' := [(cS, .int)]) [0] rfl
          exact W.vret hx hb hr (fun tQ htQ hWQ => ⟨⟨(f1, (nI p1), 1), rfl, ⟨p1, rfl, by omega, by omega, hF, Or.inl ⟨rfl, hE9⟩⟩, by rw [htQ]; exact hP9, va_K.moved hWQ.alike hK9, hD9⟩, hS.F htQ⟩) hS.2.2 dX12_some_43
        · skip
          have k5 := hI.2.2.2.2.1
          have hq1 : (K ++ L1).length = K.length + L1.length := List.length_append
          refine lv_aload_n hx hb dX12_some_4 rfl (lv_at hl 0 rfl) ?_
          refine va_get (D := (dC, dI)) (ci := 14) (v := .int 0) (C := RX12) (T := TX12) (N := 23) hx hb hts kc_some5_0 hown hK hP 0 rfl rfl 7 (by decide) (hts (.fieldLink RX12 65 "MistHeapsModel" "isWrong" "Z") kc_some5_1) (fun _ h9 => h9) rfl dX12_some_5 ?_
          refine lv_if_ne (tgt := 43) hx hb dX12_some_8 (by decide) (fun c_42 => absurd c_42 (by decide)) (fun _ => ?_)
          refine lv_aload_n hx hb dX12_some_11 rfl (lv_at hl 0 rfl) ?_
          have hPc := hP.sub (ws' := [(zo14irriiiiiirriirrrrlriiii m0 th aS aI im (nI a) (nI p1) (nI E) 0 5 aB aT se dn aG aO aN aD bv aY rn kd nu tv), (zaI aS cS 901 f1)]) [0, 1] rfl
          have hKc := hK.sub (tys' := [(cS, .int)]) [0] rfl
          refine vp_callSi (va_runV (As := []) (rest := []) ⟨hx, hb, hml, hown, hts⟩ (c_here l dC dI m0 aS aI aB aT aG aO aN aD aY th im (nI a) (nI p1) (nI E) 0 5 se dn rn kd nu tv bv cS f1 a p1 E (by omega) (by omega) (by omega)) (cwV 0 hts gX12_some_X12_here rfl rfl rfl hd_yX12_here ⟨Nat.le_of_ble_eq_true rfl, Nat.le_of_ble_eq_true rfl⟩) ⟨fun a U g mk q => by obtain ⟨q0, qP, qK⟩ := q; exact ⟨q0, mvP g mk a qP, mvK g mk a qK⟩, va_recv hK hP (ci := 14) (q := (RX12, TX12, 23)) (q0 := 0) rfl rfl, fun U hU hW => ⟨rfl, by rw [hU]; exact hPc, va_K.moved hW.alike hKc⟩⟩ rfl rfl hl.1 rfl (lv_room (Nat.le_of_ble_eq_true rfl)) dX12_some_12 ⟨Nat.le_of_ble_eq_true rfl, Nat.le_of_ble_eq_true rfl⟩).run (fun r_43 hw_44 => ?_)
          refine lv_bipush (v := 124) hx hb dX12_some_15 (by decide) ?_
          refine lv_icmp_ne (tgt := 43) hx hb dX12_some_17 (by decide) (fun c_45 => ?_) (fun c_45 => ?_)
          · skip
            have hn9 : ¬ ss p1 = 124 := fun z => c_45 (by rw [hw_44]; exact ((TP_PF gT gE hF).eq (c := 124) (by omega) (by omega)).mpr z)
            rw [hQ]
            have hP9 := hP.sub (ws' := [(zo14irriiiiiirriirrrrlriiii m0 th aS aI im (nI a) (nI p1) (nI E) 0 5 aB aT se dn aG aO aN aD bv aY rn kd nu tv), (zaI aS cS 901 f1)]) [0, 1] rfl
            have hD9 := hD.sub (ws' := [(zo14irriiiiiirriirrrrlriiii m0 th aS aI im (nI a) (nI p1) (nI E) 0 5 aB aT se dn aG aO aN aD bv aY rn kd nu tv), (zaI aS cS 901 f1)]) [0, 1] (by decide) rfl
            have hK9 := hK.sub (tys' := [(cS, .int)]) [0] rfl
            exact W.vret hx hb hr (fun tQ htQ hWQ => ⟨⟨(f1, (nI p1), 0), rfl, ⟨p1, rfl, by omega, by omega, hF, Or.inr ⟨rfl, L1, hE9.trans (ps_end hn9), by omega, hI, by (try simp only [List.length_append, List.length_cons, List.length_nil]); omega⟩⟩, by rw [htQ]; exact hP9, va_K.moved hWQ.alike hK9, hD9⟩, hS.F htQ⟩) hS.2.2 dX12_some_43
          · skip
            have hs9 : ss p1 = 124 := ((TP_PF gT gE hF).eq (c := 124) (by omega) (by omega)).mp (by rw [← hw_44, c_45]; rfl)
            have hlt : p1 < E := Nat.lt_of_not_le (fun z => by have := gT.2.1 p1 z; omega)
            obtain ⟨m2, rfl⟩ : ∃ q : Nat, m1 = q + 1 := ⟨m1 - 1, by omega⟩
            refine lv_aload_n hx hb dX12_some_20 rfl (lv_at hl 0 rfl) ?_
            refine lv_dup hx hb dX12_some_21 rfl ?_
            refine va_get (D := (dC, dI)) (ci := 14) (v := .int (nI p1)) (C := RX12) (T := TX12) (N := 23) hx hb hts kc_some5_0 hown hK hP 0 rfl rfl 5 (by decide) (hts (.fieldLink RX12 59 "MistHeapsModel" "spot" "I") kc_some5_2) (fun _ h9 => h9) rfl dX12_some_22 ?_
            refine lv_iconst (v := 1) hx hb dX12_some_25 (by decide) ?_
            refine lv_iadd hx hb dX12_some_26 ?_
            refine qi_as (y := nI (p1 + 1)) (nI_add p1 1) ?_
            refine va_put (D := (dC, dI)) (ci := 14) (v := .int (nI (p1 + 1))) (ty := .int) (C := RX12) (T := TX12) (N := 23) hx hb hts kc_some5_0 tyX12 tyX12_ok nmX12 hown hK hP hD hS 0 rfl rfl 5 (by decide) (hts (.fieldLink RX12 59 "MistHeapsModel" "spot" "I") kc_some5_2) (fun _ h9 => h9) rfl (by decide +kernel) rfl rfl (Nat.le_of_ble_eq_true rfl) dX12_some_27 (fun H locs hP hD hS => ?_)
            have hP : va_P (dC, dI) vwCl [(zo14irriiiiiirriirrrrlriiii m0 th aS aI im (nI a) (nI (p1 + 1)) (nI E) 0 5 aB aT se dn aG aO aN aD bv aY rn kd nu tv), (zaI aS cS 901 f1)] H := hP
            have hD : va_D A [(zo14irriiiiiirriirrrrlriiii m0 th aS aI im (nI a) (nI (p1 + 1)) (nI E) 0 5 aB aT se dn aG aO aN aD bv aY rn kd nu tv), (zaI aS cS 901 f1)] := hD
            refine lv_aload_n hx hb dX12_some_30 rfl (lv_at hl 0 rfl) ?_
            have hPc := hP.sub (ws' := [(zo14irriiiiiirriirrrrlriiii m0 th aS aI im (nI a) (nI (p1 + 1)) (nI E) 0 5 aB aT se dn aG aO aN aD bv aY rn kd nu tv), (zaI aS cS 901 f1)]) [0, 1] rfl
            have hDc := hD.sub (ws' := [(zo14irriiiiiirriirrrrlriiii m0 th aS aI im (nI a) (nI (p1 + 1)) (nI E) 0 5 aB aT se dn aG aO aN aD bv aY rn kd nu tv), (zaI aS cS 901 f1)]) [0, 1] (by decide) rfl
            have hKc := hK.sub (tys' := [(cS, .int)]) [0] rfl
            have hFc := va_free (wc := [(zo14irriiiiiirriirrrrlriiii m0 th aS aI im (nI a) (nI (p1 + 1)) (nI E) 0 5 aB aT se dn aG aO aN aD bv aY rn kd nu tv), (zaI aS cS 901 f1)]) hD hS hA [0, 1] rfl
            refine va_callv (va_runV (As := []) (rest := []) ⟨hx, hb, hml, hown, hts⟩ (c_every5 l dC dI sK sV m0 aS aI aB aT aG aO aN aD aY th im (nI a) (nI (p1 + 1)) (nI E) 0 5 se dn rn kd nu tv bv cS f1 a (p1 + 1) E (K ++ L1) (d + 1) ss H.size ((hI).mono (by omega) (by omega)) ((TP_PF gT gE (hF)))) (cwV 0 hts gX12_some_X12_every rfl rfl rfl hd_yX12_every ⟨Nat.le_of_ble_eq_true rfl, Nat.le_of_ble_eq_true rfl⟩) ⟨fun a U g mk q => by obtain ⟨q0, q1, qP, qK, qD, qhE⟩ := q; exact ⟨q0, mvz g mk a q1, mvP g mk a qP, mvK g mk a qK, qD, qhE.mv g mk a⟩, va_recv hK hP (ci := 14) (q := (RX12, TX12, 23)) (q0 := 0) rfl rfl, fun U hU hW => ⟨rfl, by rw [hU], by rw [hU]; exact hPc, va_K.moved hW.alike hKc, hDc.weaken (fun _ _ _ _ => trivial), hE.call hS hU hW (fun q h => hFc q h)⟩⟩ rfl rfl hl.1 rfl (lv_room (Nat.le_of_ble_eq_true rfl)) dX12_some_31 ⟨Nat.le_of_ble_eq_true rfl, Nat.le_of_ble_eq_true rfl⟩) hS (fun q _ h => hFc q h) hFc (fun u tC H1 locs htC hvm hw_47 hB hz1 hk1 hS => ?_)
            obtain ⟨fS9_48, sp9_49, wg9_50⟩ := u
            try dsimp only at hw_47 hB
            obtain ⟨hP1, hK1, hD1⟩ := hB
            rw [htC] at hP1
            have hK1 := va_K.moved hvm.symm hK1
            obtain ⟨hP, hD⟩ := va_join (wr := []) (w1 := [(zo14irriiiiiirriirrrrlriiii m0 th aS aI im (nI a) sp9_49 (nI E) wg9_50 5 aB aT se dn aG aO aN aD bv aY rn kd nu tv), (zaI aS cS 901 fS9_48)]) hP hD [0, 1] [] rfl rfl (by decide) (by decide) hk1 hFc hP1 hD1
            have hK := (hK.sub (tys' := []) [] rfl).app hK1
            generalize H1 = H at hP hS ⊢
            have hP : va_P (dC, dI) vwCl [(zo14irriiiiiirriirrrrlriiii m0 th aS aI im (nI a) sp9_49 (nI E) wg9_50 5 aB aT se dn aG aO aN aD bv aY rn kd nu tv), (zaI aS cS 901 fS9_48)] H := hP
            have hD : va_D A [(zo14irriiiiiirriirrrrlriiii m0 th aS aI im (nI a) sp9_49 (nI E) wg9_50 5 aB aT se dn aG aO aN aD bv aY rn kd nu tv), (zaI aS cS 901 fS9_48)] := hD
            have hK : va_K (dC, dI) vwCl [(cS, .int)] s := hK
            obtain ⟨p_51, rfl, h_54, h_55, hF_56, q9⟩ := hw_47
            rcases q9 with ⟨rfl, eP_53⟩ | ⟨rfl, L_52, eP_53, h_57, hI_58, h_59⟩
            · skip
              refine lv_aload_n hx hb dX12_some_34 rfl (lv_at hl 0 rfl) ?_
              refine lv_bipush (v := (-3)) hx hb dX12_some_35 (by decide) ?_
              have hPc := hP.sub (ws' := [(zo14irriiiiiirriirrrrlriiii m0 th aS aI im (nI a) (nI p_51) (nI E) 1 5 aB aT se dn aG aO aN aD bv aY rn kd nu tv)]) [0] rfl
              have hKc := hK.sub (tys' := []) [] rfl
              refine va_csv (va_runV (As := [.int (-3)]) (rest := []) ⟨hx, hb, hml, hown, hts⟩ (c_emitsW l dC dI m0 aS aI aB aT aG aO aN aD aY th im (nI a) (nI p_51) (nI E) 1 5 se dn rn kd nu tv bv (-3)) (cwV 1 hts gX12_some_X12_emits rfl rfl rfl hd_yX12_emits ⟨Nat.le_of_ble_eq_true rfl, Nat.le_of_ble_eq_true rfl⟩) ⟨fun a U g mk q => by obtain ⟨q0, qP, qK⟩ := q; exact ⟨q0, mvP g mk a qP, mvK g mk a qK⟩, va_recv hK hP (ci := 14) (q := (RX12, TX12, 23)) (q0 := 0) rfl rfl, fun U hU hW => ⟨rfl, by rw [hU]; exact hPc, va_K.moved hW.alike hKc⟩⟩ rfl rfl hl.1 rfl (lv_room (Nat.le_of_ble_eq_true rfl)) dX12_some_37 ⟨Nat.le_of_ble_eq_true rfl, Nat.le_of_ble_eq_true rfl⟩).run (fun hw_61 => ?_)
              refine lv_goto (tgt := 4) hx hb dX12_some_40 (by decide) ?_
              exact ih4 (p_51) ([]) (0) (1) (fS9_48) (by omega) (by omega) ((hF).tr hF_56) (Or.inl ⟨rfl, hE9.trans (ps_bad hs9 eP_53)⟩) _ _ (hK.sub [0] rfl) (hP.sub [0, 1] rfl) (hD.sub [0, 1] (by decide) rfl) hS ls (lv_sub hl [0] rfl)
            · skip
              have k5 := hI_58.2.2.2.2.1
              have hqL_52 : ((K ++ L1) ++ L_52).length = (K ++ L1).length + L_52.length := List.length_append
              refine lv_aload_n hx hb dX12_some_34 rfl (lv_at hl 0 rfl) ?_
              refine lv_bipush (v := (-3)) hx hb dX12_some_35 (by decide) ?_
              have hPc := hP.sub (ws' := [(zo14irriiiiiirriirrrrlriiii m0 th aS aI im (nI a) (nI p_51) (nI E) 0 5 aB aT se dn aG aO aN aD bv aY rn kd nu tv), (zaI aS cS 901 fS9_48)]) [0, 1] rfl
              have hDc := hD.sub (ws' := [(zo14irriiiiiirriirrrrlriiii m0 th aS aI im (nI a) (nI p_51) (nI E) 0 5 aB aT se dn aG aO aN aD bv aY rn kd nu tv), (zaI aS cS 901 fS9_48)]) [0, 1] (by decide) rfl
              have hKc := hK.sub (tys' := [(cS, .int)]) [0] rfl
              have hFc := va_free (wc := [(zo14irriiiiiirriirrrrlriiii m0 th aS aI im (nI a) (nI p_51) (nI E) 0 5 aB aT se dn aG aO aN aD bv aY rn kd nu tv), (zaI aS cS 901 fS9_48)]) hD hS hA [0, 1] rfl
              refine va_callv (va_runV (As := [.int (-3)]) (rest := []) ⟨hx, hb, hml, hown, hts⟩ (c_emits l dC dI m0 aS aI aB aT aG aO aN aD aY th im (nI a) (nI p_51) (nI E) 0 5 se dn rn kd nu tv bv cS fS9_48 a ((K ++ L1) ++ L_52).length (-3) H.size (ga) ((hI_58).2.2.2.1) (by have := (hI_58).2.2.2.2.1; omega)) (cwV 1 hts gX12_some_X12_emits rfl rfl rfl hd_yX12_emits ⟨Nat.le_of_ble_eq_true rfl, Nat.le_of_ble_eq_true rfl⟩) ⟨fun a U g mk q => by obtain ⟨q0, q1, qP, qK, qD⟩ := q; exact ⟨q0, mvz g mk a q1, mvP g mk a qP, mvK g mk a qK, qD⟩, va_recv hK hP (ci := 14) (q := (RX12, TX12, 23)) (q0 := 0) rfl rfl, fun U hU hW => ⟨rfl, by rw [hU], by rw [hU]; exact hPc, va_K.moved hW.alike hKc, hDc.weaken (fun _ _ _ _ => trivial)⟩⟩ rfl rfl hl.1 rfl (lv_room (Nat.le_of_ble_eq_true rfl)) dX12_some_37 ⟨Nat.le_of_ble_eq_true rfl, Nat.le_of_ble_eq_true rfl⟩) hS (fun q _ h => hFc q h) hFc (fun u tC H1 locs htC hvm hw_63 hB hz1 hk1 hS => ?_)
              obtain ⟨fS9_64, rfl⟩ : ∃ z, z = u := ⟨_, rfl⟩
              try dsimp only at hw_63 hB
              obtain ⟨hP1, hK1, hD1⟩ := hB
              rw [htC] at hP1
              have hK1 := va_K.moved hvm.symm hK1
              obtain ⟨hP, hD⟩ := va_join (wr := []) (w1 := [(zo14irriiiiiirriirrrrlriiii m0 th aS aI im (nI a) (nI p_51) (nI E) 0 5 aB aT se dn aG aO aN aD bv aY rn kd nu tv), (zaI aS cS 901 fS9_64)]) hP hD [0, 1] [] rfl rfl (by decide) (by decide) hk1 hFc hP1 hD1
              have hK := (hK.sub (tys' := []) [] rfl).app hK1
              generalize H1 = H at hP hS ⊢
              have hP : va_P (dC, dI) vwCl [(zo14irriiiiiirriirrrrlriiii m0 th aS aI im (nI a) (nI p_51) (nI E) 0 5 aB aT se dn aG aO aN aD bv aY rn kd nu tv), (zaI aS cS 901 fS9_64)] H := hP
              have hD : va_D A [(zo14irriiiiiirriirrrrlriiii m0 th aS aI im (nI a) (nI p_51) (nI E) 0 5 aB aT se dn aG aO aN aD bv aY rn kd nu tv), (zaI aS cS 901 fS9_64)] := hD
              have hK : va_K (dC, dI) vwCl [(cS, .int)] s := hK
              obtain rfl : fS9_64 = emt fS9_48 a ((K ++ L1) ++ L_52).length (-3) := by rcases hw_63 with ⟨q, _⟩ | ⟨_, q⟩; exact absurd rfl q; exact q
              have hI_65 : PI (emt fS9_48 a ((K ++ L1) ++ L_52).length (-3)) a (((K ++ L1) ++ L_52) ++ [1803]) (((d + 1) + 1) - 1) p_51 E := PI.em (t := 1803) ((hI_58).mono (by omega) (by omega)) (by omega) (by omega) (stepd_either (by omega)) (by decide)
              have hF_66 : PF a fS (emt fS9_48 a ((K ++ L1) ++ L_52).length (-3)) := ((hF).tr hF_56).tr (PF_emt (k := ((K ++ L1) ++ L_52).length) (x := (-3)) ga (by have := (hI_58).2.2.2.2.1; omega))
              have hKhI_65 : (((K ++ L1) ++ L_52) ++ [1803]).length = ((K ++ L1) ++ L_52).length + 1 := by rw [List.length_append]; rfl
              refine lv_goto (tgt := 4) hx hb dX12_some_40 (by decide) ?_
              exact ih4 (p_51) (L1 ++ (L_52 ++ [1803])) (m2) (0) (emt fS9_48 a ((K ++ L1) ++ L_52).length (-3)) (by omega) (by omega) (hF_66) (Or.inr ⟨rfl, hE9.trans (ps_go hs9 eP_53), by omega, by omega, PI.as (PI.as hI_65), by simp only [List.length_append, List.length_cons, List.length_nil]; omega⟩) _ _ (hK.sub [0] rfl) (hP.sub [0, 1] rfl) (hD.sub [0, 1] (by decide) rfl) hS ls (lv_sub hl [0] rfl)
    exact L4 _ (p_6) (L_7) (101) (0) (fS9_3) (Nat.lt_succ_self _) (by omega) ((PF.rf).tr hF_11) (Or.inr ⟨rfl, pSm_s eP_8, by omega, by omega, hI_13, by omega⟩) _ _ (hK.sub [0] rfl) (hP.sub [0, 1] rfl) (hD.sub [0, 1] (by decide) rfl) hS ls (lv_sub hl [0] rfl)
end mg12b
section mg12b
set_option maxRecDepth 100000 in
theorem dX12_factor_38 : decode cX12_factor 38 = .ok (.iconst 0, 1) := bd3 (by decide +kernel)
set_option maxRecDepth 100000 in
theorem dX12_factor_68 : decode cX12_factor 68 = .ok (.iconst 1, 1) := bd4 (by decide +kernel)
theorem kc_factor4_0 : ∀ w ∈ wsX120, w ∈ wsX12_factor := fun w h => List.mem_cons_of_mem _ (gin_wsX120 w h)
theorem kc_factor4_1 : (.fieldLink RX12 65 "MistHeapsModel" "isWrong" "Z" : Cond) ∈ wsX12_factor := kc_of 1147 rfl rfl rfl
theorem kc_factor4_2 : (.fieldLink RX12 89 "MistHeapsModel" "open" "I" : Cond) ∈ wsX12_factor := kc_of 1148 rfl rfl rfl
theorem kc_factor4_3 : (.fieldLink RX12 59 "MistHeapsModel" "spot" "I" : Cond) ∈ wsX12_factor := kc_of 1145 rfl rfl rfl
set_option maxHeartbeats 4000000 in
set_option maxRecDepth 100000 in
theorem c_factor4 (l : Launch) (dC : Nat → ClassId) (dI : Nat → Nat → Nat) (sK sV : Nat → Nat) (m0 aS aI aB aT aG aO aN aD aY : Nat) (th im ac sp en wg op se dn rn kd nu tv : Int32) (bv : Int64) (cS : ClassId) (fS : Nat → Int32) (a p0 E : Nat) (K : List Nat) (d : Nat) (ss : Nat → Nat) (sz : Nat) (gI : PI fS a K d p0 E) (gT : TP fS E ss) : Met l yX12_factor wsX12_factor ({ frames := 8, cells := 0, slots := 0, locals := 171 } : Room) (va_Pc [.ref m0] (fun U => U.heap.size = sz ∧ va_P (dC, dI) vwCl [(zo14irriiiiiirriirrrrlriiii m0 th aS aI im (nI a) (nI p0) (nI E) 0 4 aB aT se dn aG aO aN aD bv aY rn kd nu tv), (zaI aS cS 901 fS)] U.heap ∧ va_K (dC, dI) vwCl [(cS, .int)] U ∧ va_D (fun _ => True) [(zo14irriiiiiirriirrrrlriiii m0 th aS aI im (nI a) (nI p0) (nI E) 0 4 aB aT se dn aG aO aN aD bv aY rn kd nu tv), (zaI aS cS 901 fS)] ∧ Gs sK sV (va_A [(zo14irriiiiiirriirrrrlriiii m0 th aS aI im (nI a) (nI p0) (nI E) 0 4 aB aT se dn aG aO aN aD bv aY rn kd nu tv), (zaI aS cS 901 fS)] sz) U)) (va_Qv (fun (u : (Nat → Int32) × (Int32) × (Int32)) => match u with | (fS9, sp9, wg9) => ∃ p9 : Nat, sp9 = nI p9 ∧ p0 ≤ p9 ∧ p9 ≤ E ∧ PF a fS fS9 ∧ ((wg9 = 1 ∧ pFac ss 1 p0 = (none, p9)) ∨ (wg9 = 0 ∧ ∃ L : List Nat, pFac ss 1 p0 = (some L, p9) ∧ p0 + 3 ≤ p9 ∧ PI fS9 a (K ++ L) (d + 1) p9 E ∧ L.length + p0 ≤ p9))) (fun (u : (Nat → Int32) × (Int32) × (Int32)) (t : State) => match u with | (fS9, sp9, wg9) => va_P (dC, dI) vwCl [(zo14irriiiiiirriirrrrlriiii m0 th aS aI im (nI a) sp9 (nI E) wg9 4 aB aT se dn aG aO aN aD bv aY rn kd nu tv), (zaI aS cS 901 fS9)] t.heap ∧ va_K (dC, dI) vwCl [(cS, .int)] t ∧ va_D (va_A [(zo14irriiiiiirriirrrrlriiii m0 th aS aI im (nI a) (nI p0) (nI E) 0 4 aB aT se dn aG aO aN aD bv aY rn kd nu tv), (zaI aS cS 901 fS)] sz) [(zo14irriiiiiirriirrrrlriiii m0 th aS aI im (nI a) sp9 (nI E) wg9 4 aB aT se dn aG aO aN aD bv aY rn kd nu tv), (zaI aS cS 901 fS9)]) (va_A [(zo14irriiiiiirriirrrrlriiii m0 th aS aI im (nI a) (nI p0) (nI E) 0 4 aB aT se dn aG aO aN aD bv aY rn kd nu tv), (zaI aS cS 901 fS)] sz)) 0 0 (va_A [(zo14irriiiiiirriirrrrlriiii m0 th aS aI im (nI a) (nI p0) (nI E) 0 4 aB aT se dn aG aO aN aD bv aY rn kd nu tv), (zaI aS cS 901 fS)] sz) := by
  refine met_ofQ (cc := cX12_factor) (maxL := 5) (ret := none) (by decide) rfl ?_
  intro p e s m args below meth c s₁ Q B hml hv hQ
  obtain ⟨rfl, hsz, hP, hK, hD0, hE⟩ := hv
  have hx := B.exec
  have hb := B.bytes
  have hr := B.returns
  have hts := atoms_spec (ws := wsX12_factor) B.pre
  have hown : s.vm.findClass RX12 = some m.cls := findClass_of_methodNamed B.named
  have hlocks := B.notSynchronized
  subst hsz
  have hD := hD0.self (sz := s.heap.size)
  generalize hAe : va_A [(zo14irriiiiiirriirrrrlriiii m0 th aS aI im (nI a) (nI p0) (nI E) 0 4 aB aT se dn aG aO aN aD bv aY rn kd nu tv), (zaI aS cS 901 fS)] s.heap.size = A at hD hQ hE ⊢
  have hA : ∀ q : Nat, s.heap.size ≤ q → A q := fun q h => by rw [← hAe]; exact Or.inr h
  have hS : va_S A s.heap s.heap [] := va_S.rf
  have hl := lv_entry [.ref m0] (n := 5) (Nat.le_of_ble_eq_true rfl)
  rw [lg_entry_eq]
  generalize (lg_sl [.ref m0] ++ List.replicate (5 - (lg_sl [.ref m0]).length) Slot.unset).toArray = ls at hl ⊢
  generalize hag : ([.ref m0] : List Value).toArray = args at hts hQ ⊢
  have hl : lv_has ls 5 [(0, .ref m0)] := hl
  obtain ⟨H, hH⟩ : ∃ H : Heap, H = s.heap := ⟨_, rfl⟩
  rw [← hH] at hP
  rw [← hH]
  have hS : va_S A s.heap H [] := by rw [hH]; exact hS
  obtain ⟨locs, hlo⟩ : ∃ L : List Loc, L = [] := ⟨_, rfl⟩
  rw [← hlo] at hS
  rw [← hlo]
  clear hH hlo
  obtain ⟨ga, gp, gE, zk, gkp, gd, gs, gcd⟩ := id gI
  refine lv_aload_n hx hb dX12_factor_0 rfl (lv_at hl 0 rfl) ?_
  refine va_get (D := (dC, dI)) (ci := 14) (v := .int 0) (C := RX12) (T := TX12) (N := 23) hx hb hts kc_factor4_0 hown hK hP 0 rfl rfl 7 (by decide) (hts (.fieldLink RX12 65 "MistHeapsModel" "isWrong" "Z") kc_factor4_1) (fun _ h9 => h9) rfl dX12_factor_1 ?_
  refine lv_if_eq (tgt := 8) hx hb dX12_factor_4 (by decide) (fun _ => ?_) (fun c_1 => absurd c_1 (by decide))
  refine lv_aload_n hx hb dX12_factor_8 rfl (lv_at hl 0 rfl) ?_
  have hPc := hP.sub (ws' := [(zo14irriiiiiirriirrrrlriiii m0 th aS aI im (nI a) (nI p0) (nI E) 0 4 aB aT se dn aG aO aN aD bv aY rn kd nu tv), (zaI aS cS 901 fS)]) [0, 1] rfl
  have hKc := hK.sub (tys' := [(cS, .int)]) [0] rfl
  refine vp_callSi (va_runV (As := []) (rest := []) ⟨hx, hb, hml, hown, hts⟩ (c_here l dC dI m0 aS aI aB aT aG aO aN aD aY th im (nI a) (nI p0) (nI E) 0 4 se dn rn kd nu tv bv cS fS a p0 E (by omega) (by omega) (by omega)) (cwV 0 hts gX12_factor_X12_here rfl rfl rfl hd_yX12_here ⟨Nat.le_of_ble_eq_true rfl, Nat.le_of_ble_eq_true rfl⟩) ⟨fun a U g mk q => by obtain ⟨q0, qP, qK⟩ := q; exact ⟨q0, mvP g mk a qP, mvK g mk a qK⟩, va_recv hK hP (ci := 14) (q := (RX12, TX12, 23)) (q0 := 0) rfl rfl, fun U hU hW => ⟨rfl, by rw [hU]; exact hPc, va_K.moved hW.alike hKc⟩⟩ rfl rfl hl.1 rfl (lv_room (Nat.le_of_ble_eq_true rfl)) dX12_factor_9 ⟨Nat.le_of_ble_eq_true rfl, Nat.le_of_ble_eq_true rfl⟩).run (fun r_2 hw_3 => ?_)
  refine lv_istore_n (lv' := [(1, .int r_2), (0, .ref m0)]) hx hb dX12_factor_12 rfl hl (by decide) rfl (fun ls hl => ?_)
  refine lv_iload_n hx hb dX12_factor_13 rfl (lv_at hl 0 rfl) ?_
  refine lv_bipush (v := 33) hx hb dX12_factor_14 (by decide) ?_
  refine lv_icmp_eq (tgt := 25) hx hb dX12_factor_16 (by decide) (fun c_4 => ?_) (fun c_4 => ?_)
  · skip
    subst c_4
    have hs : ss p0 = 33 := (gT.eq (c := 33) (by omega) (by omega)).mp hw_3.symm
    have hlt : p0 < E := Nat.lt_of_not_le (fun z => by have := gT.2.1 p0 z; omega)
    refine lv_aload_n hx hb dX12_factor_25 rfl (lv_at hl 1 rfl) ?_
    refine lv_aload_n hx hb dX12_factor_26 rfl (lv_at hl 1 rfl) ?_
    refine va_get (D := (dC, dI)) (ci := 14) (v := .int 4) (C := RX12) (T := TX12) (N := 23) hx hb hts kc_factor4_0 hown hK hP 0 rfl rfl 8 (by decide) (hts (.fieldLink RX12 89 "MistHeapsModel" "open" "I") kc_factor4_2) (fun _ h9 => h9) rfl dX12_factor_27 ?_
    refine lv_iconst (v := 5) hx hb dX12_factor_30 (by decide) ?_
    refine lv_icmp_ne (tgt := 38) hx hb dX12_factor_31 (by decide) (fun _ => ?_) (fun c_5 => absurd c_5 (by decide))
    refine lv_iconst (v := 0) hx hb dX12_factor_38 (by decide) ?_
    refine va_put (D := (dC, dI)) (ci := 14) (v := .int 0) (ty := .boolean) (C := RX12) (T := TX12) (N := 23) hx hb hts kc_factor4_0 tyX12 tyX12_ok nmX12 hown hK hP hD hS 0 rfl rfl 7 (by decide) (hts (.fieldLink RX12 65 "MistHeapsModel" "isWrong" "Z") kc_factor4_1) (fun _ h9 => h9) rfl (by decide +kernel) rfl rfl (Nat.le_of_ble_eq_true rfl) dX12_factor_39 (fun H locs hP hD hS => ?_)
    have hP : va_P (dC, dI) vwCl [(zo14irriiiiiirriirrrrlriiii m0 th aS aI im (nI a) (nI p0) (nI E) 0 4 aB aT se dn aG aO aN aD bv aY rn kd nu tv), (zaI aS cS 901 fS)] H := hP
    have hD : va_D A [(zo14irriiiiiirriirrrrlriiii m0 th aS aI im (nI a) (nI p0) (nI E) 0 4 aB aT se dn aG aO aN aD bv aY rn kd nu tv), (zaI aS cS 901 fS)] := hD
    refine lv_aload_n hx hb dX12_factor_42 rfl (lv_at hl 1 rfl) ?_
    refine lv_dup hx hb dX12_factor_43 rfl ?_
    refine va_get (D := (dC, dI)) (ci := 14) (v := .int 4) (C := RX12) (T := TX12) (N := 23) hx hb hts kc_factor4_0 hown hK hP 0 rfl rfl 8 (by decide) (hts (.fieldLink RX12 89 "MistHeapsModel" "open" "I") kc_factor4_2) (fun _ h9 => h9) rfl dX12_factor_44 ?_
    refine lv_iconst (v := 1) hx hb dX12_factor_47 (by decide) ?_
    refine lv_iadd hx hb dX12_factor_48 ?_
    refine qi_as (y := 5) (by decide) ?_
    refine va_put (D := (dC, dI)) (ci := 14) (v := .int 5) (ty := .int) (C := RX12) (T := TX12) (N := 23) hx hb hts kc_factor4_0 tyX12 tyX12_ok nmX12 hown hK hP hD hS 0 rfl rfl 8 (by decide) (hts (.fieldLink RX12 89 "MistHeapsModel" "open" "I") kc_factor4_2) (fun _ h9 => h9) rfl (by decide +kernel) rfl rfl (Nat.le_of_ble_eq_true rfl) dX12_factor_49 (fun H locs hP hD hS => ?_)
    have hP : va_P (dC, dI) vwCl [(zo14irriiiiiirriirrrrlriiii m0 th aS aI im (nI a) (nI p0) (nI E) 0 5 aB aT se dn aG aO aN aD bv aY rn kd nu tv), (zaI aS cS 901 fS)] H := hP
    have hD : va_D A [(zo14irriiiiiirriirrrrlriiii m0 th aS aI im (nI a) (nI p0) (nI E) 0 5 aB aT se dn aG aO aN aD bv aY rn kd nu tv), (zaI aS cS 901 fS)] := hD
    refine lv_aload_n hx hb dX12_factor_52 rfl (lv_at hl 1 rfl) ?_
    refine lv_dup hx hb dX12_factor_53 rfl ?_
    refine va_get (D := (dC, dI)) (ci := 14) (v := .int (nI p0)) (C := RX12) (T := TX12) (N := 23) hx hb hts kc_factor4_0 hown hK hP 0 rfl rfl 5 (by decide) (hts (.fieldLink RX12 59 "MistHeapsModel" "spot" "I") kc_factor4_3) (fun _ h9 => h9) rfl dX12_factor_54 ?_
    refine lv_aload_n hx hb dX12_factor_57 rfl (lv_at hl 1 rfl) ?_
    refine va_get (D := (dC, dI)) (ci := 14) (v := .int 0) (C := RX12) (T := TX12) (N := 23) hx hb hts kc_factor4_0 hown hK hP 0 rfl rfl 7 (by decide) (hts (.fieldLink RX12 65 "MistHeapsModel" "isWrong" "Z") kc_factor4_1) (fun _ h9 => h9) rfl dX12_factor_58 ?_
    refine lv_if_eq (tgt := 68) hx hb dX12_factor_61 (by decide) (fun _ => ?_) (fun c_6 => absurd c_6 (by decide))
    refine lv_iconst (v := 1) hx hb dX12_factor_68 (by decide) ?_
    refine lv_iadd hx hb dX12_factor_69 ?_
    refine qi_as (y := nI (p0 + 1)) (nI_add p0 1) ?_
    refine va_put (D := (dC, dI)) (ci := 14) (v := .int (nI (p0 + 1))) (ty := .int) (C := RX12) (T := TX12) (N := 23) hx hb hts kc_factor4_0 tyX12 tyX12_ok nmX12 hown hK hP hD hS 0 rfl rfl 5 (by decide) (hts (.fieldLink RX12 59 "MistHeapsModel" "spot" "I") kc_factor4_3) (fun _ h9 => h9) rfl (by decide +kernel) rfl rfl (Nat.le_of_ble_eq_true rfl) dX12_factor_70 (fun H locs hP hD hS => ?_)
    have hP : va_P (dC, dI) vwCl [(zo14irriiiiiirriirrrrlriiii m0 th aS aI im (nI a) (nI (p0 + 1)) (nI E) 0 5 aB aT se dn aG aO aN aD bv aY rn kd nu tv), (zaI aS cS 901 fS)] H := hP
    have hD : va_D A [(zo14irriiiiiirriirrrrlriiii m0 th aS aI im (nI a) (nI (p0 + 1)) (nI E) 0 5 aB aT se dn aG aO aN aD bv aY rn kd nu tv), (zaI aS cS 901 fS)] := hD
    refine lv_iload_n hx hb dX12_factor_73 rfl (lv_at hl 0 rfl) ?_
    refine lv_bipush (v := 33) hx hb dX12_factor_74 (by decide) ?_
    refine lv_icmp_ne (tgt := 91) hx hb dX12_factor_76 (by decide) (fun c_7 => absurd c_7 (by decide)) (fun _ => ?_)
    refine lv_aload_n hx hb dX12_factor_79 rfl (lv_at hl 1 rfl) ?_
    have hPc := hP.sub (ws' := [(zo14irriiiiiirriirrrrlriiii m0 th aS aI im (nI a) (nI (p0 + 1)) (nI E) 0 5 aB aT se dn aG aO aN aD bv aY rn kd nu tv), (zaI aS cS 901 fS)]) [0, 1] rfl
    have hDc := hD.sub (ws' := [(zo14irriiiiiirriirrrrlriiii m0 th aS aI im (nI a) (nI (p0 + 1)) (nI E) 0 5 aB aT se dn aG aO aN aD bv aY rn kd nu tv), (zaI aS cS 901 fS)]) [0, 1] (by decide) rfl
    have hKc := hK.sub (tys' := [(cS, .int)]) [0] rfl
    have hFc := va_free (wc := [(zo14irriiiiiirriirrrrlriiii m0 th aS aI im (nI a) (nI (p0 + 1)) (nI E) 0 5 aB aT se dn aG aO aN aD bv aY rn kd nu tv), (zaI aS cS 901 fS)]) hD hS hA [0, 1] rfl
    refine va_callv (va_runV (As := []) (rest := []) ⟨hx, hb, hml, hown, hts⟩ (c_factor5 l dC dI sK sV m0 aS aI aB aT aG aO aN aD aY th im (nI a) (nI (p0 + 1)) (nI E) 0 5 se dn rn kd nu tv bv cS fS a (p0 + 1) E K d ss H.size ((gI).mono (by omega) (by omega)) (gT)) (cwV 0 hts gX12_factor_X12_factor rfl rfl rfl hd_yX12_factor ⟨Nat.le_of_ble_eq_true rfl, Nat.le_of_ble_eq_true rfl⟩) ⟨fun a U g mk q => by obtain ⟨q0, q1, qP, qK, qD, qhE⟩ := q; exact ⟨q0, mvz g mk a q1, mvP g mk a qP, mvK g mk a qK, qD, qhE.mv g mk a⟩, va_recv hK hP (ci := 14) (q := (RX12, TX12, 23)) (q0 := 0) rfl rfl, fun U hU hW => ⟨rfl, by rw [hU], by rw [hU]; exact hPc, va_K.moved hW.alike hKc, hDc.weaken (fun _ _ _ _ => trivial), hE.call hS hU hW (fun q h => hFc q h)⟩⟩ rfl rfl hl.1 rfl (lv_room (Nat.le_of_ble_eq_true rfl)) dX12_factor_80 ⟨Nat.le_of_ble_eq_true rfl, Nat.le_of_ble_eq_true rfl⟩) hS (fun q _ h => hFc q h) hFc (fun u tC H1 locs htC hvm hw_9 hB hz1 hk1 hS => ?_)
    obtain ⟨fS9_10, sp9_11, wg9_12⟩ := u
    try dsimp only at hw_9 hB
    obtain ⟨hP1, hK1, hD1⟩ := hB
    rw [htC] at hP1
    have hK1 := va_K.moved hvm.symm hK1
    obtain ⟨hP, hD⟩ := va_join (wr := []) (w1 := [(zo14irriiiiiirriirrrrlriiii m0 th aS aI im (nI a) sp9_11 (nI E) wg9_12 5 aB aT se dn aG aO aN aD bv aY rn kd nu tv), (zaI aS cS 901 fS9_10)]) hP hD [0, 1] [] rfl rfl (by decide) (by decide) hk1 hFc hP1 hD1
    have hK := (hK.sub (tys' := []) [] rfl).app hK1
    generalize H1 = H at hP hS ⊢
    have hP : va_P (dC, dI) vwCl [(zo14irriiiiiirriirrrrlriiii m0 th aS aI im (nI a) sp9_11 (nI E) wg9_12 5 aB aT se dn aG aO aN aD bv aY rn kd nu tv), (zaI aS cS 901 fS9_10)] H := hP
    have hD : va_D A [(zo14irriiiiiirriirrrrlriiii m0 th aS aI im (nI a) sp9_11 (nI E) wg9_12 5 aB aT se dn aG aO aN aD bv aY rn kd nu tv), (zaI aS cS 901 fS9_10)] := hD
    have hK : va_K (dC, dI) vwCl [(cS, .int)] s := hK
    obtain ⟨p_13, rfl, h_16, h_17, hF_18, q9⟩ := hw_9
    rcases q9 with ⟨rfl, eP_15⟩ | ⟨rfl, L_14, eP_15, h_19, hI_20, h_21⟩
    · skip
      refine lv_aload_n hx hb dX12_factor_83 rfl (lv_at hl 1 rfl) ?_
      refine lv_iconst (v := (-1)) hx hb dX12_factor_84 (by decide) ?_
      have hPc := hP.sub (ws' := [(zo14irriiiiiirriirrrrlriiii m0 th aS aI im (nI a) (nI p_13) (nI E) 1 5 aB aT se dn aG aO aN aD bv aY rn kd nu tv)]) [0] rfl
      have hKc := hK.sub (tys' := []) [] rfl
      refine va_csv (va_runV (As := [.int (-1)]) (rest := []) ⟨hx, hb, hml, hown, hts⟩ (c_emitsW l dC dI m0 aS aI aB aT aG aO aN aD aY th im (nI a) (nI p_13) (nI E) 1 5 se dn rn kd nu tv bv (-1)) (cwV 1 hts gX12_factor_X12_emits rfl rfl rfl hd_yX12_emits ⟨Nat.le_of_ble_eq_true rfl, Nat.le_of_ble_eq_true rfl⟩) ⟨fun a U g mk q => by obtain ⟨q0, qP, qK⟩ := q; exact ⟨q0, mvP g mk a qP, mvK g mk a qK⟩, va_recv hK hP (ci := 14) (q := (RX12, TX12, 23)) (q0 := 0) rfl rfl, fun U hU hW => ⟨rfl, by rw [hU]; exact hPc, va_K.moved hW.alike hKc⟩⟩ rfl rfl hl.1 rfl (lv_room (Nat.le_of_ble_eq_true rfl)) dX12_factor_85 ⟨Nat.le_of_ble_eq_true rfl, Nat.le_of_ble_eq_true rfl⟩).run (fun hw_23 => ?_)
      refine lv_goto (tgt := 101) hx hb dX12_factor_88 (by decide) ?_
      refine lv_aload_n hx hb dX12_factor_101 rfl (lv_at hl 1 rfl) ?_
      refine lv_dup hx hb dX12_factor_102 rfl ?_
      refine va_get (D := (dC, dI)) (ci := 14) (v := .int 5) (C := RX12) (T := TX12) (N := 23) hx hb hts kc_factor4_0 hown hK hP 0 rfl rfl 8 (by decide) (hts (.fieldLink RX12 89 "MistHeapsModel" "open" "I") kc_factor4_2) (fun _ h9 => h9) rfl dX12_factor_103 ?_
      refine lv_iconst (v := 1) hx hb dX12_factor_106 (by decide) ?_
      refine lv_isub hx hb dX12_factor_107 ?_
      refine qi_as (y := 4) (by decide) ?_
      refine va_put (D := (dC, dI)) (ci := 14) (v := .int 4) (ty := .int) (C := RX12) (T := TX12) (N := 23) hx hb hts kc_factor4_0 tyX12 tyX12_ok nmX12 hown hK hP hD hS 0 rfl rfl 8 (by decide) (hts (.fieldLink RX12 89 "MistHeapsModel" "open" "I") kc_factor4_2) (fun _ h9 => h9) rfl (by decide +kernel) rfl rfl (Nat.le_of_ble_eq_true rfl) dX12_factor_108 (fun H locs hP hD hS => ?_)
      have hP : va_P (dC, dI) vwCl [(zo14irriiiiiirriirrrrlriiii m0 th aS aI im (nI a) (nI p_13) (nI E) 1 4 aB aT se dn aG aO aN aD bv aY rn kd nu tv), (zaI aS cS 901 fS9_10)] H := hP
      have hD : va_D A [(zo14irriiiiiirriirrrrlriiii m0 th aS aI im (nI a) (nI p_13) (nI E) 1 4 aB aT se dn aG aO aN aD bv aY rn kd nu tv), (zaI aS cS 901 fS9_10)] := hD
      rw [hQ]
      have hP9 := hP.sub (ws' := [(zo14irriiiiiirriirrrrlriiii m0 th aS aI im (nI a) (nI p_13) (nI E) 1 4 aB aT se dn aG aO aN aD bv aY rn kd nu tv), (zaI aS cS 901 fS9_10)]) [0, 1] rfl
      have hD9 := hD.sub (ws' := [(zo14irriiiiiirriirrrrlriiii m0 th aS aI im (nI a) (nI p_13) (nI E) 1 4 aB aT se dn aG aO aN aD bv aY rn kd nu tv), (zaI aS cS 901 fS9_10)]) [0, 1] (by decide) rfl
      have hK9 := hK.sub (tys' := [(cS, .int)]) [0] rfl
      exact W.vret hx hb hr (fun tQ htQ hWQ => ⟨⟨(fS9_10, (nI p_13), 1), rfl, ⟨p_13, rfl, by omega, by omega, (PF.rf).tr hF_18, Or.inl ⟨rfl, pf_n0 (l := 0) hs eP_15⟩⟩, by rw [htQ]; exact hP9, va_K.moved hWQ.alike hK9, hD9⟩, hS.F htQ⟩) hS.2.2 dX12_factor_111
    · skip
      have k5 := hI_20.2.2.2.2.1
      have hqL_14 : (K ++ L_14).length = K.length + L_14.length := List.length_append
      refine lv_aload_n hx hb dX12_factor_83 rfl (lv_at hl 1 rfl) ?_
      refine lv_iconst (v := (-1)) hx hb dX12_factor_84 (by decide) ?_
      have hPc := hP.sub (ws' := [(zo14irriiiiiirriirrrrlriiii m0 th aS aI im (nI a) (nI p_13) (nI E) 0 5 aB aT se dn aG aO aN aD bv aY rn kd nu tv), (zaI aS cS 901 fS9_10)]) [0, 1] rfl
      have hDc := hD.sub (ws' := [(zo14irriiiiiirriirrrrlriiii m0 th aS aI im (nI a) (nI p_13) (nI E) 0 5 aB aT se dn aG aO aN aD bv aY rn kd nu tv), (zaI aS cS 901 fS9_10)]) [0, 1] (by decide) rfl
      have hKc := hK.sub (tys' := [(cS, .int)]) [0] rfl
      have hFc := va_free (wc := [(zo14irriiiiiirriirrrrlriiii m0 th aS aI im (nI a) (nI p_13) (nI E) 0 5 aB aT se dn aG aO aN aD bv aY rn kd nu tv), (zaI aS cS 901 fS9_10)]) hD hS hA [0, 1] rfl
      refine va_callv (va_runV (As := [.int (-1)]) (rest := []) ⟨hx, hb, hml, hown, hts⟩ (c_emits l dC dI m0 aS aI aB aT aG aO aN aD aY th im (nI a) (nI p_13) (nI E) 0 5 se dn rn kd nu tv bv cS fS9_10 a (K ++ L_14).length (-1) H.size (ga) ((hI_20).2.2.2.1) (by have := (hI_20).2.2.2.2.1; omega)) (cwV 1 hts gX12_factor_X12_emits rfl rfl rfl hd_yX12_emits ⟨Nat.le_of_ble_eq_true rfl, Nat.le_of_ble_eq_true rfl⟩) ⟨fun a U g mk q => by obtain ⟨q0, q1, qP, qK, qD⟩ := q; exact ⟨q0, mvz g mk a q1, mvP g mk a qP, mvK g mk a qK, qD⟩, va_recv hK hP (ci := 14) (q := (RX12, TX12, 23)) (q0 := 0) rfl rfl, fun U hU hW => ⟨rfl, by rw [hU], by rw [hU]; exact hPc, va_K.moved hW.alike hKc, hDc.weaken (fun _ _ _ _ => trivial)⟩⟩ rfl rfl hl.1 rfl (lv_room (Nat.le_of_ble_eq_true rfl)) dX12_factor_85 ⟨Nat.le_of_ble_eq_true rfl, Nat.le_of_ble_eq_true rfl⟩) hS (fun q _ h => hFc q h) hFc (fun u tC H1 locs htC hvm hw_25 hB hz1 hk1 hS => ?_)
      obtain ⟨fS9_26, rfl⟩ : ∃ z, z = u := ⟨_, rfl⟩
      try dsimp only at hw_25 hB
      obtain ⟨hP1, hK1, hD1⟩ := hB
      rw [htC] at hP1
      have hK1 := va_K.moved hvm.symm hK1
      obtain ⟨hP, hD⟩ := va_join (wr := []) (w1 := [(zo14irriiiiiirriirrrrlriiii m0 th aS aI im (nI a) (nI p_13) (nI E) 0 5 aB aT se dn aG aO aN aD bv aY rn kd nu tv), (zaI aS cS 901 fS9_26)]) hP hD [0, 1] [] rfl rfl (by decide) (by decide) hk1 hFc hP1 hD1
      have hK := (hK.sub (tys' := []) [] rfl).app hK1
      generalize H1 = H at hP hS ⊢
      have hP : va_P (dC, dI) vwCl [(zo14irriiiiiirriirrrrlriiii m0 th aS aI im (nI a) (nI p_13) (nI E) 0 5 aB aT se dn aG aO aN aD bv aY rn kd nu tv), (zaI aS cS 901 fS9_26)] H := hP
      have hD : va_D A [(zo14irriiiiiirriirrrrlriiii m0 th aS aI im (nI a) (nI p_13) (nI E) 0 5 aB aT se dn aG aO aN aD bv aY rn kd nu tv), (zaI aS cS 901 fS9_26)] := hD
      have hK : va_K (dC, dI) vwCl [(cS, .int)] s := hK
      obtain rfl : fS9_26 = emt fS9_10 a (K ++ L_14).length (-1) := by rcases hw_25 with ⟨q, _⟩ | ⟨_, q⟩; exact absurd rfl q; exact q
      have hI_27 : PI (emt fS9_10 a (K ++ L_14).length (-1)) a ((K ++ L_14) ++ [1801]) (d + 1) p_13 E := PI.em (t := 1801) ((hI_20).mono (by omega) (by omega)) (by omega) (by omega) (stepd_not (by omega)) (by decide)
      have hF_28 : PF a fS (emt fS9_10 a (K ++ L_14).length (-1)) := ((PF.rf).tr hF_18).tr (PF_emt (k := (K ++ L_14).length) (x := (-1)) ga (by have := (hI_20).2.2.2.2.1; omega))
      have hKhI_27 : ((K ++ L_14) ++ [1801]).length = (K ++ L_14).length + 1 := by rw [List.length_append]; rfl
      refine lv_goto (tgt := 101) hx hb dX12_factor_88 (by decide) ?_
      refine lv_aload_n hx hb dX12_factor_101 rfl (lv_at hl 1 rfl) ?_
      refine lv_dup hx hb dX12_factor_102 rfl ?_
      refine va_get (D := (dC, dI)) (ci := 14) (v := .int 5) (C := RX12) (T := TX12) (N := 23) hx hb hts kc_factor4_0 hown hK hP 0 rfl rfl 8 (by decide) (hts (.fieldLink RX12 89 "MistHeapsModel" "open" "I") kc_factor4_2) (fun _ h9 => h9) rfl dX12_factor_103 ?_
      refine lv_iconst (v := 1) hx hb dX12_factor_106 (by decide) ?_
      refine lv_isub hx hb dX12_factor_107 ?_
      refine qi_as (y := 4) (by decide) ?_
      refine va_put (D := (dC, dI)) (ci := 14) (v := .int 4) (ty := .int) (C := RX12) (T := TX12) (N := 23) hx hb hts kc_factor4_0 tyX12 tyX12_ok nmX12 hown hK hP hD hS 0 rfl rfl 8 (by decide) (hts (.fieldLink RX12 89 "MistHeapsModel" "open" "I") kc_factor4_2) (fun _ h9 => h9) rfl (by decide +kernel) rfl rfl (Nat.le_of_ble_eq_true rfl) dX12_factor_108 (fun H locs hP hD hS => ?_)
      have hP : va_P (dC, dI) vwCl [(zo14irriiiiiirriirrrrlriiii m0 th aS aI im (nI a) (nI p_13) (nI E) 0 4 aB aT se dn aG aO aN aD bv aY rn kd nu tv), (zaI aS cS 901 (emt fS9_10 a (K ++ L_14).length (-1)))] H := hP
      have hD : va_D A [(zo14irriiiiiirriirrrrlriiii m0 th aS aI im (nI a) (nI p_13) (nI E) 0 4 aB aT se dn aG aO aN aD bv aY rn kd nu tv), (zaI aS cS 901 (emt fS9_10 a (K ++ L_14).length (-1)))] := hD
      rw [hQ]
      have hP9 := hP.sub (ws' := [(zo14irriiiiiirriirrrrlriiii m0 th aS aI im (nI a) (nI p_13) (nI E) 0 4 aB aT se dn aG aO aN aD bv aY rn kd nu tv), (zaI aS cS 901 (emt fS9_10 a (K ++ L_14).length (-1)))]) [0, 1] rfl
      have hD9 := hD.sub (ws' := [(zo14irriiiiiirriirrrrlriiii m0 th aS aI im (nI a) (nI p_13) (nI E) 0 4 aB aT se dn aG aO aN aD bv aY rn kd nu tv), (zaI aS cS 901 (emt fS9_10 a (K ++ L_14).length (-1)))]) [0, 1] (by decide) rfl
      have hK9 := hK.sub (tys' := [(cS, .int)]) [0] rfl
      exact W.vret hx hb hr (fun tQ htQ hWQ => ⟨⟨((emt fS9_10 a (K ++ L_14).length (-1)), (nI p_13), 0), rfl, ⟨p_13, rfl, by omega, by omega, hF_28, Or.inr ⟨rfl, (L_14 ++ [1801]), pf_n1 (l := 0) hs eP_15, by omega, PI.as ((hI_27).mono (by omega) (by omega)), by (try simp only [List.length_append, List.length_cons, List.length_nil]); omega⟩⟩, by rw [htQ]; exact hP9, va_K.moved hWQ.alike hK9, hD9⟩, hS.F htQ⟩) hS.2.2 dX12_factor_111
  · skip
    have hn33 : ¬ ss p0 = 33 := fun z => c_4 (hw_3.trans ((gT.eq (c := 33) (by omega) (by omega)).mpr z))
    refine lv_iload_n hx hb dX12_factor_19 rfl (lv_at hl 0 rfl) ?_
    refine lv_bipush (v := 40) hx hb dX12_factor_20 (by decide) ?_
    refine lv_icmp_ne (tgt := 112) hx hb dX12_factor_22 (by decide) (fun c_29 => ?_) (fun c_29 => ?_)
    · skip
      have hn40 : ¬ ss p0 = 40 := fun z => c_29 (hw_3.trans ((gT.eq (c := 40) (by omega) (by omega)).mpr z))
      refine lv_aload_n hx hb dX12_factor_112 rfl (lv_at hl 1 rfl) ?_
      refine va_ldcS hx hb hown (show vk_R RX12 101 "hkrcms" (sK 6) s from hE.1 6 (by decide)) dX12_factor_113 ?_
      have hPc := hP.sub (ws' := [(zo14irriiiiiirriirrrrlriiii m0 th aS aI im (nI a) (nI p0) (nI E) 0 4 aB aT se dn aG aO aN aD bv aY rn kd nu tv), (zaI aS cS 901 fS)]) [0, 1] rfl
      have hDc := hD.sub (ws' := [(zo14irriiiiiirriirrrrlriiii m0 th aS aI im (nI a) (nI p0) (nI E) 0 4 aB aT se dn aG aO aN aD bv aY rn kd nu tv), (zaI aS cS 901 fS)]) [0, 1] (by decide) rfl
      have hKc := hK.sub (tys' := [(cS, .int)]) [0] rfl
      have hFc := va_free (wc := [(zo14irriiiiiirriirrrrlriiii m0 th aS aI im (nI a) (nI p0) (nI E) 0 4 aB aT se dn aG aO aN aD bv aY rn kd nu tv), (zaI aS cS 901 fS)]) hD hS hA [0, 1] rfl
      refine va_calli (va_runV (As := [.ref (sK 6)]) (rest := []) ⟨hx, hb, hml, hown, hts⟩ (c_among l dC dI sK sV m0 aS aI aB aT aG aO aN aD aY th im (nI a) (nI p0) (nI E) 0 4 se dn rn kd nu tv bv cS fS a p0 E 6 ss H.size (by omega) (by omega) (by omega) (by decide) (gT)) (cwV 1 hts gX12_factor_X12_among rfl rfl rfl hd_yX12_among ⟨Nat.le_of_ble_eq_true rfl, Nat.le_of_ble_eq_true rfl⟩) ⟨fun a U g mk q => by obtain ⟨q0, q1, qP, qK, qD, qhE⟩ := q; exact ⟨q0, mvz g mk a q1, mvP g mk a qP, mvK g mk a qK, qD, qhE.mv g mk a⟩, va_recv hK hP (ci := 14) (q := (RX12, TX12, 23)) (q0 := 0) rfl rfl, fun U hU hW => ⟨rfl, by rw [hU], by rw [hU]; exact hPc, va_K.moved hW.alike hKc, hDc.weaken (fun _ _ _ _ => trivial), hE.call hS hU hW (fun q h => hFc q h)⟩⟩ rfl rfl hl.1 rfl (lv_room (Nat.le_of_ble_eq_true rfl)) dX12_factor_115 ⟨Nat.le_of_ble_eq_true rfl, Nat.le_of_ble_eq_true rfl⟩) hS (fun q _ h => hFc q h) hFc (fun r_30 u tC H1 locs htC hvm hw_31 hB hz1 hk1 hS => ?_)
      obtain ⟨sp9_32, rfl⟩ : ∃ z, z = u := ⟨_, rfl⟩
      try dsimp only at hw_31 hB
      obtain ⟨hP1, hK1, hD1⟩ := hB
      rw [htC] at hP1
      have hK1 := va_K.moved hvm.symm hK1
      obtain ⟨hP, hD⟩ := va_join (wr := []) (w1 := [(zo14irriiiiiirriirrrrlriiii m0 th aS aI im (nI a) sp9_32 (nI E) 0 4 aB aT se dn aG aO aN aD bv aY rn kd nu tv), (zaI aS cS 901 fS)]) hP hD [0, 1] [] rfl rfl (by decide) (by decide) hk1 hFc hP1 hD1
      have hK := (hK.sub (tys' := []) [] rfl).app hK1
      generalize H1 = H at hP hS ⊢
      have hP : va_P (dC, dI) vwCl [(zo14irriiiiiirriirrrrlriiii m0 th aS aI im (nI a) sp9_32 (nI E) 0 4 aB aT se dn aG aO aN aD bv aY rn kd nu tv), (zaI aS cS 901 fS)] H := hP
      have hD : va_D A [(zo14irriiiiiirriirrrrlriiii m0 th aS aI im (nI a) sp9_32 (nI E) 0 4 aB aT se dn aG aO aN aD bv aY rn kd nu tv), (zaI aS cS 901 fS)] := hD
      have hK : va_K (dC, dI) vwCl [(cS, .int)] s := hK
      rcases hw_31 with ⟨rfl, rfl, h_36⟩ | ⟨j_33, hj_34, rfl, h_35, rfl, h_36⟩
      · skip
        have hx6 := am6_n (fun q hq => h_36 q hq)
        refine lv_istore_n (lv' := [(2, .int (-1)), (1, .int r_2), (0, .ref m0)]) hx hb dX12_factor_118 rfl hl (by decide) rfl (fun ls hl => ?_)
        refine lv_aload_n hx hb dX12_factor_119 rfl (lv_at hl 2 rfl) ?_
        refine lv_iload_n hx hb dX12_factor_120 rfl (lv_at hl 0 rfl) ?_
        refine lv_iconst (v := (-1)) hx hb dX12_factor_121 (by decide) ?_
        refine lv_icmp_ne (tgt := 129) hx hb dX12_factor_122 (by decide) (fun c_37 => absurd c_37 (by decide)) (fun _ => ?_)
        refine lv_iconst (v := 1) hx hb dX12_factor_125 (by decide) ?_
        refine lv_goto (tgt := 130) hx hb dX12_factor_126 (by decide) ?_
        refine va_put (D := (dC, dI)) (ci := 14) (v := .int 1) (ty := .boolean) (C := RX12) (T := TX12) (N := 23) hx hb hts kc_factor4_0 tyX12 tyX12_ok nmX12 hown hK hP hD hS 0 rfl rfl 7 (by decide) (hts (.fieldLink RX12 65 "MistHeapsModel" "isWrong" "Z") kc_factor4_1) (fun _ h9 => h9) rfl (by decide +kernel) rfl rfl (Nat.le_of_ble_eq_true rfl) dX12_factor_130 (fun H locs hP hD hS => ?_)
        have hP : va_P (dC, dI) vwCl [(zo14irriiiiiirriirrrrlriiii m0 th aS aI im (nI a) (nI p0) (nI E) 1 4 aB aT se dn aG aO aN aD bv aY rn kd nu tv), (zaI aS cS 901 fS)] H := hP
        have hD : va_D A [(zo14irriiiiiirriirrrrlriiii m0 th aS aI im (nI a) (nI p0) (nI E) 1 4 aB aT se dn aG aO aN aD bv aY rn kd nu tv), (zaI aS cS 901 fS)] := hD
        refine lv_aload_n hx hb dX12_factor_133 rfl (lv_at hl 2 rfl) ?_
        refine va_get (D := (dC, dI)) (ci := 14) (v := .int 1) (C := RX12) (T := TX12) (N := 23) hx hb hts kc_factor4_0 hown hK hP 0 rfl rfl 7 (by decide) (hts (.fieldLink RX12 65 "MistHeapsModel" "isWrong" "Z") kc_factor4_1) (fun _ h9 => h9) rfl dX12_factor_134 ?_
        refine lv_if_eq (tgt := 144) hx hb dX12_factor_137 (by decide) (fun c_38 => absurd c_38 (by decide)) (fun _ => ?_)
        refine lv_iconst (v := 0) hx hb dX12_factor_140 (by decide) ?_
        refine lv_goto (tgt := 150) hx hb dX12_factor_141 (by decide) ?_
        refine lv_istore_n (lv' := [(3, .int 0), (2, .int (-1)), (1, .int r_2), (0, .ref m0)]) hx hb dX12_factor_150 rfl hl (by decide) rfl (fun ls hl => ?_)
        refine lv_aload_n hx hb dX12_factor_151 rfl (lv_at hl 3 rfl) ?_
        refine lv_aload_n hx hb dX12_factor_152 rfl (lv_at hl 3 rfl) ?_
        refine va_get (D := (dC, dI)) (ci := 14) (v := .int 1) (C := RX12) (T := TX12) (N := 23) hx hb hts kc_factor4_0 hown hK hP 0 rfl rfl 7 (by decide) (hts (.fieldLink RX12 65 "MistHeapsModel" "isWrong" "Z") kc_factor4_1) (fun _ h9 => h9) rfl dX12_factor_153 ?_
        refine lv_if_ne (tgt := 164) hx hb dX12_factor_156 (by decide) (fun _ => ?_) (fun c_39 => absurd c_39 (by decide))
        refine lv_iconst (v := 1) hx hb dX12_factor_164 (by decide) ?_
        refine lv_goto (tgt := 169) hx hb dX12_factor_165 (by decide) ?_
        refine va_put (D := (dC, dI)) (ci := 14) (v := .int 1) (ty := .boolean) (C := RX12) (T := TX12) (N := 23) hx hb hts kc_factor4_0 tyX12 tyX12_ok nmX12 hown hK hP hD hS 0 rfl rfl 7 (by decide) (hts (.fieldLink RX12 65 "MistHeapsModel" "isWrong" "Z") kc_factor4_1) (fun _ h9 => h9) rfl (by decide +kernel) rfl rfl (Nat.le_of_ble_eq_true rfl) dX12_factor_169 (fun H locs hP hD hS => ?_)
        have hP : va_P (dC, dI) vwCl [(zo14irriiiiiirriirrrrlriiii m0 th aS aI im (nI a) (nI p0) (nI E) 1 4 aB aT se dn aG aO aN aD bv aY rn kd nu tv), (zaI aS cS 901 fS)] H := hP
        have hD : va_D A [(zo14irriiiiiirriirrrrlriiii m0 th aS aI im (nI a) (nI p0) (nI E) 1 4 aB aT se dn aG aO aN aD bv aY rn kd nu tv), (zaI aS cS 901 fS)] := hD
        refine lv_aload_n hx hb dX12_factor_172 rfl (lv_at hl 3 rfl) ?_
        have hPc := hP.sub (ws' := [(zo14irriiiiiirriirrrrlriiii m0 th aS aI im (nI a) (nI p0) (nI E) 1 4 aB aT se dn aG aO aN aD bv aY rn kd nu tv), (zaI aS cS 901 fS)]) [0, 1] rfl
        have hDc := hD.sub (ws' := [(zo14irriiiiiirriirrrrlriiii m0 th aS aI im (nI a) (nI p0) (nI E) 1 4 aB aT se dn aG aO aN aD bv aY rn kd nu tv), (zaI aS cS 901 fS)]) [0, 1] (by decide) rfl
        have hKc := hK.sub (tys' := [(cS, .int)]) [0] rfl
        have hFc := va_free (wc := [(zo14irriiiiiirriirrrrlriiii m0 th aS aI im (nI a) (nI p0) (nI E) 1 4 aB aT se dn aG aO aN aD bv aY rn kd nu tv), (zaI aS cS 901 fS)]) hD hS hA [0, 1] rfl
        refine va_calli (va_runV (As := []) (rest := []) ⟨hx, hb, hml, hown, hts⟩ (c_figures l dC dI m0 aS aI aB aT aG aO aN aD aY th im (nI a) (nI p0) (nI E) 1 4 se dn rn kd nu tv bv cS fS a p0 E ss H.size (by omega) (by omega) (by omega) (Or.inr rfl) (gT)) (cwV 0 hts gX12_factor_X12_figures rfl rfl rfl hd_yX12_figures ⟨Nat.le_of_ble_eq_true rfl, Nat.le_of_ble_eq_true rfl⟩) ⟨fun a U g mk q => by obtain ⟨q0, q1, qP, qK, qD⟩ := q; exact ⟨q0, mvz g mk a q1, mvP g mk a qP, mvK g mk a qK, qD⟩, va_recv hK hP (ci := 14) (q := (RX12, TX12, 23)) (q0 := 0) rfl rfl, fun U hU hW => ⟨rfl, by rw [hU], by rw [hU]; exact hPc, va_K.moved hW.alike hKc, hDc.weaken (fun _ _ _ _ => trivial)⟩⟩ rfl rfl hl.1 rfl (lv_room (Nat.le_of_ble_eq_true rfl)) dX12_factor_173 ⟨Nat.le_of_ble_eq_true rfl, Nat.le_of_ble_eq_true rfl⟩) hS (fun q _ h => hFc q h) hFc (fun r_40 u tC H1 locs htC hvm hw_41 hB hz1 hk1 hS => ?_)
        obtain ⟨sp9_42, wg9_43⟩ := u
        try dsimp only at hw_41 hB
        obtain ⟨hP1, hK1, hD1⟩ := hB
        rw [htC] at hP1
        have hK1 := va_K.moved hvm.symm hK1
        obtain ⟨hP, hD⟩ := va_join (wr := []) (w1 := [(zo14irriiiiiirriirrrrlriiii m0 th aS aI im (nI a) sp9_42 (nI E) wg9_43 4 aB aT se dn aG aO aN aD bv aY rn kd nu tv), (zaI aS cS 901 fS)]) hP hD [0, 1] [] rfl rfl (by decide) (by decide) hk1 hFc hP1 hD1
        have hK := (hK.sub (tys' := []) [] rfl).app hK1
        generalize H1 = H at hP hS ⊢
        have hP : va_P (dC, dI) vwCl [(zo14irriiiiiirriirrrrlriiii m0 th aS aI im (nI a) sp9_42 (nI E) wg9_43 4 aB aT se dn aG aO aN aD bv aY rn kd nu tv), (zaI aS cS 901 fS)] H := hP
        have hD : va_D A [(zo14irriiiiiirriirrrrlriiii m0 th aS aI im (nI a) sp9_42 (nI E) wg9_43 4 aB aT se dn aG aO aN aD bv aY rn kd nu tv), (zaI aS cS 901 fS)] := hD
        have hK : va_K (dC, dI) vwCl [(cS, .int)] s := hK
        rcases hw_41 with ⟨rfl, rfl, hN_51, v_44, h_46, rfl⟩ | ⟨rfl, h_50, v_44, p_45, h_46, h_47, h_48, rfl, rfl, hN_51⟩
        · skip
          refine lv_istore (lv' := [(4, .int (nI v_44)), (3, .int 0), (2, .int (-1)), (1, .int r_2), (0, .ref m0)]) hx hb dX12_factor_176 hl (by decide) rfl (fun ls hl => ?_)
          refine lv_aload_n hx hb dX12_factor_178 rfl (lv_at hl 4 rfl) ?_
          refine lv_iload_n hx hb dX12_factor_179 rfl (lv_at hl 2 rfl) ?_
          refine lv_bipush (v := 8) hx hb dX12_factor_180 (by decide) ?_
          refine lv_iload_n hx hb dX12_factor_182 rfl (lv_at hl 1 rfl) ?_
          refine lv_imul hx hb dX12_factor_183 ?_
          refine qi_as (y := 0) (by decide) ?_
          refine lv_iadd hx hb dX12_factor_184 ?_
          refine qi_as (y := (-1)) (by decide) ?_
          refine lv_bipush (v := 32) hx hb dX12_factor_185 (by decide) ?_
          refine lv_iload hx hb dX12_factor_187 (lv_at hl 0 rfl) ?_
          refine lv_imul hx hb dX12_factor_189 ?_
          refine qi_as (y := nI (32 * v_44)) (pk_mul 32 v_44) ?_
          refine lv_iadd hx hb dX12_factor_190 ?_
          have hPc := hP.sub (ws' := [(zo14irriiiiiirriirrrrlriiii m0 th aS aI im (nI a) (nI p0) (nI E) 1 4 aB aT se dn aG aO aN aD bv aY rn kd nu tv)]) [0] rfl
          have hKc := hK.sub (tys' := []) [] rfl
          refine va_csv (va_runV (As := [.int ((-1) + (nI (32 * v_44)))]) (rest := []) ⟨hx, hb, hml, hown, hts⟩ (c_emitsW l dC dI m0 aS aI aB aT aG aO aN aD aY th im (nI a) (nI p0) (nI E) 1 4 se dn rn kd nu tv bv ((-1) + (nI (32 * v_44)))) (cwV 1 hts gX12_factor_X12_emits rfl rfl rfl hd_yX12_emits ⟨Nat.le_of_ble_eq_true rfl, Nat.le_of_ble_eq_true rfl⟩) ⟨fun a U g mk q => by obtain ⟨q0, qP, qK⟩ := q; exact ⟨q0, mvP g mk a qP, mvK g mk a qK⟩, va_recv hK hP (ci := 14) (q := (RX12, TX12, 23)) (q0 := 0) rfl rfl, fun U hU hW => ⟨rfl, by rw [hU]; exact hPc, va_K.moved hW.alike hKc⟩⟩ rfl rfl hl.1 rfl (lv_room (Nat.le_of_ble_eq_true rfl)) dX12_factor_191 ⟨Nat.le_of_ble_eq_true rfl, Nat.le_of_ble_eq_true rfl⟩).run (fun hw_53 => ?_)
          rw [hQ]
          have hP9 := hP.sub (ws' := [(zo14irriiiiiirriirrrrlriiii m0 th aS aI im (nI a) (nI p0) (nI E) 1 4 aB aT se dn aG aO aN aD bv aY rn kd nu tv), (zaI aS cS 901 fS)]) [0, 1] rfl
          have hD9 := hD.sub (ws' := [(zo14irriiiiiirriirrrrlriiii m0 th aS aI im (nI a) (nI p0) (nI E) 1 4 aB aT se dn aG aO aN aD bv aY rn kd nu tv), (zaI aS cS 901 fS)]) [0, 1] (by decide) rfl
          have hK9 := hK.sub (tys' := [(cS, .int)]) [0] rfl
          exact W.vret hx hb hr (fun tQ htQ hWQ => ⟨⟨(fS, (nI p0), 1), rfl, ⟨p0, rfl, by omega, by omega, PF.rf, Or.inl ⟨rfl, (pf_t hn33 hn40).trans (pt_1 hx6)⟩⟩, by rw [htQ]; exact hP9, va_K.moved hWQ.alike hK9, hD9⟩, hS.F htQ⟩) hS.2.2 dX12_factor_194
        · skip
          exact absurd h_50 (by decide)
      · skip
        have hj_34 : j_33 < 6 := hj_34
        have hx6 := am6_y hj_34 h_36
        refine lv_istore_n (lv' := [(2, .int (nI j_33)), (1, .int r_2), (0, .ref m0)]) hx hb dX12_factor_118 rfl hl (by decide) rfl (fun ls hl => ?_)
        refine lv_aload_n hx hb dX12_factor_119 rfl (lv_at hl 2 rfl) ?_
        refine lv_iload_n hx hb dX12_factor_120 rfl (lv_at hl 0 rfl) ?_
        refine lv_iconst (v := (-1)) hx hb dX12_factor_121 (by decide) ?_
        refine lv_icmp_ne (tgt := 129) hx hb dX12_factor_122 (by decide) (fun c_54 => ?_) (fun c_54 => absurd c_54 (nI_nm1 (by omega)))
        refine lv_iconst (v := 0) hx hb dX12_factor_129 (by decide) ?_
        refine va_put (D := (dC, dI)) (ci := 14) (v := .int 0) (ty := .boolean) (C := RX12) (T := TX12) (N := 23) hx hb hts kc_factor4_0 tyX12 tyX12_ok nmX12 hown hK hP hD hS 0 rfl rfl 7 (by decide) (hts (.fieldLink RX12 65 "MistHeapsModel" "isWrong" "Z") kc_factor4_1) (fun _ h9 => h9) rfl (by decide +kernel) rfl rfl (Nat.le_of_ble_eq_true rfl) dX12_factor_130 (fun H locs hP hD hS => ?_)
        have hP : va_P (dC, dI) vwCl [(zo14irriiiiiirriirrrrlriiii m0 th aS aI im (nI a) (nI (p0 + 1)) (nI E) 0 4 aB aT se dn aG aO aN aD bv aY rn kd nu tv), (zaI aS cS 901 fS)] H := hP
        have hD : va_D A [(zo14irriiiiiirriirrrrlriiii m0 th aS aI im (nI a) (nI (p0 + 1)) (nI E) 0 4 aB aT se dn aG aO aN aD bv aY rn kd nu tv), (zaI aS cS 901 fS)] := hD
        refine lv_aload_n hx hb dX12_factor_133 rfl (lv_at hl 2 rfl) ?_
        refine va_get (D := (dC, dI)) (ci := 14) (v := .int 0) (C := RX12) (T := TX12) (N := 23) hx hb hts kc_factor4_0 hown hK hP 0 rfl rfl 7 (by decide) (hts (.fieldLink RX12 65 "MistHeapsModel" "isWrong" "Z") kc_factor4_1) (fun _ h9 => h9) rfl dX12_factor_134 ?_
        refine lv_if_eq (tgt := 144) hx hb dX12_factor_137 (by decide) (fun _ => ?_) (fun c_55 => absurd c_55 (by decide))
        refine lv_aload_n hx hb dX12_factor_144 rfl (lv_at hl 2 rfl) ?_
        refine va_ldcS hx hb hown (show vk_R RX12 107 "<=>" (sK 7) s from hE.1 7 (by decide)) dX12_factor_145 ?_
        have hPc := hP.sub (ws' := [(zo14irriiiiiirriirrrrlriiii m0 th aS aI im (nI a) (nI (p0 + 1)) (nI E) 0 4 aB aT se dn aG aO aN aD bv aY rn kd nu tv), (zaI aS cS 901 fS)]) [0, 1] rfl
        have hDc := hD.sub (ws' := [(zo14irriiiiiirriirrrrlriiii m0 th aS aI im (nI a) (nI (p0 + 1)) (nI E) 0 4 aB aT se dn aG aO aN aD bv aY rn kd nu tv), (zaI aS cS 901 fS)]) [0, 1] (by decide) rfl
        have hKc := hK.sub (tys' := [(cS, .int)]) [0] rfl
        have hFc := va_free (wc := [(zo14irriiiiiirriirrrrlriiii m0 th aS aI im (nI a) (nI (p0 + 1)) (nI E) 0 4 aB aT se dn aG aO aN aD bv aY rn kd nu tv), (zaI aS cS 901 fS)]) hD hS hA [0, 1] rfl
        refine va_calli (va_runV (As := [.ref (sK 7)]) (rest := []) ⟨hx, hb, hml, hown, hts⟩ (c_among l dC dI sK sV m0 aS aI aB aT aG aO aN aD aY th im (nI a) (nI (p0 + 1)) (nI E) 0 4 se dn rn kd nu tv bv cS fS a (p0 + 1) E 7 ss H.size (by omega) (by omega) (by omega) (by decide) (gT)) (cwV 1 hts gX12_factor_X12_among rfl rfl rfl hd_yX12_among ⟨Nat.le_of_ble_eq_true rfl, Nat.le_of_ble_eq_true rfl⟩) ⟨fun a U g mk q => by obtain ⟨q0, q1, qP, qK, qD, qhE⟩ := q; exact ⟨q0, mvz g mk a q1, mvP g mk a qP, mvK g mk a qK, qD, qhE.mv g mk a⟩, va_recv hK hP (ci := 14) (q := (RX12, TX12, 23)) (q0 := 0) rfl rfl, fun U hU hW => ⟨rfl, by rw [hU], by rw [hU]; exact hPc, va_K.moved hW.alike hKc, hDc.weaken (fun _ _ _ _ => trivial), hE.call hS hU hW (fun q h => hFc q h)⟩⟩ rfl rfl hl.1 rfl (lv_room (Nat.le_of_ble_eq_true rfl)) dX12_factor_147 ⟨Nat.le_of_ble_eq_true rfl, Nat.le_of_ble_eq_true rfl⟩) hS (fun q _ h => hFc q h) hFc (fun r_56 u tC H1 locs htC hvm hw_57 hB hz1 hk1 hS => ?_)
        obtain ⟨sp9_58, rfl⟩ : ∃ z, z = u := ⟨_, rfl⟩
        try dsimp only at hw_57 hB
        obtain ⟨hP1, hK1, hD1⟩ := hB
        rw [htC] at hP1
        have hK1 := va_K.moved hvm.symm hK1
        obtain ⟨hP, hD⟩ := va_join (wr := []) (w1 := [(zo14irriiiiiirriirrrrlriiii m0 th aS aI im (nI a) sp9_58 (nI E) 0 4 aB aT se dn aG aO aN aD bv aY rn kd nu tv), (zaI aS cS 901 fS)]) hP hD [0, 1] [] rfl rfl (by decide) (by decide) hk1 hFc hP1 hD1
        have hK := (hK.sub (tys' := []) [] rfl).app hK1
        generalize H1 = H at hP hS ⊢
        have hP : va_P (dC, dI) vwCl [(zo14irriiiiiirriirrrrlriiii m0 th aS aI im (nI a) sp9_58 (nI E) 0 4 aB aT se dn aG aO aN aD bv aY rn kd nu tv), (zaI aS cS 901 fS)] H := hP
        have hD : va_D A [(zo14irriiiiiirriirrrrlriiii m0 th aS aI im (nI a) sp9_58 (nI E) 0 4 aB aT se dn aG aO aN aD bv aY rn kd nu tv), (zaI aS cS 901 fS)] := hD
        have hK : va_K (dC, dI) vwCl [(cS, .int)] s := hK
        rcases hw_57 with ⟨rfl, rfl, h_62⟩ | ⟨j_59, hj_60, rfl, h_61, rfl, h_62⟩
        · skip
          have hx3 := am3_n (fun q hq => h_62 q hq)
          refine lv_istore_n (lv' := [(3, .int (-1)), (2, .int (nI j_33)), (1, .int r_2), (0, .ref m0)]) hx hb dX12_factor_150 rfl hl (by decide) rfl (fun ls hl => ?_)
          refine lv_aload_n hx hb dX12_factor_151 rfl (lv_at hl 3 rfl) ?_
          refine lv_aload_n hx hb dX12_factor_152 rfl (lv_at hl 3 rfl) ?_
          refine va_get (D := (dC, dI)) (ci := 14) (v := .int 0) (C := RX12) (T := TX12) (N := 23) hx hb hts kc_factor4_0 hown hK hP 0 rfl rfl 7 (by decide) (hts (.fieldLink RX12 65 "MistHeapsModel" "isWrong" "Z") kc_factor4_1) (fun _ h9 => h9) rfl dX12_factor_153 ?_
          refine lv_if_ne (tgt := 164) hx hb dX12_factor_156 (by decide) (fun c_63 => absurd c_63 (by decide)) (fun _ => ?_)
          refine lv_iload_n hx hb dX12_factor_159 rfl (lv_at hl 0 rfl) ?_
          refine lv_iconst (v := (-1)) hx hb dX12_factor_160 (by decide) ?_
          refine lv_icmp_ne (tgt := 168) hx hb dX12_factor_161 (by decide) (fun c_64 => absurd c_64 (by decide)) (fun _ => ?_)
          refine lv_iconst (v := 1) hx hb dX12_factor_164 (by decide) ?_
          refine lv_goto (tgt := 169) hx hb dX12_factor_165 (by decide) ?_
          refine va_put (D := (dC, dI)) (ci := 14) (v := .int 1) (ty := .boolean) (C := RX12) (T := TX12) (N := 23) hx hb hts kc_factor4_0 tyX12 tyX12_ok nmX12 hown hK hP hD hS 0 rfl rfl 7 (by decide) (hts (.fieldLink RX12 65 "MistHeapsModel" "isWrong" "Z") kc_factor4_1) (fun _ h9 => h9) rfl (by decide +kernel) rfl rfl (Nat.le_of_ble_eq_true rfl) dX12_factor_169 (fun H locs hP hD hS => ?_)
          have hP : va_P (dC, dI) vwCl [(zo14irriiiiiirriirrrrlriiii m0 th aS aI im (nI a) (nI (p0 + 1)) (nI E) 1 4 aB aT se dn aG aO aN aD bv aY rn kd nu tv), (zaI aS cS 901 fS)] H := hP
          have hD : va_D A [(zo14irriiiiiirriirrrrlriiii m0 th aS aI im (nI a) (nI (p0 + 1)) (nI E) 1 4 aB aT se dn aG aO aN aD bv aY rn kd nu tv), (zaI aS cS 901 fS)] := hD
          refine lv_aload_n hx hb dX12_factor_172 rfl (lv_at hl 3 rfl) ?_
          have hPc := hP.sub (ws' := [(zo14irriiiiiirriirrrrlriiii m0 th aS aI im (nI a) (nI (p0 + 1)) (nI E) 1 4 aB aT se dn aG aO aN aD bv aY rn kd nu tv), (zaI aS cS 901 fS)]) [0, 1] rfl
          have hDc := hD.sub (ws' := [(zo14irriiiiiirriirrrrlriiii m0 th aS aI im (nI a) (nI (p0 + 1)) (nI E) 1 4 aB aT se dn aG aO aN aD bv aY rn kd nu tv), (zaI aS cS 901 fS)]) [0, 1] (by decide) rfl
          have hKc := hK.sub (tys' := [(cS, .int)]) [0] rfl
          have hFc := va_free (wc := [(zo14irriiiiiirriirrrrlriiii m0 th aS aI im (nI a) (nI (p0 + 1)) (nI E) 1 4 aB aT se dn aG aO aN aD bv aY rn kd nu tv), (zaI aS cS 901 fS)]) hD hS hA [0, 1] rfl
          refine va_calli (va_runV (As := []) (rest := []) ⟨hx, hb, hml, hown, hts⟩ (c_figures l dC dI m0 aS aI aB aT aG aO aN aD aY th im (nI a) (nI (p0 + 1)) (nI E) 1 4 se dn rn kd nu tv bv cS fS a (p0 + 1) E ss H.size (by omega) (by omega) (by omega) (Or.inr rfl) (gT)) (cwV 0 hts gX12_factor_X12_figures rfl rfl rfl hd_yX12_figures ⟨Nat.le_of_ble_eq_true rfl, Nat.le_of_ble_eq_true rfl⟩) ⟨fun a U g mk q => by obtain ⟨q0, q1, qP, qK, qD⟩ := q; exact ⟨q0, mvz g mk a q1, mvP g mk a qP, mvK g mk a qK, qD⟩, va_recv hK hP (ci := 14) (q := (RX12, TX12, 23)) (q0 := 0) rfl rfl, fun U hU hW => ⟨rfl, by rw [hU], by rw [hU]; exact hPc, va_K.moved hW.alike hKc, hDc.weaken (fun _ _ _ _ => trivial)⟩⟩ rfl rfl hl.1 rfl (lv_room (Nat.le_of_ble_eq_true rfl)) dX12_factor_173 ⟨Nat.le_of_ble_eq_true rfl, Nat.le_of_ble_eq_true rfl⟩) hS (fun q _ h => hFc q h) hFc (fun r_65 u tC H1 locs htC hvm hw_66 hB hz1 hk1 hS => ?_)
          obtain ⟨sp9_67, wg9_68⟩ := u
          try dsimp only at hw_66 hB
          obtain ⟨hP1, hK1, hD1⟩ := hB
          rw [htC] at hP1
          have hK1 := va_K.moved hvm.symm hK1
          obtain ⟨hP, hD⟩ := va_join (wr := []) (w1 := [(zo14irriiiiiirriirrrrlriiii m0 th aS aI im (nI a) sp9_67 (nI E) wg9_68 4 aB aT se dn aG aO aN aD bv aY rn kd nu tv), (zaI aS cS 901 fS)]) hP hD [0, 1] [] rfl rfl (by decide) (by decide) hk1 hFc hP1 hD1
          have hK := (hK.sub (tys' := []) [] rfl).app hK1
          generalize H1 = H at hP hS ⊢
          have hP : va_P (dC, dI) vwCl [(zo14irriiiiiirriirrrrlriiii m0 th aS aI im (nI a) sp9_67 (nI E) wg9_68 4 aB aT se dn aG aO aN aD bv aY rn kd nu tv), (zaI aS cS 901 fS)] H := hP
          have hD : va_D A [(zo14irriiiiiirriirrrrlriiii m0 th aS aI im (nI a) sp9_67 (nI E) wg9_68 4 aB aT se dn aG aO aN aD bv aY rn kd nu tv), (zaI aS cS 901 fS)] := hD
          have hK : va_K (dC, dI) vwCl [(cS, .int)] s := hK
          rcases hw_66 with ⟨rfl, rfl, hN_76, v_69, h_71, rfl⟩ | ⟨rfl, h_75, v_69, p_70, h_71, h_72, h_73, rfl, rfl, hN_76⟩
          · skip
            refine lv_istore (lv' := [(4, .int (nI v_69)), (3, .int (-1)), (2, .int (nI j_33)), (1, .int r_2), (0, .ref m0)]) hx hb dX12_factor_176 hl (by decide) rfl (fun ls hl => ?_)
            refine lv_aload_n hx hb dX12_factor_178 rfl (lv_at hl 4 rfl) ?_
            refine lv_iload_n hx hb dX12_factor_179 rfl (lv_at hl 2 rfl) ?_
            refine lv_bipush (v := 8) hx hb dX12_factor_180 (by decide) ?_
            refine lv_iload_n hx hb dX12_factor_182 rfl (lv_at hl 1 rfl) ?_
            refine lv_imul hx hb dX12_factor_183 ?_
            refine qi_as (y := (-8)) (by decide) ?_
            refine lv_iadd hx hb dX12_factor_184 ?_
            refine lv_bipush (v := 32) hx hb dX12_factor_185 (by decide) ?_
            refine lv_iload hx hb dX12_factor_187 (lv_at hl 0 rfl) ?_
            refine lv_imul hx hb dX12_factor_189 ?_
            refine qi_as (y := nI (32 * v_69)) (pk_mul 32 v_69) ?_
            refine lv_iadd hx hb dX12_factor_190 ?_
            have hPc := hP.sub (ws' := [(zo14irriiiiiirriirrrrlriiii m0 th aS aI im (nI a) (nI (p0 + 1)) (nI E) 1 4 aB aT se dn aG aO aN aD bv aY rn kd nu tv)]) [0] rfl
            have hKc := hK.sub (tys' := []) [] rfl
            refine va_csv (va_runV (As := [.int (((nI j_33) + (-8)) + (nI (32 * v_69)))]) (rest := []) ⟨hx, hb, hml, hown, hts⟩ (c_emitsW l dC dI m0 aS aI aB aT aG aO aN aD aY th im (nI a) (nI (p0 + 1)) (nI E) 1 4 se dn rn kd nu tv bv (((nI j_33) + (-8)) + (nI (32 * v_69)))) (cwV 1 hts gX12_factor_X12_emits rfl rfl rfl hd_yX12_emits ⟨Nat.le_of_ble_eq_true rfl, Nat.le_of_ble_eq_true rfl⟩) ⟨fun a U g mk q => by obtain ⟨q0, qP, qK⟩ := q; exact ⟨q0, mvP g mk a qP, mvK g mk a qK⟩, va_recv hK hP (ci := 14) (q := (RX12, TX12, 23)) (q0 := 0) rfl rfl, fun U hU hW => ⟨rfl, by rw [hU]; exact hPc, va_K.moved hW.alike hKc⟩⟩ rfl rfl hl.1 rfl (lv_room (Nat.le_of_ble_eq_true rfl)) dX12_factor_191 ⟨Nat.le_of_ble_eq_true rfl, Nat.le_of_ble_eq_true rfl⟩).run (fun hw_78 => ?_)
            rw [hQ]
            have hP9 := hP.sub (ws' := [(zo14irriiiiiirriirrrrlriiii m0 th aS aI im (nI a) (nI (p0 + 1)) (nI E) 1 4 aB aT se dn aG aO aN aD bv aY rn kd nu tv), (zaI aS cS 901 fS)]) [0, 1] rfl
            have hD9 := hD.sub (ws' := [(zo14irriiiiiirriirrrrlriiii m0 th aS aI im (nI a) (nI (p0 + 1)) (nI E) 1 4 aB aT se dn aG aO aN aD bv aY rn kd nu tv), (zaI aS cS 901 fS)]) [0, 1] (by decide) rfl
            have hK9 := hK.sub (tys' := [(cS, .int)]) [0] rfl
            exact W.vret hx hb hr (fun tQ htQ hWQ => ⟨⟨(fS, (nI (p0 + 1)), 1), rfl, ⟨p0 + 1, rfl, by omega, by omega, PF.rf, Or.inl ⟨rfl, (pf_t hn33 hn40).trans (pt_2 hx6 hx3)⟩⟩, by rw [htQ]; exact hP9, va_K.moved hWQ.alike hK9, hD9⟩, hS.F htQ⟩) hS.2.2 dX12_factor_194
          · skip
            exact absurd h_75 (by decide)
        · skip
          have hj_60 : j_59 < 3 := hj_60
          have hx3 := am3_y hj_60 h_62
          refine lv_istore_n (lv' := [(3, .int (nI j_59)), (2, .int (nI j_33)), (1, .int r_2), (0, .ref m0)]) hx hb dX12_factor_150 rfl hl (by decide) rfl (fun ls hl => ?_)
          refine lv_aload_n hx hb dX12_factor_151 rfl (lv_at hl 3 rfl) ?_
          refine lv_aload_n hx hb dX12_factor_152 rfl (lv_at hl 3 rfl) ?_
          refine va_get (D := (dC, dI)) (ci := 14) (v := .int 0) (C := RX12) (T := TX12) (N := 23) hx hb hts kc_factor4_0 hown hK hP 0 rfl rfl 7 (by decide) (hts (.fieldLink RX12 65 "MistHeapsModel" "isWrong" "Z") kc_factor4_1) (fun _ h9 => h9) rfl dX12_factor_153 ?_
          refine lv_if_ne (tgt := 164) hx hb dX12_factor_156 (by decide) (fun c_79 => absurd c_79 (by decide)) (fun _ => ?_)
          refine lv_iload_n hx hb dX12_factor_159 rfl (lv_at hl 0 rfl) ?_
          refine lv_iconst (v := (-1)) hx hb dX12_factor_160 (by decide) ?_
          refine lv_icmp_ne (tgt := 168) hx hb dX12_factor_161 (by decide) (fun c_80 => ?_) (fun c_80 => absurd c_80 (nI_nm1 (by omega)))
          refine lv_iconst (v := 0) hx hb dX12_factor_168 (by decide) ?_
          refine va_put (D := (dC, dI)) (ci := 14) (v := .int 0) (ty := .boolean) (C := RX12) (T := TX12) (N := 23) hx hb hts kc_factor4_0 tyX12 tyX12_ok nmX12 hown hK hP hD hS 0 rfl rfl 7 (by decide) (hts (.fieldLink RX12 65 "MistHeapsModel" "isWrong" "Z") kc_factor4_1) (fun _ h9 => h9) rfl (by decide +kernel) rfl rfl (Nat.le_of_ble_eq_true rfl) dX12_factor_169 (fun H locs hP hD hS => ?_)
          have hP : va_P (dC, dI) vwCl [(zo14irriiiiiirriirrrrlriiii m0 th aS aI im (nI a) (nI ((p0 + 1) + 1)) (nI E) 0 4 aB aT se dn aG aO aN aD bv aY rn kd nu tv), (zaI aS cS 901 fS)] H := hP
          have hD : va_D A [(zo14irriiiiiirriirrrrlriiii m0 th aS aI im (nI a) (nI ((p0 + 1) + 1)) (nI E) 0 4 aB aT se dn aG aO aN aD bv aY rn kd nu tv), (zaI aS cS 901 fS)] := hD
          refine lv_aload_n hx hb dX12_factor_172 rfl (lv_at hl 3 rfl) ?_
          have hPc := hP.sub (ws' := [(zo14irriiiiiirriirrrrlriiii m0 th aS aI im (nI a) (nI ((p0 + 1) + 1)) (nI E) 0 4 aB aT se dn aG aO aN aD bv aY rn kd nu tv), (zaI aS cS 901 fS)]) [0, 1] rfl
          have hDc := hD.sub (ws' := [(zo14irriiiiiirriirrrrlriiii m0 th aS aI im (nI a) (nI ((p0 + 1) + 1)) (nI E) 0 4 aB aT se dn aG aO aN aD bv aY rn kd nu tv), (zaI aS cS 901 fS)]) [0, 1] (by decide) rfl
          have hKc := hK.sub (tys' := [(cS, .int)]) [0] rfl
          have hFc := va_free (wc := [(zo14irriiiiiirriirrrrlriiii m0 th aS aI im (nI a) (nI ((p0 + 1) + 1)) (nI E) 0 4 aB aT se dn aG aO aN aD bv aY rn kd nu tv), (zaI aS cS 901 fS)]) hD hS hA [0, 1] rfl
          refine va_calli (va_runV (As := []) (rest := []) ⟨hx, hb, hml, hown, hts⟩ (c_figures l dC dI m0 aS aI aB aT aG aO aN aD aY th im (nI a) (nI ((p0 + 1) + 1)) (nI E) 0 4 se dn rn kd nu tv bv cS fS a ((p0 + 1) + 1) E ss H.size (by omega) (by omega) (by omega) (Or.inl rfl) (gT)) (cwV 0 hts gX12_factor_X12_figures rfl rfl rfl hd_yX12_figures ⟨Nat.le_of_ble_eq_true rfl, Nat.le_of_ble_eq_true rfl⟩) ⟨fun a U g mk q => by obtain ⟨q0, q1, qP, qK, qD⟩ := q; exact ⟨q0, mvz g mk a q1, mvP g mk a qP, mvK g mk a qK, qD⟩, va_recv hK hP (ci := 14) (q := (RX12, TX12, 23)) (q0 := 0) rfl rfl, fun U hU hW => ⟨rfl, by rw [hU], by rw [hU]; exact hPc, va_K.moved hW.alike hKc, hDc.weaken (fun _ _ _ _ => trivial)⟩⟩ rfl rfl hl.1 rfl (lv_room (Nat.le_of_ble_eq_true rfl)) dX12_factor_173 ⟨Nat.le_of_ble_eq_true rfl, Nat.le_of_ble_eq_true rfl⟩) hS (fun q _ h => hFc q h) hFc (fun r_81 u tC H1 locs htC hvm hw_82 hB hz1 hk1 hS => ?_)
          obtain ⟨sp9_83, wg9_84⟩ := u
          try dsimp only at hw_82 hB
          obtain ⟨hP1, hK1, hD1⟩ := hB
          rw [htC] at hP1
          have hK1 := va_K.moved hvm.symm hK1
          obtain ⟨hP, hD⟩ := va_join (wr := []) (w1 := [(zo14irriiiiiirriirrrrlriiii m0 th aS aI im (nI a) sp9_83 (nI E) wg9_84 4 aB aT se dn aG aO aN aD bv aY rn kd nu tv), (zaI aS cS 901 fS)]) hP hD [0, 1] [] rfl rfl (by decide) (by decide) hk1 hFc hP1 hD1
          have hK := (hK.sub (tys' := []) [] rfl).app hK1
          generalize H1 = H at hP hS ⊢
          have hP : va_P (dC, dI) vwCl [(zo14irriiiiiirriirrrrlriiii m0 th aS aI im (nI a) sp9_83 (nI E) wg9_84 4 aB aT se dn aG aO aN aD bv aY rn kd nu tv), (zaI aS cS 901 fS)] H := hP
          have hD : va_D A [(zo14irriiiiiirriirrrrlriiii m0 th aS aI im (nI a) sp9_83 (nI E) wg9_84 4 aB aT se dn aG aO aN aD bv aY rn kd nu tv), (zaI aS cS 901 fS)] := hD
          have hK : va_K (dC, dI) vwCl [(cS, .int)] s := hK
          rcases hw_82 with ⟨rfl, rfl, hN_92, v_85, h_87, rfl⟩ | ⟨rfl, h_91, v_85, p_86, h_87, h_88, h_89, rfl, rfl, hN_92⟩
          · skip
            have hN := hN_92 rfl
            refine lv_istore (lv' := [(4, .int (nI v_85)), (3, .int (nI j_59)), (2, .int (nI j_33)), (1, .int r_2), (0, .ref m0)]) hx hb dX12_factor_176 hl (by decide) rfl (fun ls hl => ?_)
            refine lv_aload_n hx hb dX12_factor_178 rfl (lv_at hl 4 rfl) ?_
            refine lv_iload_n hx hb dX12_factor_179 rfl (lv_at hl 2 rfl) ?_
            refine lv_bipush (v := 8) hx hb dX12_factor_180 (by decide) ?_
            refine lv_iload_n hx hb dX12_factor_182 rfl (lv_at hl 1 rfl) ?_
            refine lv_imul hx hb dX12_factor_183 ?_
            refine qi_as (y := nI (8 * j_59)) (pk_mul 8 j_59) ?_
            refine lv_iadd hx hb dX12_factor_184 ?_
            refine qi_as (y := nI (j_33 + (8 * j_59))) (nI_add j_33 (8 * j_59)) ?_
            refine lv_bipush (v := 32) hx hb dX12_factor_185 (by decide) ?_
            refine lv_iload hx hb dX12_factor_187 (lv_at hl 0 rfl) ?_
            refine lv_imul hx hb dX12_factor_189 ?_
            refine qi_as (y := nI (32 * v_85)) (pk_mul 32 v_85) ?_
            refine lv_iadd hx hb dX12_factor_190 ?_
            refine qi_as (y := nI ((j_33 + (8 * j_59)) + (32 * v_85))) (nI_add (j_33 + (8 * j_59)) (32 * v_85)) ?_
            have hPc := hP.sub (ws' := [(zo14irriiiiiirriirrrrlriiii m0 th aS aI im (nI a) (nI ((p0 + 1) + 1)) (nI E) 1 4 aB aT se dn aG aO aN aD bv aY rn kd nu tv)]) [0] rfl
            have hKc := hK.sub (tys' := []) [] rfl
            refine va_csv (va_runV (As := [.int (nI ((j_33 + (8 * j_59)) + (32 * v_85)))]) (rest := []) ⟨hx, hb, hml, hown, hts⟩ (c_emitsW l dC dI m0 aS aI aB aT aG aO aN aD aY th im (nI a) (nI ((p0 + 1) + 1)) (nI E) 1 4 se dn rn kd nu tv bv (nI ((j_33 + (8 * j_59)) + (32 * v_85)))) (cwV 1 hts gX12_factor_X12_emits rfl rfl rfl hd_yX12_emits ⟨Nat.le_of_ble_eq_true rfl, Nat.le_of_ble_eq_true rfl⟩) ⟨fun a U g mk q => by obtain ⟨q0, qP, qK⟩ := q; exact ⟨q0, mvP g mk a qP, mvK g mk a qK⟩, va_recv hK hP (ci := 14) (q := (RX12, TX12, 23)) (q0 := 0) rfl rfl, fun U hU hW => ⟨rfl, by rw [hU]; exact hPc, va_K.moved hW.alike hKc⟩⟩ rfl rfl hl.1 rfl (lv_room (Nat.le_of_ble_eq_true rfl)) dX12_factor_191 ⟨Nat.le_of_ble_eq_true rfl, Nat.le_of_ble_eq_true rfl⟩).run (fun hw_94 => ?_)
            rw [hQ]
            have hP9 := hP.sub (ws' := [(zo14irriiiiiirriirrrrlriiii m0 th aS aI im (nI a) (nI ((p0 + 1) + 1)) (nI E) 1 4 aB aT se dn aG aO aN aD bv aY rn kd nu tv), (zaI aS cS 901 fS)]) [0, 1] rfl
            have hD9 := hD.sub (ws' := [(zo14irriiiiiirriirrrrlriiii m0 th aS aI im (nI a) (nI ((p0 + 1) + 1)) (nI E) 1 4 aB aT se dn aG aO aN aD bv aY rn kd nu tv), (zaI aS cS 901 fS)]) [0, 1] (by decide) rfl
            have hK9 := hK.sub (tys' := [(cS, .int)]) [0] rfl
            exact W.vret hx hb hr (fun tQ htQ hWQ => ⟨⟨(fS, (nI ((p0 + 1) + 1)), 1), rfl, ⟨(p0 + 1) + 1, rfl, by omega, by omega, PF.rf, Or.inl ⟨rfl, (pf_t hn33 hn40).trans (pt_3 hx6 hx3 hN)⟩⟩, by rw [htQ]; exact hP9, va_K.moved hWQ.alike hK9, hD9⟩, hS.F htQ⟩) hS.2.2 dX12_factor_194
          · skip
            have hN := hN_92
            refine lv_istore (lv' := [(4, .int (nI v_85)), (3, .int (nI j_59)), (2, .int (nI j_33)), (1, .int r_2), (0, .ref m0)]) hx hb dX12_factor_176 hl (by decide) rfl (fun ls hl => ?_)
            refine lv_aload_n hx hb dX12_factor_178 rfl (lv_at hl 4 rfl) ?_
            refine lv_iload_n hx hb dX12_factor_179 rfl (lv_at hl 2 rfl) ?_
            refine lv_bipush (v := 8) hx hb dX12_factor_180 (by decide) ?_
            refine lv_iload_n hx hb dX12_factor_182 rfl (lv_at hl 1 rfl) ?_
            refine lv_imul hx hb dX12_factor_183 ?_
            refine qi_as (y := nI (8 * j_59)) (pk_mul 8 j_59) ?_
            refine lv_iadd hx hb dX12_factor_184 ?_
            refine qi_as (y := nI (j_33 + (8 * j_59))) (nI_add j_33 (8 * j_59)) ?_
            refine lv_bipush (v := 32) hx hb dX12_factor_185 (by decide) ?_
            refine lv_iload hx hb dX12_factor_187 (lv_at hl 0 rfl) ?_
            refine lv_imul hx hb dX12_factor_189 ?_
            refine qi_as (y := nI (32 * v_85)) (pk_mul 32 v_85) ?_
            refine lv_iadd hx hb dX12_factor_190 ?_
            refine qi_as (y := nI ((j_33 + (8 * j_59)) + (32 * v_85))) (nI_add (j_33 + (8 * j_59)) (32 * v_85)) ?_
            have hPc := hP.sub (ws' := [(zo14irriiiiiirriirrrrlriiii m0 th aS aI im (nI a) (nI p_86) (nI E) 0 4 aB aT se dn aG aO aN aD bv aY rn kd nu tv), (zaI aS cS 901 fS)]) [0, 1] rfl
            have hDc := hD.sub (ws' := [(zo14irriiiiiirriirrrrlriiii m0 th aS aI im (nI a) (nI p_86) (nI E) 0 4 aB aT se dn aG aO aN aD bv aY rn kd nu tv), (zaI aS cS 901 fS)]) [0, 1] (by decide) rfl
            have hKc := hK.sub (tys' := [(cS, .int)]) [0] rfl
            have hFc := va_free (wc := [(zo14irriiiiiirriirrrrlriiii m0 th aS aI im (nI a) (nI p_86) (nI E) 0 4 aB aT se dn aG aO aN aD bv aY rn kd nu tv), (zaI aS cS 901 fS)]) hD hS hA [0, 1] rfl
            refine va_callv (va_runV (As := [.int (nI ((j_33 + (8 * j_59)) + (32 * v_85)))]) (rest := []) ⟨hx, hb, hml, hown, hts⟩ (c_emits l dC dI m0 aS aI aB aT aG aO aN aD aY th im (nI a) (nI p_86) (nI E) 0 4 se dn rn kd nu tv bv cS fS a K.length (nI ((j_33 + (8 * j_59)) + (32 * v_85))) H.size (ga) ((gI).2.2.2.1) (by have := (gI).2.2.2.2.1; omega)) (cwV 1 hts gX12_factor_X12_emits rfl rfl rfl hd_yX12_emits ⟨Nat.le_of_ble_eq_true rfl, Nat.le_of_ble_eq_true rfl⟩) ⟨fun a U g mk q => by obtain ⟨q0, q1, qP, qK, qD⟩ := q; exact ⟨q0, mvz g mk a q1, mvP g mk a qP, mvK g mk a qK, qD⟩, va_recv hK hP (ci := 14) (q := (RX12, TX12, 23)) (q0 := 0) rfl rfl, fun U hU hW => ⟨rfl, by rw [hU], by rw [hU]; exact hPc, va_K.moved hW.alike hKc, hDc.weaken (fun _ _ _ _ => trivial)⟩⟩ rfl rfl hl.1 rfl (lv_room (Nat.le_of_ble_eq_true rfl)) dX12_factor_191 ⟨Nat.le_of_ble_eq_true rfl, Nat.le_of_ble_eq_true rfl⟩) hS (fun q _ h => hFc q h) hFc (fun u tC H1 locs htC hvm hw_96 hB hz1 hk1 hS => ?_)
            obtain ⟨fS9_97, rfl⟩ : ∃ z, z = u := ⟨_, rfl⟩
            try dsimp only at hw_96 hB
            obtain ⟨hP1, hK1, hD1⟩ := hB
            rw [htC] at hP1
            have hK1 := va_K.moved hvm.symm hK1
            obtain ⟨hP, hD⟩ := va_join (wr := []) (w1 := [(zo14irriiiiiirriirrrrlriiii m0 th aS aI im (nI a) (nI p_86) (nI E) 0 4 aB aT se dn aG aO aN aD bv aY rn kd nu tv), (zaI aS cS 901 fS9_97)]) hP hD [0, 1] [] rfl rfl (by decide) (by decide) hk1 hFc hP1 hD1
            have hK := (hK.sub (tys' := []) [] rfl).app hK1
            generalize H1 = H at hP hS ⊢
            have hP : va_P (dC, dI) vwCl [(zo14irriiiiiirriirrrrlriiii m0 th aS aI im (nI a) (nI p_86) (nI E) 0 4 aB aT se dn aG aO aN aD bv aY rn kd nu tv), (zaI aS cS 901 fS9_97)] H := hP
            have hD : va_D A [(zo14irriiiiiirriirrrrlriiii m0 th aS aI im (nI a) (nI p_86) (nI E) 0 4 aB aT se dn aG aO aN aD bv aY rn kd nu tv), (zaI aS cS 901 fS9_97)] := hD
            have hK : va_K (dC, dI) vwCl [(cS, .int)] s := hK
            obtain rfl : fS9_97 = emt fS a K.length (nI ((j_33 + (8 * j_59)) + (32 * v_85))) := by rcases hw_96 with ⟨q, _⟩ | ⟨_, q⟩; exact absurd rfl q; exact q
            have hI_98 : PI (emt fS a K.length (nI ((j_33 + (8 * j_59)) + (32 * v_85)))) a (K ++ [j_33 * 300 + j_59 * 100 + v_85]) (d + 1) p_86 E := PI.em (t := j_33 * 300 + j_59 * 100 + v_85) ((gI).mono (by omega) (by omega)) (by omega) (by omega) (stepd_test (by omega) (by omega) (by omega) (by omega)) (rcd_t (by omega) (by omega) (by omega))
            have hF_99 : PF a fS (emt fS a K.length (nI ((j_33 + (8 * j_59)) + (32 * v_85)))) := (PF.rf).tr (PF_emt (k := K.length) (x := nI ((j_33 + (8 * j_59)) + (32 * v_85))) ga (by have := (gI).2.2.2.2.1; omega))
            have hKhI_98 : (K ++ [j_33 * 300 + j_59 * 100 + v_85]).length = K.length + 1 := by rw [List.length_append]; rfl
            rw [hQ]
            have hP9 := hP.sub (ws' := [(zo14irriiiiiirriirrrrlriiii m0 th aS aI im (nI a) (nI p_86) (nI E) 0 4 aB aT se dn aG aO aN aD bv aY rn kd nu tv), (zaI aS cS 901 (emt fS a K.length (nI ((j_33 + (8 * j_59)) + (32 * v_85)))))]) [0, 1] rfl
            have hD9 := hD.sub (ws' := [(zo14irriiiiiirriirrrrlriiii m0 th aS aI im (nI a) (nI p_86) (nI E) 0 4 aB aT se dn aG aO aN aD bv aY rn kd nu tv), (zaI aS cS 901 (emt fS a K.length (nI ((j_33 + (8 * j_59)) + (32 * v_85)))))]) [0, 1] (by decide) rfl
            have hK9 := hK.sub (tys' := [(cS, .int)]) [0] rfl
            exact W.vret hx hb hr (fun tQ htQ hWQ => ⟨⟨((emt fS a K.length (nI ((j_33 + (8 * j_59)) + (32 * v_85)))), (nI p_86), 0), rfl, ⟨p_86, rfl, by omega, by omega, hF_99, Or.inr ⟨rfl, [j_33 * 300 + j_59 * 100 + v_85], (pf_t hn33 hn40).trans (pt_4 hx6 hx3 hN), by omega, (hI_98).mono (by omega) (by omega), by (try simp only [List.length_append, List.length_cons, List.length_nil]); omega⟩⟩, by rw [htQ]; exact hP9, va_K.moved hWQ.alike hK9, hD9⟩, hS.F htQ⟩) hS.2.2 dX12_factor_194
    · skip
      subst c_29
      have hs : ss p0 = 40 := (gT.eq (c := 40) (by omega) (by omega)).mp hw_3.symm
      have hlt : p0 < E := Nat.lt_of_not_le (fun z => by have := gT.2.1 p0 z; omega)
      refine lv_aload_n hx hb dX12_factor_25 rfl (lv_at hl 1 rfl) ?_
      refine lv_aload_n hx hb dX12_factor_26 rfl (lv_at hl 1 rfl) ?_
      refine va_get (D := (dC, dI)) (ci := 14) (v := .int 4) (C := RX12) (T := TX12) (N := 23) hx hb hts kc_factor4_0 hown hK hP 0 rfl rfl 8 (by decide) (hts (.fieldLink RX12 89 "MistHeapsModel" "open" "I") kc_factor4_2) (fun _ h9 => h9) rfl dX12_factor_27 ?_
      refine lv_iconst (v := 5) hx hb dX12_factor_30 (by decide) ?_
      refine lv_icmp_ne (tgt := 38) hx hb dX12_factor_31 (by decide) (fun _ => ?_) (fun c_100 => absurd c_100 (by decide))
      refine lv_iconst (v := 0) hx hb dX12_factor_38 (by decide) ?_
      refine va_put (D := (dC, dI)) (ci := 14) (v := .int 0) (ty := .boolean) (C := RX12) (T := TX12) (N := 23) hx hb hts kc_factor4_0 tyX12 tyX12_ok nmX12 hown hK hP hD hS 0 rfl rfl 7 (by decide) (hts (.fieldLink RX12 65 "MistHeapsModel" "isWrong" "Z") kc_factor4_1) (fun _ h9 => h9) rfl (by decide +kernel) rfl rfl (Nat.le_of_ble_eq_true rfl) dX12_factor_39 (fun H locs hP hD hS => ?_)
      have hP : va_P (dC, dI) vwCl [(zo14irriiiiiirriirrrrlriiii m0 th aS aI im (nI a) (nI p0) (nI E) 0 4 aB aT se dn aG aO aN aD bv aY rn kd nu tv), (zaI aS cS 901 fS)] H := hP
      have hD : va_D A [(zo14irriiiiiirriirrrrlriiii m0 th aS aI im (nI a) (nI p0) (nI E) 0 4 aB aT se dn aG aO aN aD bv aY rn kd nu tv), (zaI aS cS 901 fS)] := hD
      refine lv_aload_n hx hb dX12_factor_42 rfl (lv_at hl 1 rfl) ?_
      refine lv_dup hx hb dX12_factor_43 rfl ?_
      refine va_get (D := (dC, dI)) (ci := 14) (v := .int 4) (C := RX12) (T := TX12) (N := 23) hx hb hts kc_factor4_0 hown hK hP 0 rfl rfl 8 (by decide) (hts (.fieldLink RX12 89 "MistHeapsModel" "open" "I") kc_factor4_2) (fun _ h9 => h9) rfl dX12_factor_44 ?_
      refine lv_iconst (v := 1) hx hb dX12_factor_47 (by decide) ?_
      refine lv_iadd hx hb dX12_factor_48 ?_
      refine qi_as (y := 5) (by decide) ?_
      refine va_put (D := (dC, dI)) (ci := 14) (v := .int 5) (ty := .int) (C := RX12) (T := TX12) (N := 23) hx hb hts kc_factor4_0 tyX12 tyX12_ok nmX12 hown hK hP hD hS 0 rfl rfl 8 (by decide) (hts (.fieldLink RX12 89 "MistHeapsModel" "open" "I") kc_factor4_2) (fun _ h9 => h9) rfl (by decide +kernel) rfl rfl (Nat.le_of_ble_eq_true rfl) dX12_factor_49 (fun H locs hP hD hS => ?_)
      have hP : va_P (dC, dI) vwCl [(zo14irriiiiiirriirrrrlriiii m0 th aS aI im (nI a) (nI p0) (nI E) 0 5 aB aT se dn aG aO aN aD bv aY rn kd nu tv), (zaI aS cS 901 fS)] H := hP
      have hD : va_D A [(zo14irriiiiiirriirrrrlriiii m0 th aS aI im (nI a) (nI p0) (nI E) 0 5 aB aT se dn aG aO aN aD bv aY rn kd nu tv), (zaI aS cS 901 fS)] := hD
      refine lv_aload_n hx hb dX12_factor_52 rfl (lv_at hl 1 rfl) ?_
      refine lv_dup hx hb dX12_factor_53 rfl ?_
      refine va_get (D := (dC, dI)) (ci := 14) (v := .int (nI p0)) (C := RX12) (T := TX12) (N := 23) hx hb hts kc_factor4_0 hown hK hP 0 rfl rfl 5 (by decide) (hts (.fieldLink RX12 59 "MistHeapsModel" "spot" "I") kc_factor4_3) (fun _ h9 => h9) rfl dX12_factor_54 ?_
      refine lv_aload_n hx hb dX12_factor_57 rfl (lv_at hl 1 rfl) ?_
      refine va_get (D := (dC, dI)) (ci := 14) (v := .int 0) (C := RX12) (T := TX12) (N := 23) hx hb hts kc_factor4_0 hown hK hP 0 rfl rfl 7 (by decide) (hts (.fieldLink RX12 65 "MistHeapsModel" "isWrong" "Z") kc_factor4_1) (fun _ h9 => h9) rfl dX12_factor_58 ?_
      refine lv_if_eq (tgt := 68) hx hb dX12_factor_61 (by decide) (fun _ => ?_) (fun c_101 => absurd c_101 (by decide))
      refine lv_iconst (v := 1) hx hb dX12_factor_68 (by decide) ?_
      refine lv_iadd hx hb dX12_factor_69 ?_
      refine qi_as (y := nI (p0 + 1)) (nI_add p0 1) ?_
      refine va_put (D := (dC, dI)) (ci := 14) (v := .int (nI (p0 + 1))) (ty := .int) (C := RX12) (T := TX12) (N := 23) hx hb hts kc_factor4_0 tyX12 tyX12_ok nmX12 hown hK hP hD hS 0 rfl rfl 5 (by decide) (hts (.fieldLink RX12 59 "MistHeapsModel" "spot" "I") kc_factor4_3) (fun _ h9 => h9) rfl (by decide +kernel) rfl rfl (Nat.le_of_ble_eq_true rfl) dX12_factor_70 (fun H locs hP hD hS => ?_)
      have hP : va_P (dC, dI) vwCl [(zo14irriiiiiirriirrrrlriiii m0 th aS aI im (nI a) (nI (p0 + 1)) (nI E) 0 5 aB aT se dn aG aO aN aD bv aY rn kd nu tv), (zaI aS cS 901 fS)] H := hP
      have hD : va_D A [(zo14irriiiiiirriirrrrlriiii m0 th aS aI im (nI a) (nI (p0 + 1)) (nI E) 0 5 aB aT se dn aG aO aN aD bv aY rn kd nu tv), (zaI aS cS 901 fS)] := hD
      refine lv_iload_n hx hb dX12_factor_73 rfl (lv_at hl 0 rfl) ?_
      refine lv_bipush (v := 33) hx hb dX12_factor_74 (by decide) ?_
      refine lv_icmp_ne (tgt := 91) hx hb dX12_factor_76 (by decide) (fun _ => ?_) (fun c_102 => absurd c_102 (by decide))
      refine lv_aload_n hx hb dX12_factor_91 rfl (lv_at hl 1 rfl) ?_
      have hPc := hP.sub (ws' := [(zo14irriiiiiirriirrrrlriiii m0 th aS aI im (nI a) (nI (p0 + 1)) (nI E) 0 5 aB aT se dn aG aO aN aD bv aY rn kd nu tv), (zaI aS cS 901 fS)]) [0, 1] rfl
      have hDc := hD.sub (ws' := [(zo14irriiiiiirriirrrrlriiii m0 th aS aI im (nI a) (nI (p0 + 1)) (nI E) 0 5 aB aT se dn aG aO aN aD bv aY rn kd nu tv), (zaI aS cS 901 fS)]) [0, 1] (by decide) rfl
      have hKc := hK.sub (tys' := [(cS, .int)]) [0] rfl
      have hFc := va_free (wc := [(zo14irriiiiiirriirrrrlriiii m0 th aS aI im (nI a) (nI (p0 + 1)) (nI E) 0 5 aB aT se dn aG aO aN aD bv aY rn kd nu tv), (zaI aS cS 901 fS)]) hD hS hA [0, 1] rfl
      refine va_callv (va_runV (As := []) (rest := []) ⟨hx, hb, hml, hown, hts⟩ (c_some5 l dC dI sK sV m0 aS aI aB aT aG aO aN aD aY th im (nI a) (nI (p0 + 1)) (nI E) 0 5 se dn rn kd nu tv bv cS fS a (p0 + 1) E K d ss H.size ((gI).mono (by omega) (by omega)) (gT)) (cwV 0 hts gX12_factor_X12_some rfl rfl rfl hd_yX12_some ⟨Nat.le_of_ble_eq_true rfl, Nat.le_of_ble_eq_true rfl⟩) ⟨fun a U g mk q => by obtain ⟨q0, q1, qP, qK, qD, qhE⟩ := q; exact ⟨q0, mvz g mk a q1, mvP g mk a qP, mvK g mk a qK, qD, qhE.mv g mk a⟩, va_recv hK hP (ci := 14) (q := (RX12, TX12, 23)) (q0 := 0) rfl rfl, fun U hU hW => ⟨rfl, by rw [hU], by rw [hU]; exact hPc, va_K.moved hW.alike hKc, hDc.weaken (fun _ _ _ _ => trivial), hE.call hS hU hW (fun q h => hFc q h)⟩⟩ rfl rfl hl.1 rfl (lv_room (Nat.le_of_ble_eq_true rfl)) dX12_factor_92 ⟨Nat.le_of_ble_eq_true rfl, Nat.le_of_ble_eq_true rfl⟩) hS (fun q _ h => hFc q h) hFc (fun u tC H1 locs htC hvm hw_104 hB hz1 hk1 hS => ?_)
      obtain ⟨fS9_105, sp9_106, wg9_107⟩ := u
      try dsimp only at hw_104 hB
      obtain ⟨hP1, hK1, hD1⟩ := hB
      rw [htC] at hP1
      have hK1 := va_K.moved hvm.symm hK1
      obtain ⟨hP, hD⟩ := va_join (wr := []) (w1 := [(zo14irriiiiiirriirrrrlriiii m0 th aS aI im (nI a) sp9_106 (nI E) wg9_107 5 aB aT se dn aG aO aN aD bv aY rn kd nu tv), (zaI aS cS 901 fS9_105)]) hP hD [0, 1] [] rfl rfl (by decide) (by decide) hk1 hFc hP1 hD1
      have hK := (hK.sub (tys' := []) [] rfl).app hK1
      generalize H1 = H at hP hS ⊢
      have hP : va_P (dC, dI) vwCl [(zo14irriiiiiirriirrrrlriiii m0 th aS aI im (nI a) sp9_106 (nI E) wg9_107 5 aB aT se dn aG aO aN aD bv aY rn kd nu tv), (zaI aS cS 901 fS9_105)] H := hP
      have hD : va_D A [(zo14irriiiiiirriirrrrlriiii m0 th aS aI im (nI a) sp9_106 (nI E) wg9_107 5 aB aT se dn aG aO aN aD bv aY rn kd nu tv), (zaI aS cS 901 fS9_105)] := hD
      have hK : va_K (dC, dI) vwCl [(cS, .int)] s := hK
      obtain ⟨p_108, rfl, h_111, h_112, hF_113, q9⟩ := hw_104
      rcases q9 with ⟨rfl, eP_110⟩ | ⟨rfl, L_109, eP_110, h_114, hI_115, h_116⟩
      · skip
        refine lv_aload_n hx hb dX12_factor_95 rfl (lv_at hl 1 rfl) ?_
        refine lv_bipush (v := 41) hx hb dX12_factor_96 (by decide) ?_
        have hPc := hP.sub (ws' := [(zo14irriiiiiirriirrrrlriiii m0 th aS aI im (nI a) (nI p_108) (nI E) 1 5 aB aT se dn aG aO aN aD bv aY rn kd nu tv), (zaI aS cS 901 fS9_105)]) [0, 1] rfl
        have hDc := hD.sub (ws' := [(zo14irriiiiiirriirrrrlriiii m0 th aS aI im (nI a) (nI p_108) (nI E) 1 5 aB aT se dn aG aO aN aD bv aY rn kd nu tv), (zaI aS cS 901 fS9_105)]) [0, 1] (by decide) rfl
        have hKc := hK.sub (tys' := [(cS, .int)]) [0] rfl
        have hFc := va_free (wc := [(zo14irriiiiiirriirrrrlriiii m0 th aS aI im (nI a) (nI p_108) (nI E) 1 5 aB aT se dn aG aO aN aD bv aY rn kd nu tv), (zaI aS cS 901 fS9_105)]) hD hS hA [0, 1] rfl
        refine va_callv (va_runV (As := [.int 41]) (rest := []) ⟨hx, hb, hml, hown, hts⟩ (c_must l dC dI m0 aS aI aB aT aG aO aN aD aY th im (nI a) (nI p_108) (nI E) 1 5 se dn rn kd nu tv bv cS fS9_105 a p_108 E 41 H.size (by omega) (by omega) (by omega) (Or.inr rfl) (by decide)) (cwV 1 hts gX12_factor_X12_must rfl rfl rfl hd_yX12_must ⟨Nat.le_of_ble_eq_true rfl, Nat.le_of_ble_eq_true rfl⟩) ⟨fun a U g mk q => by obtain ⟨q0, q1, qP, qK, qD⟩ := q; exact ⟨q0, mvz g mk a q1, mvP g mk a qP, mvK g mk a qK, qD⟩, va_recv hK hP (ci := 14) (q := (RX12, TX12, 23)) (q0 := 0) rfl rfl, fun U hU hW => ⟨rfl, by rw [hU], by rw [hU]; exact hPc, va_K.moved hW.alike hKc, hDc.weaken (fun _ _ _ _ => trivial)⟩⟩ rfl rfl hl.1 rfl (lv_room (Nat.le_of_ble_eq_true rfl)) dX12_factor_98 ⟨Nat.le_of_ble_eq_true rfl, Nat.le_of_ble_eq_true rfl⟩) hS (fun q _ h => hFc q h) hFc (fun u tC H1 locs htC hvm hw_118 hB hz1 hk1 hS => ?_)
        obtain ⟨sp9_119, wg9_120⟩ := u
        try dsimp only at hw_118 hB
        obtain ⟨hP1, hK1, hD1⟩ := hB
        rw [htC] at hP1
        have hK1 := va_K.moved hvm.symm hK1
        obtain ⟨hP, hD⟩ := va_join (wr := []) (w1 := [(zo14irriiiiiirriirrrrlriiii m0 th aS aI im (nI a) sp9_119 (nI E) wg9_120 5 aB aT se dn aG aO aN aD bv aY rn kd nu tv), (zaI aS cS 901 fS9_105)]) hP hD [0, 1] [] rfl rfl (by decide) (by decide) hk1 hFc hP1 hD1
        have hK := (hK.sub (tys' := []) [] rfl).app hK1
        generalize H1 = H at hP hS ⊢
        have hP : va_P (dC, dI) vwCl [(zo14irriiiiiirriirrrrlriiii m0 th aS aI im (nI a) sp9_119 (nI E) wg9_120 5 aB aT se dn aG aO aN aD bv aY rn kd nu tv), (zaI aS cS 901 fS9_105)] H := hP
        have hD : va_D A [(zo14irriiiiiirriirrrrlriiii m0 th aS aI im (nI a) sp9_119 (nI E) wg9_120 5 aB aT se dn aG aO aN aD bv aY rn kd nu tv), (zaI aS cS 901 fS9_105)] := hD
        have hK : va_K (dC, dI) vwCl [(cS, .int)] s := hK
        obtain ⟨rfl, rfl⟩ : _ ∧ _ := by rcases hw_118 with ⟨q, q2, _⟩ | ⟨_, q, _⟩; exact ⟨q, q2⟩; exact absurd q (by decide)
        refine lv_aload_n hx hb dX12_factor_101 rfl (lv_at hl 1 rfl) ?_
        refine lv_dup hx hb dX12_factor_102 rfl ?_
        refine va_get (D := (dC, dI)) (ci := 14) (v := .int 5) (C := RX12) (T := TX12) (N := 23) hx hb hts kc_factor4_0 hown hK hP 0 rfl rfl 8 (by decide) (hts (.fieldLink RX12 89 "MistHeapsModel" "open" "I") kc_factor4_2) (fun _ h9 => h9) rfl dX12_factor_103 ?_
        refine lv_iconst (v := 1) hx hb dX12_factor_106 (by decide) ?_
        refine lv_isub hx hb dX12_factor_107 ?_
        refine qi_as (y := 4) (by decide) ?_
        refine va_put (D := (dC, dI)) (ci := 14) (v := .int 4) (ty := .int) (C := RX12) (T := TX12) (N := 23) hx hb hts kc_factor4_0 tyX12 tyX12_ok nmX12 hown hK hP hD hS 0 rfl rfl 8 (by decide) (hts (.fieldLink RX12 89 "MistHeapsModel" "open" "I") kc_factor4_2) (fun _ h9 => h9) rfl (by decide +kernel) rfl rfl (Nat.le_of_ble_eq_true rfl) dX12_factor_108 (fun H locs hP hD hS => ?_)
        have hP : va_P (dC, dI) vwCl [(zo14irriiiiiirriirrrrlriiii m0 th aS aI im (nI a) (nI p_108) (nI E) 1 4 aB aT se dn aG aO aN aD bv aY rn kd nu tv), (zaI aS cS 901 fS9_105)] H := hP
        have hD : va_D A [(zo14irriiiiiirriirrrrlriiii m0 th aS aI im (nI a) (nI p_108) (nI E) 1 4 aB aT se dn aG aO aN aD bv aY rn kd nu tv), (zaI aS cS 901 fS9_105)] := hD
        rw [hQ]
        have hP9 := hP.sub (ws' := [(zo14irriiiiiirriirrrrlriiii m0 th aS aI im (nI a) (nI p_108) (nI E) 1 4 aB aT se dn aG aO aN aD bv aY rn kd nu tv), (zaI aS cS 901 fS9_105)]) [0, 1] rfl
        have hD9 := hD.sub (ws' := [(zo14irriiiiiirriirrrrlriiii m0 th aS aI im (nI a) (nI p_108) (nI E) 1 4 aB aT se dn aG aO aN aD bv aY rn kd nu tv), (zaI aS cS 901 fS9_105)]) [0, 1] (by decide) rfl
        have hK9 := hK.sub (tys' := [(cS, .int)]) [0] rfl
        exact W.vret hx hb hr (fun tQ htQ hWQ => ⟨⟨(fS9_105, (nI p_108), 1), rfl, ⟨p_108, rfl, by omega, by omega, (PF.rf).tr hF_113, Or.inl ⟨rfl, pf_b0 (l := 0) hs eP_110⟩⟩, by rw [htQ]; exact hP9, va_K.moved hWQ.alike hK9, hD9⟩, hS.F htQ⟩) hS.2.2 dX12_factor_111
      · skip
        have k5 := hI_115.2.2.2.2.1
        have hqL_109 : (K ++ L_109).length = K.length + L_109.length := List.length_append
        refine lv_aload_n hx hb dX12_factor_95 rfl (lv_at hl 1 rfl) ?_
        refine lv_bipush (v := 41) hx hb dX12_factor_96 (by decide) ?_
        have hPc := hP.sub (ws' := [(zo14irriiiiiirriirrrrlriiii m0 th aS aI im (nI a) (nI p_108) (nI E) 0 5 aB aT se dn aG aO aN aD bv aY rn kd nu tv), (zaI aS cS 901 fS9_105)]) [0, 1] rfl
        have hDc := hD.sub (ws' := [(zo14irriiiiiirriirrrrlriiii m0 th aS aI im (nI a) (nI p_108) (nI E) 0 5 aB aT se dn aG aO aN aD bv aY rn kd nu tv), (zaI aS cS 901 fS9_105)]) [0, 1] (by decide) rfl
        have hKc := hK.sub (tys' := [(cS, .int)]) [0] rfl
        have hFc := va_free (wc := [(zo14irriiiiiirriirrrrlriiii m0 th aS aI im (nI a) (nI p_108) (nI E) 0 5 aB aT se dn aG aO aN aD bv aY rn kd nu tv), (zaI aS cS 901 fS9_105)]) hD hS hA [0, 1] rfl
        refine va_callv (va_runV (As := [.int 41]) (rest := []) ⟨hx, hb, hml, hown, hts⟩ (c_must l dC dI m0 aS aI aB aT aG aO aN aD aY th im (nI a) (nI p_108) (nI E) 0 5 se dn rn kd nu tv bv cS fS9_105 a p_108 E 41 H.size (by omega) (by omega) (by omega) (Or.inl rfl) (by decide)) (cwV 1 hts gX12_factor_X12_must rfl rfl rfl hd_yX12_must ⟨Nat.le_of_ble_eq_true rfl, Nat.le_of_ble_eq_true rfl⟩) ⟨fun a U g mk q => by obtain ⟨q0, q1, qP, qK, qD⟩ := q; exact ⟨q0, mvz g mk a q1, mvP g mk a qP, mvK g mk a qK, qD⟩, va_recv hK hP (ci := 14) (q := (RX12, TX12, 23)) (q0 := 0) rfl rfl, fun U hU hW => ⟨rfl, by rw [hU], by rw [hU]; exact hPc, va_K.moved hW.alike hKc, hDc.weaken (fun _ _ _ _ => trivial)⟩⟩ rfl rfl hl.1 rfl (lv_room (Nat.le_of_ble_eq_true rfl)) dX12_factor_98 ⟨Nat.le_of_ble_eq_true rfl, Nat.le_of_ble_eq_true rfl⟩) hS (fun q _ h => hFc q h) hFc (fun u tC H1 locs htC hvm hw_122 hB hz1 hk1 hS => ?_)
        obtain ⟨sp9_123, wg9_124⟩ := u
        try dsimp only at hw_122 hB
        obtain ⟨hP1, hK1, hD1⟩ := hB
        rw [htC] at hP1
        have hK1 := va_K.moved hvm.symm hK1
        obtain ⟨hP, hD⟩ := va_join (wr := []) (w1 := [(zo14irriiiiiirriirrrrlriiii m0 th aS aI im (nI a) sp9_123 (nI E) wg9_124 5 aB aT se dn aG aO aN aD bv aY rn kd nu tv), (zaI aS cS 901 fS9_105)]) hP hD [0, 1] [] rfl rfl (by decide) (by decide) hk1 hFc hP1 hD1
        have hK := (hK.sub (tys' := []) [] rfl).app hK1
        generalize H1 = H at hP hS ⊢
        have hP : va_P (dC, dI) vwCl [(zo14irriiiiiirriirrrrlriiii m0 th aS aI im (nI a) sp9_123 (nI E) wg9_124 5 aB aT se dn aG aO aN aD bv aY rn kd nu tv), (zaI aS cS 901 fS9_105)] H := hP
        have hD : va_D A [(zo14irriiiiiirriirrrrlriiii m0 th aS aI im (nI a) sp9_123 (nI E) wg9_124 5 aB aT se dn aG aO aN aD bv aY rn kd nu tv), (zaI aS cS 901 fS9_105)] := hD
        have hK : va_K (dC, dI) vwCl [(cS, .int)] s := hK
        rcases hw_122 with ⟨rfl, rfl, h_125⟩ | ⟨rfl, _, h_125, h_126, rfl⟩
        · skip
          have hn41 : ¬ ss (p_108) = 41 := fun z => h_125 rfl ((((TP_PF gT gE ((PF.rf).tr hF_113))).eq (c := 41) (by omega) (by omega)).mpr z)
          refine lv_aload_n hx hb dX12_factor_101 rfl (lv_at hl 1 rfl) ?_
          refine lv_dup hx hb dX12_factor_102 rfl ?_
          refine va_get (D := (dC, dI)) (ci := 14) (v := .int 5) (C := RX12) (T := TX12) (N := 23) hx hb hts kc_factor4_0 hown hK hP 0 rfl rfl 8 (by decide) (hts (.fieldLink RX12 89 "MistHeapsModel" "open" "I") kc_factor4_2) (fun _ h9 => h9) rfl dX12_factor_103 ?_
          refine lv_iconst (v := 1) hx hb dX12_factor_106 (by decide) ?_
          refine lv_isub hx hb dX12_factor_107 ?_
          refine qi_as (y := 4) (by decide) ?_
          refine va_put (D := (dC, dI)) (ci := 14) (v := .int 4) (ty := .int) (C := RX12) (T := TX12) (N := 23) hx hb hts kc_factor4_0 tyX12 tyX12_ok nmX12 hown hK hP hD hS 0 rfl rfl 8 (by decide) (hts (.fieldLink RX12 89 "MistHeapsModel" "open" "I") kc_factor4_2) (fun _ h9 => h9) rfl (by decide +kernel) rfl rfl (Nat.le_of_ble_eq_true rfl) dX12_factor_108 (fun H locs hP hD hS => ?_)
          have hP : va_P (dC, dI) vwCl [(zo14irriiiiiirriirrrrlriiii m0 th aS aI im (nI a) (nI p_108) (nI E) 1 4 aB aT se dn aG aO aN aD bv aY rn kd nu tv), (zaI aS cS 901 fS9_105)] H := hP
          have hD : va_D A [(zo14irriiiiiirriirrrrlriiii m0 th aS aI im (nI a) (nI p_108) (nI E) 1 4 aB aT se dn aG aO aN aD bv aY rn kd nu tv), (zaI aS cS 901 fS9_105)] := hD
          rw [hQ]
          have hP9 := hP.sub (ws' := [(zo14irriiiiiirriirrrrlriiii m0 th aS aI im (nI a) (nI p_108) (nI E) 1 4 aB aT se dn aG aO aN aD bv aY rn kd nu tv), (zaI aS cS 901 fS9_105)]) [0, 1] rfl
          have hD9 := hD.sub (ws' := [(zo14irriiiiiirriirrrrlriiii m0 th aS aI im (nI a) (nI p_108) (nI E) 1 4 aB aT se dn aG aO aN aD bv aY rn kd nu tv), (zaI aS cS 901 fS9_105)]) [0, 1] (by decide) rfl
          have hK9 := hK.sub (tys' := [(cS, .int)]) [0] rfl
          exact W.vret hx hb hr (fun tQ htQ hWQ => ⟨⟨(fS9_105, (nI p_108), 1), rfl, ⟨p_108, rfl, by omega, by omega, (PF.rf).tr hF_113, Or.inl ⟨rfl, pf_b1 (l := 0) hs eP_110 hn41⟩⟩, by rw [htQ]; exact hP9, va_K.moved hWQ.alike hK9, hD9⟩, hS.F htQ⟩) hS.2.2 dX12_factor_111
        · skip
          have hs41 : ss (p_108) = 41 := (((TP_PF gT gE ((PF.rf).tr hF_113))).eq (c := 41) (by omega) (by omega)).mp h_125
          refine lv_aload_n hx hb dX12_factor_101 rfl (lv_at hl 1 rfl) ?_
          refine lv_dup hx hb dX12_factor_102 rfl ?_
          refine va_get (D := (dC, dI)) (ci := 14) (v := .int 5) (C := RX12) (T := TX12) (N := 23) hx hb hts kc_factor4_0 hown hK hP 0 rfl rfl 8 (by decide) (hts (.fieldLink RX12 89 "MistHeapsModel" "open" "I") kc_factor4_2) (fun _ h9 => h9) rfl dX12_factor_103 ?_
          refine lv_iconst (v := 1) hx hb dX12_factor_106 (by decide) ?_
          refine lv_isub hx hb dX12_factor_107 ?_
          refine qi_as (y := 4) (by decide) ?_
          refine va_put (D := (dC, dI)) (ci := 14) (v := .int 4) (ty := .int) (C := RX12) (T := TX12) (N := 23) hx hb hts kc_factor4_0 tyX12 tyX12_ok nmX12 hown hK hP hD hS 0 rfl rfl 8 (by decide) (hts (.fieldLink RX12 89 "MistHeapsModel" "open" "I") kc_factor4_2) (fun _ h9 => h9) rfl (by decide +kernel) rfl rfl (Nat.le_of_ble_eq_true rfl) dX12_factor_108 (fun H locs hP hD hS => ?_)
          have hP : va_P (dC, dI) vwCl [(zo14irriiiiiirriirrrrlriiii m0 th aS aI im (nI a) (nI (p_108 + 1)) (nI E) 0 4 aB aT se dn aG aO aN aD bv aY rn kd nu tv), (zaI aS cS 901 fS9_105)] H := hP
          have hD : va_D A [(zo14irriiiiiirriirrrrlriiii m0 th aS aI im (nI a) (nI (p_108 + 1)) (nI E) 0 4 aB aT se dn aG aO aN aD bv aY rn kd nu tv), (zaI aS cS 901 fS9_105)] := hD
          rw [hQ]
          have hP9 := hP.sub (ws' := [(zo14irriiiiiirriirrrrlriiii m0 th aS aI im (nI a) (nI (p_108 + 1)) (nI E) 0 4 aB aT se dn aG aO aN aD bv aY rn kd nu tv), (zaI aS cS 901 fS9_105)]) [0, 1] rfl
          have hD9 := hD.sub (ws' := [(zo14irriiiiiirriirrrrlriiii m0 th aS aI im (nI a) (nI (p_108 + 1)) (nI E) 0 4 aB aT se dn aG aO aN aD bv aY rn kd nu tv), (zaI aS cS 901 fS9_105)]) [0, 1] (by decide) rfl
          have hK9 := hK.sub (tys' := [(cS, .int)]) [0] rfl
          exact W.vret hx hb hr (fun tQ htQ hWQ => ⟨⟨(fS9_105, (nI (p_108 + 1)), 0), rfl, ⟨p_108 + 1, rfl, by omega, by omega, (PF.rf).tr hF_113, Or.inr ⟨rfl, L_109, pf_b2 (l := 0) hs eP_110 hs41, by omega, (hI_115).mono (by omega) (by omega), by (try simp only [List.length_append, List.length_cons, List.length_nil]); omega⟩⟩, by rw [htQ]; exact hP9, va_K.moved hWQ.alike hK9, hD9⟩, hS.F htQ⟩) hS.2.2 dX12_factor_111

theorem kc_every4_0 : ∀ w ∈ wsX120, w ∈ wsX12_every := fun w h => List.mem_cons_of_mem _ (gin_wsX120 w h)
theorem kc_every4_1 : (.fieldLink RX12 65 "MistHeapsModel" "isWrong" "Z" : Cond) ∈ wsX12_every := kc_of 1147 rfl rfl rfl
theorem kc_every4_2 : (.fieldLink RX12 59 "MistHeapsModel" "spot" "I" : Cond) ∈ wsX12_every := kc_of 1145 rfl rfl rfl
set_option maxHeartbeats 4000000 in
set_option maxRecDepth 100000 in
theorem c_every4 (l : Launch) (dC : Nat → ClassId) (dI : Nat → Nat → Nat) (sK sV : Nat → Nat) (m0 aS aI aB aT aG aO aN aD aY : Nat) (th im ac sp en wg op se dn rn kd nu tv : Int32) (bv : Int64) (cS : ClassId) (fS : Nat → Int32) (a p0 E : Nat) (K : List Nat) (d : Nat) (ss : Nat → Nat) (sz : Nat) (gI : PI fS a K d p0 E) (gT : TP fS E ss) : Met l yX12_every wsX12_every ({ frames := 9, cells := 0, slots := 0, locals := 195 } : Room) (va_Pc [.ref m0] (fun U => U.heap.size = sz ∧ va_P (dC, dI) vwCl [(zo14irriiiiiirriirrrrlriiii m0 th aS aI im (nI a) (nI p0) (nI E) 0 4 aB aT se dn aG aO aN aD bv aY rn kd nu tv), (zaI aS cS 901 fS)] U.heap ∧ va_K (dC, dI) vwCl [(cS, .int)] U ∧ va_D (fun _ => True) [(zo14irriiiiiirriirrrrlriiii m0 th aS aI im (nI a) (nI p0) (nI E) 0 4 aB aT se dn aG aO aN aD bv aY rn kd nu tv), (zaI aS cS 901 fS)] ∧ Gs sK sV (va_A [(zo14irriiiiiirriirrrrlriiii m0 th aS aI im (nI a) (nI p0) (nI E) 0 4 aB aT se dn aG aO aN aD bv aY rn kd nu tv), (zaI aS cS 901 fS)] sz) U)) (va_Qv (fun (u : (Nat → Int32) × (Int32) × (Int32)) => match u with | (fS9, sp9, wg9) => ∃ p9 : Nat, sp9 = nI p9 ∧ p0 ≤ p9 ∧ p9 ≤ E ∧ PF a fS fS9 ∧ ((wg9 = 1 ∧ pEv ss (pFac ss 1) p0 = (none, p9)) ∨ (wg9 = 0 ∧ ∃ L : List Nat, pEv ss (pFac ss 1) p0 = (some L, p9) ∧ p0 + 3 ≤ p9 ∧ PI fS9 a (K ++ L) (d + 1) p9 E ∧ L.length + p0 ≤ p9))) (fun (u : (Nat → Int32) × (Int32) × (Int32)) (t : State) => match u with | (fS9, sp9, wg9) => va_P (dC, dI) vwCl [(zo14irriiiiiirriirrrrlriiii m0 th aS aI im (nI a) sp9 (nI E) wg9 4 aB aT se dn aG aO aN aD bv aY rn kd nu tv), (zaI aS cS 901 fS9)] t.heap ∧ va_K (dC, dI) vwCl [(cS, .int)] t ∧ va_D (va_A [(zo14irriiiiiirriirrrrlriiii m0 th aS aI im (nI a) (nI p0) (nI E) 0 4 aB aT se dn aG aO aN aD bv aY rn kd nu tv), (zaI aS cS 901 fS)] sz) [(zo14irriiiiiirriirrrrlriiii m0 th aS aI im (nI a) sp9 (nI E) wg9 4 aB aT se dn aG aO aN aD bv aY rn kd nu tv), (zaI aS cS 901 fS9)]) (va_A [(zo14irriiiiiirriirrrrlriiii m0 th aS aI im (nI a) (nI p0) (nI E) 0 4 aB aT se dn aG aO aN aD bv aY rn kd nu tv), (zaI aS cS 901 fS)] sz)) 0 0 (va_A [(zo14irriiiiiirriirrrrlriiii m0 th aS aI im (nI a) (nI p0) (nI E) 0 4 aB aT se dn aG aO aN aD bv aY rn kd nu tv), (zaI aS cS 901 fS)] sz) := by
  refine met_ofQ (cc := cX12_every) (maxL := 1) (ret := none) (by decide) rfl ?_
  intro p e s m args below meth c s₁ Q B hml hv hQ
  obtain ⟨rfl, hsz, hP, hK, hD0, hE⟩ := hv
  have hx := B.exec
  have hb := B.bytes
  have hr := B.returns
  have hts := atoms_spec (ws := wsX12_every) B.pre
  have hown : s.vm.findClass RX12 = some m.cls := findClass_of_methodNamed B.named
  have hlocks := B.notSynchronized
  subst hsz
  have hD := hD0.self (sz := s.heap.size)
  generalize hAe : va_A [(zo14irriiiiiirriirrrrlriiii m0 th aS aI im (nI a) (nI p0) (nI E) 0 4 aB aT se dn aG aO aN aD bv aY rn kd nu tv), (zaI aS cS 901 fS)] s.heap.size = A at hD hQ hE ⊢
  have hA : ∀ q : Nat, s.heap.size ≤ q → A q := fun q h => by rw [← hAe]; exact Or.inr h
  have hS : va_S A s.heap s.heap [] := va_S.rf
  have hl := lv_entry [.ref m0] (n := 1) (Nat.le_of_ble_eq_true rfl)
  rw [lg_entry_eq]
  generalize (lg_sl [.ref m0] ++ List.replicate (1 - (lg_sl [.ref m0]).length) Slot.unset).toArray = ls at hl ⊢
  generalize hag : ([.ref m0] : List Value).toArray = args at hts hQ ⊢
  have hl : lv_has ls 1 [(0, .ref m0)] := hl
  obtain ⟨H, hH⟩ : ∃ H : Heap, H = s.heap := ⟨_, rfl⟩
  rw [← hH] at hP
  rw [← hH]
  have hS : va_S A s.heap H [] := by rw [hH]; exact hS
  obtain ⟨locs, hlo⟩ : ∃ L : List Loc, L = [] := ⟨_, rfl⟩
  rw [← hlo] at hS
  rw [← hlo]
  clear hH hlo
  obtain ⟨ga, gp, gE, zk, gkp, gd, gs, gcd⟩ := id gI
  refine lv_aload_n hx hb dX12_every_0 rfl (lv_at hl 0 rfl) ?_
  have hPc := hP.sub (ws' := [(zo14irriiiiiirriirrrrlriiii m0 th aS aI im (nI a) (nI p0) (nI E) 0 4 aB aT se dn aG aO aN aD bv aY rn kd nu tv), (zaI aS cS 901 fS)]) [0, 1] rfl
  have hDc := hD.sub (ws' := [(zo14irriiiiiirriirrrrlriiii m0 th aS aI im (nI a) (nI p0) (nI E) 0 4 aB aT se dn aG aO aN aD bv aY rn kd nu tv), (zaI aS cS 901 fS)]) [0, 1] (by decide) rfl
  have hKc := hK.sub (tys' := [(cS, .int)]) [0] rfl
  have hFc := va_free (wc := [(zo14irriiiiiirriirrrrlriiii m0 th aS aI im (nI a) (nI p0) (nI E) 0 4 aB aT se dn aG aO aN aD bv aY rn kd nu tv), (zaI aS cS 901 fS)]) hD hS hA [0, 1] rfl
  refine va_callv (va_runV (As := []) (rest := []) ⟨hx, hb, hml, hown, hts⟩ (c_factor4 l dC dI sK sV m0 aS aI aB aT aG aO aN aD aY th im (nI a) (nI p0) (nI E) 0 4 se dn rn kd nu tv bv cS fS a p0 E K d ss H.size ((gI).mono (by omega) (by omega)) (gT)) (cwV 0 hts gX12_every_X12_factor rfl rfl rfl hd_yX12_factor ⟨Nat.le_of_ble_eq_true rfl, Nat.le_of_ble_eq_true rfl⟩) ⟨fun a U g mk q => by obtain ⟨q0, q1, qP, qK, qD, qhE⟩ := q; exact ⟨q0, mvz g mk a q1, mvP g mk a qP, mvK g mk a qK, qD, qhE.mv g mk a⟩, va_recv hK hP (ci := 14) (q := (RX12, TX12, 23)) (q0 := 0) rfl rfl, fun U hU hW => ⟨rfl, by rw [hU], by rw [hU]; exact hPc, va_K.moved hW.alike hKc, hDc.weaken (fun _ _ _ _ => trivial), hE.call hS hU hW (fun q h => hFc q h)⟩⟩ rfl rfl hl.1 rfl (lv_room (Nat.le_of_ble_eq_true rfl)) dX12_every_1 ⟨Nat.le_of_ble_eq_true rfl, Nat.le_of_ble_eq_true rfl⟩) hS (fun q _ h => hFc q h) hFc (fun u tC H1 locs htC hvm hw_2 hB hz1 hk1 hS => ?_)
  obtain ⟨fS9_3, sp9_4, wg9_5⟩ := u
  try dsimp only at hw_2 hB
  obtain ⟨hP1, hK1, hD1⟩ := hB
  rw [htC] at hP1
  have hK1 := va_K.moved hvm.symm hK1
  obtain ⟨hP, hD⟩ := va_join (wr := []) (w1 := [(zo14irriiiiiirriirrrrlriiii m0 th aS aI im (nI a) sp9_4 (nI E) wg9_5 4 aB aT se dn aG aO aN aD bv aY rn kd nu tv), (zaI aS cS 901 fS9_3)]) hP hD [0, 1] [] rfl rfl (by decide) (by decide) hk1 hFc hP1 hD1
  have hK := (hK.sub (tys' := []) [] rfl).app hK1
  generalize H1 = H at hP hS ⊢
  have hP : va_P (dC, dI) vwCl [(zo14irriiiiiirriirrrrlriiii m0 th aS aI im (nI a) sp9_4 (nI E) wg9_5 4 aB aT se dn aG aO aN aD bv aY rn kd nu tv), (zaI aS cS 901 fS9_3)] H := hP
  have hD : va_D A [(zo14irriiiiiirriirrrrlriiii m0 th aS aI im (nI a) sp9_4 (nI E) wg9_5 4 aB aT se dn aG aO aN aD bv aY rn kd nu tv), (zaI aS cS 901 fS9_3)] := hD
  have hK : va_K (dC, dI) vwCl [(cS, .int)] s := hK
  obtain ⟨p_6, rfl, h_9, h_10, hF_11, q9⟩ := hw_2
  rcases q9 with ⟨rfl, eP_8⟩ | ⟨rfl, L_7, eP_8, h_12, hI_13, h_14⟩
  · skip
    have L4 : ∀ (nF : Nat) (p1 : Nat) (L1 : List Nat) (m1 : Nat) (w1 : Int32) (f1 : Nat → Int32), E - p1 < nF → (p0 ≤ p1 ∧ p1 ≤ E) → (PF a fS f1) → ((w1 = 1 ∧ pEv ss (pFac ss 1) p0 = (none, p1)) ∨ (w1 = 0 ∧ pEv ss (pFac ss 1) p0 = pSep ss 38 1802 (pFac ss 1) m1 (some L1, p1) ∧ 101 ≤ m1 + p1 ∧ p0 + 3 ≤ p1 ∧ PI f1 a (K ++ L1) (d + 1) p1 E ∧ L1.length + p0 ≤ p1)) → ∀ (H : Heap) (locs : List Loc), va_K (dC, dI) vwCl [(cS, .int)] s → va_P (dC, dI) vwCl [(zo14irriiiiiirriirrrrlriiii m0 th aS aI im (nI a) (nI p1) (nI E) w1 4 aB aT se dn aG aO aN aD bv aY rn kd nu tv), (zaI aS cS 901 f1)] H → va_D A [(zo14irriiiiiirriirrrrlriiii m0 th aS aI im (nI a) (nI p1) (nI E) w1 4 aB aT se dn aG aO aN aD bv aY rn kd nu tv), (zaI aS cS 901 f1)] → va_S A s.heap H locs → ∀ (ls : Array Slot), lv_has ls 1 [(0, .ref m0)] → W p l e ({ frames := 9, cells := 0, slots := 0, locals := 195 } : Room) s m args below meth c H locs 0 0 Q (F0 m 4 ls []) := by
      intro nF
      induction nF with
      | zero => intro p1 L1 m1 w1 f1 hm; exact absurd hm (Nat.not_lt_zero _)
      | succ nF ih4 =>
        intro p1 L1 m1 w1 f1 hm h1 hF hw1 H locs hK hP hD hS ls hl
        obtain ⟨h1a, h1b⟩ := h1
        rcases hw1 with ⟨rfl, hE9⟩ | ⟨rfl, hE9, hm9, h3, hI, h4⟩
        · skip
          refine lv_aload_n hx hb dX12_every_4 rfl (lv_at hl 0 rfl) ?_
          refine va_get (D := (dC, dI)) (ci := 14) (v := .int 1) (C := RX12) (T := TX12) (N := 23) hx hb hts kc_every4_0 hown hK hP 0 rfl rfl 7 (by decide) (hts (.fieldLink RX12 65 "MistHeapsModel" "isWrong" "Z") kc_every4_1) (fun _ h9 => h9) rfl dX12_every_5 ?_
          refine lv_if_ne (tgt := 43) hx hb dX12_every_8 (by decide) (fun _ => ?_) (fun c_15 => absurd c_15 (by decide))
          rw [hQ]
          have hP9 := hP.sub (ws' := [(zo14irriiiiiirriirrrrlriiii m0 th aS aI im (nI a) (nI p1) (nI E) 1 4 aB aT se dn aG aO aN aD bv aY rn kd nu tv), (zaI aS cS 901 f1)]) [0, 1] rfl
          have hD9 := hD.sub (ws' := [(zo14irriiiiiirriirrrrlriiii m0 th aS aI im (nI a) (nI p1) (nI E) 1 4 aB aT se dn aG aO aN aD bv aY rn kd nu tv), (zaI aS cS 901 f1)]) [0, 1] (by decide) rfl
          have hK9 := hK.sub (tys' := [(cS, .int)]) [0] rfl
          exact W.vret hx hb hr (fun tQ htQ hWQ => ⟨⟨(f1, (nI p1), 1), rfl, ⟨p1, rfl, by omega, by omega, hF, Or.inl ⟨rfl, hE9⟩⟩, by rw [htQ]; exact hP9, va_K.moved hWQ.alike hK9, hD9⟩, hS.F htQ⟩) hS.2.2 dX12_every_43
        · skip
          have k5 := hI.2.2.2.2.1
          have hq1 : (K ++ L1).length = K.length + L1.length := List.length_append
          refine lv_aload_n hx hb dX12_every_4 rfl (lv_at hl 0 rfl) ?_
          refine va_get (D := (dC, dI)) (ci := 14) (v := .int 0) (C := RX12) (T := TX12) (N := 23) hx hb hts kc_every4_0 hown hK hP 0 rfl rfl 7 (by decide) (hts (.fieldLink RX12 65 "MistHeapsModel" "isWrong" "Z") kc_every4_1) (fun _ h9 => h9) rfl dX12_every_5 ?_
          refine lv_if_ne (tgt := 43) hx hb dX12_every_8 (by decide) (fun c_16 => absurd c_16 (by decide)) (fun _ => ?_)
          refine lv_aload_n hx hb dX12_every_11 rfl (lv_at hl 0 rfl) ?_
          have hPc := hP.sub (ws' := [(zo14irriiiiiirriirrrrlriiii m0 th aS aI im (nI a) (nI p1) (nI E) 0 4 aB aT se dn aG aO aN aD bv aY rn kd nu tv), (zaI aS cS 901 f1)]) [0, 1] rfl
          have hKc := hK.sub (tys' := [(cS, .int)]) [0] rfl
          refine vp_callSi (va_runV (As := []) (rest := []) ⟨hx, hb, hml, hown, hts⟩ (c_here l dC dI m0 aS aI aB aT aG aO aN aD aY th im (nI a) (nI p1) (nI E) 0 4 se dn rn kd nu tv bv cS f1 a p1 E (by omega) (by omega) (by omega)) (cwV 0 hts gX12_every_X12_here rfl rfl rfl hd_yX12_here ⟨Nat.le_of_ble_eq_true rfl, Nat.le_of_ble_eq_true rfl⟩) ⟨fun a U g mk q => by obtain ⟨q0, qP, qK⟩ := q; exact ⟨q0, mvP g mk a qP, mvK g mk a qK⟩, va_recv hK hP (ci := 14) (q := (RX12, TX12, 23)) (q0 := 0) rfl rfl, fun U hU hW => ⟨rfl, by rw [hU]; exact hPc, va_K.moved hW.alike hKc⟩⟩ rfl rfl hl.1 rfl (lv_room (Nat.le_of_ble_eq_true rfl)) dX12_every_12 ⟨Nat.le_of_ble_eq_true rfl, Nat.le_of_ble_eq_true rfl⟩).run (fun r_17 hw_18 => ?_)
          refine lv_bipush (v := 38) hx hb dX12_every_15 (by decide) ?_
          refine lv_icmp_ne (tgt := 43) hx hb dX12_every_17 (by decide) (fun c_19 => ?_) (fun c_19 => ?_)
          · skip
            have hn9 : ¬ ss p1 = 38 := fun z => c_19 (by rw [hw_18]; exact ((TP_PF gT gE hF).eq (c := 38) (by omega) (by omega)).mpr z)
            rw [hQ]
            have hP9 := hP.sub (ws' := [(zo14irriiiiiirriirrrrlriiii m0 th aS aI im (nI a) (nI p1) (nI E) 0 4 aB aT se dn aG aO aN aD bv aY rn kd nu tv), (zaI aS cS 901 f1)]) [0, 1] rfl
            have hD9 := hD.sub (ws' := [(zo14irriiiiiirriirrrrlriiii m0 th aS aI im (nI a) (nI p1) (nI E) 0 4 aB aT se dn aG aO aN aD bv aY rn kd nu tv), (zaI aS cS 901 f1)]) [0, 1] (by decide) rfl
            have hK9 := hK.sub (tys' := [(cS, .int)]) [0] rfl
            exact W.vret hx hb hr (fun tQ htQ hWQ => ⟨⟨(f1, (nI p1), 0), rfl, ⟨p1, rfl, by omega, by omega, hF, Or.inr ⟨rfl, L1, hE9.trans (ps_end hn9), by omega, hI, by (try simp only [List.length_append, List.length_cons, List.length_nil]); omega⟩⟩, by rw [htQ]; exact hP9, va_K.moved hWQ.alike hK9, hD9⟩, hS.F htQ⟩) hS.2.2 dX12_every_43
          · skip
            have hs9 : ss p1 = 38 := ((TP_PF gT gE hF).eq (c := 38) (by omega) (by omega)).mp (by rw [← hw_18, c_19]; rfl)
            have hlt : p1 < E := Nat.lt_of_not_le (fun z => by have := gT.2.1 p1 z; omega)
            obtain ⟨m2, rfl⟩ : ∃ q : Nat, m1 = q + 1 := ⟨m1 - 1, by omega⟩
            refine lv_aload_n hx hb dX12_every_20 rfl (lv_at hl 0 rfl) ?_
            refine lv_dup hx hb dX12_every_21 rfl ?_
            refine va_get (D := (dC, dI)) (ci := 14) (v := .int (nI p1)) (C := RX12) (T := TX12) (N := 23) hx hb hts kc_every4_0 hown hK hP 0 rfl rfl 5 (by decide) (hts (.fieldLink RX12 59 "MistHeapsModel" "spot" "I") kc_every4_2) (fun _ h9 => h9) rfl dX12_every_22 ?_
            refine lv_iconst (v := 1) hx hb dX12_every_25 (by decide) ?_
            refine lv_iadd hx hb dX12_every_26 ?_
            refine qi_as (y := nI (p1 + 1)) (nI_add p1 1) ?_
            refine va_put (D := (dC, dI)) (ci := 14) (v := .int (nI (p1 + 1))) (ty := .int) (C := RX12) (T := TX12) (N := 23) hx hb hts kc_every4_0 tyX12 tyX12_ok nmX12 hown hK hP hD hS 0 rfl rfl 5 (by decide) (hts (.fieldLink RX12 59 "MistHeapsModel" "spot" "I") kc_every4_2) (fun _ h9 => h9) rfl (by decide +kernel) rfl rfl (Nat.le_of_ble_eq_true rfl) dX12_every_27 (fun H locs hP hD hS => ?_)
            have hP : va_P (dC, dI) vwCl [(zo14irriiiiiirriirrrrlriiii m0 th aS aI im (nI a) (nI (p1 + 1)) (nI E) 0 4 aB aT se dn aG aO aN aD bv aY rn kd nu tv), (zaI aS cS 901 f1)] H := hP
            have hD : va_D A [(zo14irriiiiiirriirrrrlriiii m0 th aS aI im (nI a) (nI (p1 + 1)) (nI E) 0 4 aB aT se dn aG aO aN aD bv aY rn kd nu tv), (zaI aS cS 901 f1)] := hD
            refine lv_aload_n hx hb dX12_every_30 rfl (lv_at hl 0 rfl) ?_
            have hPc := hP.sub (ws' := [(zo14irriiiiiirriirrrrlriiii m0 th aS aI im (nI a) (nI (p1 + 1)) (nI E) 0 4 aB aT se dn aG aO aN aD bv aY rn kd nu tv), (zaI aS cS 901 f1)]) [0, 1] rfl
            have hDc := hD.sub (ws' := [(zo14irriiiiiirriirrrrlriiii m0 th aS aI im (nI a) (nI (p1 + 1)) (nI E) 0 4 aB aT se dn aG aO aN aD bv aY rn kd nu tv), (zaI aS cS 901 f1)]) [0, 1] (by decide) rfl
            have hKc := hK.sub (tys' := [(cS, .int)]) [0] rfl
            have hFc := va_free (wc := [(zo14irriiiiiirriirrrrlriiii m0 th aS aI im (nI a) (nI (p1 + 1)) (nI E) 0 4 aB aT se dn aG aO aN aD bv aY rn kd nu tv), (zaI aS cS 901 f1)]) hD hS hA [0, 1] rfl
            refine va_callv (va_runV (As := []) (rest := []) ⟨hx, hb, hml, hown, hts⟩ (c_factor4 l dC dI sK sV m0 aS aI aB aT aG aO aN aD aY th im (nI a) (nI (p1 + 1)) (nI E) 0 4 se dn rn kd nu tv bv cS f1 a (p1 + 1) E (K ++ L1) (d + 1) ss H.size ((hI).mono (by omega) (by omega)) ((TP_PF gT gE (hF)))) (cwV 0 hts gX12_every_X12_factor rfl rfl rfl hd_yX12_factor ⟨Nat.le_of_ble_eq_true rfl, Nat.le_of_ble_eq_true rfl⟩) ⟨fun a U g mk q => by obtain ⟨q0, q1, qP, qK, qD, qhE⟩ := q; exact ⟨q0, mvz g mk a q1, mvP g mk a qP, mvK g mk a qK, qD, qhE.mv g mk a⟩, va_recv hK hP (ci := 14) (q := (RX12, TX12, 23)) (q0 := 0) rfl rfl, fun U hU hW => ⟨rfl, by rw [hU], by rw [hU]; exact hPc, va_K.moved hW.alike hKc, hDc.weaken (fun _ _ _ _ => trivial), hE.call hS hU hW (fun q h => hFc q h)⟩⟩ rfl rfl hl.1 rfl (lv_room (Nat.le_of_ble_eq_true rfl)) dX12_every_31 ⟨Nat.le_of_ble_eq_true rfl, Nat.le_of_ble_eq_true rfl⟩) hS (fun q _ h => hFc q h) hFc (fun u tC H1 locs htC hvm hw_21 hB hz1 hk1 hS => ?_)
            obtain ⟨fS9_22, sp9_23, wg9_24⟩ := u
            try dsimp only at hw_21 hB
            obtain ⟨hP1, hK1, hD1⟩ := hB
            rw [htC] at hP1
            have hK1 := va_K.moved hvm.symm hK1
            obtain ⟨hP, hD⟩ := va_join (wr := []) (w1 := [(zo14irriiiiiirriirrrrlriiii m0 th aS aI im (nI a) sp9_23 (nI E) wg9_24 4 aB aT se dn aG aO aN aD bv aY rn kd nu tv), (zaI aS cS 901 fS9_22)]) hP hD [0, 1] [] rfl rfl (by decide) (by decide) hk1 hFc hP1 hD1
            have hK := (hK.sub (tys' := []) [] rfl).app hK1
            generalize H1 = H at hP hS ⊢
            have hP : va_P (dC, dI) vwCl [(zo14irriiiiiirriirrrrlriiii m0 th aS aI im (nI a) sp9_23 (nI E) wg9_24 4 aB aT se dn aG aO aN aD bv aY rn kd nu tv), (zaI aS cS 901 fS9_22)] H := hP
            have hD : va_D A [(zo14irriiiiiirriirrrrlriiii m0 th aS aI im (nI a) sp9_23 (nI E) wg9_24 4 aB aT se dn aG aO aN aD bv aY rn kd nu tv), (zaI aS cS 901 fS9_22)] := hD
            have hK : va_K (dC, dI) vwCl [(cS, .int)] s := hK
            obtain ⟨p_25, rfl, h_28, h_29, hF_30, q9⟩ := hw_21
            rcases q9 with ⟨rfl, eP_27⟩ | ⟨rfl, L_26, eP_27, h_31, hI_32, h_33⟩
            · skip
              refine lv_aload_n hx hb dX12_every_34 rfl (lv_at hl 0 rfl) ?_
              refine lv_bipush (v := (-2)) hx hb dX12_every_35 (by decide) ?_
              have hPc := hP.sub (ws' := [(zo14irriiiiiirriirrrrlriiii m0 th aS aI im (nI a) (nI p_25) (nI E) 1 4 aB aT se dn aG aO aN aD bv aY rn kd nu tv)]) [0] rfl
              have hKc := hK.sub (tys' := []) [] rfl
              refine va_csv (va_runV (As := [.int (-2)]) (rest := []) ⟨hx, hb, hml, hown, hts⟩ (c_emitsW l dC dI m0 aS aI aB aT aG aO aN aD aY th im (nI a) (nI p_25) (nI E) 1 4 se dn rn kd nu tv bv (-2)) (cwV 1 hts gX12_every_X12_emits rfl rfl rfl hd_yX12_emits ⟨Nat.le_of_ble_eq_true rfl, Nat.le_of_ble_eq_true rfl⟩) ⟨fun a U g mk q => by obtain ⟨q0, qP, qK⟩ := q; exact ⟨q0, mvP g mk a qP, mvK g mk a qK⟩, va_recv hK hP (ci := 14) (q := (RX12, TX12, 23)) (q0 := 0) rfl rfl, fun U hU hW => ⟨rfl, by rw [hU]; exact hPc, va_K.moved hW.alike hKc⟩⟩ rfl rfl hl.1 rfl (lv_room (Nat.le_of_ble_eq_true rfl)) dX12_every_37 ⟨Nat.le_of_ble_eq_true rfl, Nat.le_of_ble_eq_true rfl⟩).run (fun hw_35 => ?_)
              refine lv_goto (tgt := 4) hx hb dX12_every_40 (by decide) ?_
              exact ih4 (p_25) ([]) (0) (1) (fS9_22) (by omega) (by omega) ((hF).tr hF_30) (Or.inl ⟨rfl, hE9.trans (ps_bad hs9 eP_27)⟩) _ _ (hK.sub [0] rfl) (hP.sub [0, 1] rfl) (hD.sub [0, 1] (by decide) rfl) hS ls (lv_sub hl [0] rfl)
            · skip
              have k5 := hI_32.2.2.2.2.1
              have hqL_26 : ((K ++ L1) ++ L_26).length = (K ++ L1).length + L_26.length := List.length_append
              refine lv_aload_n hx hb dX12_every_34 rfl (lv_at hl 0 rfl) ?_
              refine lv_bipush (v := (-2)) hx hb dX12_every_35 (by decide) ?_
              have hPc := hP.sub (ws' := [(zo14irriiiiiirriirrrrlriiii m0 th aS aI im (nI a) (nI p_25) (nI E) 0 4 aB aT se dn aG aO aN aD bv aY rn kd nu tv), (zaI aS cS 901 fS9_22)]) [0, 1] rfl
              have hDc := hD.sub (ws' := [(zo14irriiiiiirriirrrrlriiii m0 th aS aI im (nI a) (nI p_25) (nI E) 0 4 aB aT se dn aG aO aN aD bv aY rn kd nu tv), (zaI aS cS 901 fS9_22)]) [0, 1] (by decide) rfl
              have hKc := hK.sub (tys' := [(cS, .int)]) [0] rfl
              have hFc := va_free (wc := [(zo14irriiiiiirriirrrrlriiii m0 th aS aI im (nI a) (nI p_25) (nI E) 0 4 aB aT se dn aG aO aN aD bv aY rn kd nu tv), (zaI aS cS 901 fS9_22)]) hD hS hA [0, 1] rfl
              refine va_callv (va_runV (As := [.int (-2)]) (rest := []) ⟨hx, hb, hml, hown, hts⟩ (c_emits l dC dI m0 aS aI aB aT aG aO aN aD aY th im (nI a) (nI p_25) (nI E) 0 4 se dn rn kd nu tv bv cS fS9_22 a ((K ++ L1) ++ L_26).length (-2) H.size (ga) ((hI_32).2.2.2.1) (by have := (hI_32).2.2.2.2.1; omega)) (cwV 1 hts gX12_every_X12_emits rfl rfl rfl hd_yX12_emits ⟨Nat.le_of_ble_eq_true rfl, Nat.le_of_ble_eq_true rfl⟩) ⟨fun a U g mk q => by obtain ⟨q0, q1, qP, qK, qD⟩ := q; exact ⟨q0, mvz g mk a q1, mvP g mk a qP, mvK g mk a qK, qD⟩, va_recv hK hP (ci := 14) (q := (RX12, TX12, 23)) (q0 := 0) rfl rfl, fun U hU hW => ⟨rfl, by rw [hU], by rw [hU]; exact hPc, va_K.moved hW.alike hKc, hDc.weaken (fun _ _ _ _ => trivial)⟩⟩ rfl rfl hl.1 rfl (lv_room (Nat.le_of_ble_eq_true rfl)) dX12_every_37 ⟨Nat.le_of_ble_eq_true rfl, Nat.le_of_ble_eq_true rfl⟩) hS (fun q _ h => hFc q h) hFc (fun u tC H1 locs htC hvm hw_37 hB hz1 hk1 hS => ?_)
              obtain ⟨fS9_38, rfl⟩ : ∃ z, z = u := ⟨_, rfl⟩
              try dsimp only at hw_37 hB
              obtain ⟨hP1, hK1, hD1⟩ := hB
              rw [htC] at hP1
              have hK1 := va_K.moved hvm.symm hK1
              obtain ⟨hP, hD⟩ := va_join (wr := []) (w1 := [(zo14irriiiiiirriirrrrlriiii m0 th aS aI im (nI a) (nI p_25) (nI E) 0 4 aB aT se dn aG aO aN aD bv aY rn kd nu tv), (zaI aS cS 901 fS9_38)]) hP hD [0, 1] [] rfl rfl (by decide) (by decide) hk1 hFc hP1 hD1
              have hK := (hK.sub (tys' := []) [] rfl).app hK1
              generalize H1 = H at hP hS ⊢
              have hP : va_P (dC, dI) vwCl [(zo14irriiiiiirriirrrrlriiii m0 th aS aI im (nI a) (nI p_25) (nI E) 0 4 aB aT se dn aG aO aN aD bv aY rn kd nu tv), (zaI aS cS 901 fS9_38)] H := hP
              have hD : va_D A [(zo14irriiiiiirriirrrrlriiii m0 th aS aI im (nI a) (nI p_25) (nI E) 0 4 aB aT se dn aG aO aN aD bv aY rn kd nu tv), (zaI aS cS 901 fS9_38)] := hD
              have hK : va_K (dC, dI) vwCl [(cS, .int)] s := hK
              obtain rfl : fS9_38 = emt fS9_22 a ((K ++ L1) ++ L_26).length (-2) := by rcases hw_37 with ⟨q, _⟩ | ⟨_, q⟩; exact absurd rfl q; exact q
              have hI_39 : PI (emt fS9_22 a ((K ++ L1) ++ L_26).length (-2)) a (((K ++ L1) ++ L_26) ++ [1802]) (((d + 1) + 1) - 1) p_25 E := PI.em (t := 1802) ((hI_32).mono (by omega) (by omega)) (by omega) (by omega) (stepd_both (by omega)) (by decide)
              have hF_40 : PF a fS (emt fS9_22 a ((K ++ L1) ++ L_26).length (-2)) := ((hF).tr hF_30).tr (PF_emt (k := ((K ++ L1) ++ L_26).length) (x := (-2)) ga (by have := (hI_32).2.2.2.2.1; omega))
              have hKhI_39 : (((K ++ L1) ++ L_26) ++ [1802]).length = ((K ++ L1) ++ L_26).length + 1 := by rw [List.length_append]; rfl
              refine lv_goto (tgt := 4) hx hb dX12_every_40 (by decide) ?_
              exact ih4 (p_25) (L1 ++ (L_26 ++ [1802])) (m2) (0) (emt fS9_22 a ((K ++ L1) ++ L_26).length (-2)) (by omega) (by omega) (hF_40) (Or.inr ⟨rfl, hE9.trans (ps_go hs9 eP_27), by omega, by omega, PI.as (PI.as hI_39), by simp only [List.length_append, List.length_cons, List.length_nil]; omega⟩) _ _ (hK.sub [0] rfl) (hP.sub [0, 1] rfl) (hD.sub [0, 1] (by decide) rfl) hS ls (lv_sub hl [0] rfl)
    exact L4 _ (p_6) ([]) (0) (1) (fS9_3) (Nat.lt_succ_self _) (by omega) ((PF.rf).tr hF_11) (Or.inl ⟨rfl, pEv_n eP_8⟩) _ _ (hK.sub [0] rfl) (hP.sub [0, 1] rfl) (hD.sub [0, 1] (by decide) rfl) hS ls (lv_sub hl [0] rfl)
  · skip
    have k5 := hI_13.2.2.2.2.1
    have hqL_7 : (K ++ L_7).length = K.length + L_7.length := List.length_append
    have L4 : ∀ (nF : Nat) (p1 : Nat) (L1 : List Nat) (m1 : Nat) (w1 : Int32) (f1 : Nat → Int32), E - p1 < nF → (p0 ≤ p1 ∧ p1 ≤ E) → (PF a fS f1) → ((w1 = 1 ∧ pEv ss (pFac ss 1) p0 = (none, p1)) ∨ (w1 = 0 ∧ pEv ss (pFac ss 1) p0 = pSep ss 38 1802 (pFac ss 1) m1 (some L1, p1) ∧ 101 ≤ m1 + p1 ∧ p0 + 3 ≤ p1 ∧ PI f1 a (K ++ L1) (d + 1) p1 E ∧ L1.length + p0 ≤ p1)) → ∀ (H : Heap) (locs : List Loc), va_K (dC, dI) vwCl [(cS, .int)] s → va_P (dC, dI) vwCl [(zo14irriiiiiirriirrrrlriiii m0 th aS aI im (nI a) (nI p1) (nI E) w1 4 aB aT se dn aG aO aN aD bv aY rn kd nu tv), (zaI aS cS 901 f1)] H → va_D A [(zo14irriiiiiirriirrrrlriiii m0 th aS aI im (nI a) (nI p1) (nI E) w1 4 aB aT se dn aG aO aN aD bv aY rn kd nu tv), (zaI aS cS 901 f1)] → va_S A s.heap H locs → ∀ (ls : Array Slot), lv_has ls 1 [(0, .ref m0)] → W p l e ({ frames := 9, cells := 0, slots := 0, locals := 195 } : Room) s m args below meth c H locs 0 0 Q (F0 m 4 ls []) := by
      intro nF
      induction nF with
      | zero => intro p1 L1 m1 w1 f1 hm; exact absurd hm (Nat.not_lt_zero _)
      | succ nF ih4 =>
        intro p1 L1 m1 w1 f1 hm h1 hF hw1 H locs hK hP hD hS ls hl
        obtain ⟨h1a, h1b⟩ := h1
        rcases hw1 with ⟨rfl, hE9⟩ | ⟨rfl, hE9, hm9, h3, hI, h4⟩
        · skip
          refine lv_aload_n hx hb dX12_every_4 rfl (lv_at hl 0 rfl) ?_
          refine va_get (D := (dC, dI)) (ci := 14) (v := .int 1) (C := RX12) (T := TX12) (N := 23) hx hb hts kc_every4_0 hown hK hP 0 rfl rfl 7 (by decide) (hts (.fieldLink RX12 65 "MistHeapsModel" "isWrong" "Z") kc_every4_1) (fun _ h9 => h9) rfl dX12_every_5 ?_
          refine lv_if_ne (tgt := 43) hx hb dX12_every_8 (by decide) (fun _ => ?_) (fun c_41 => absurd c_41 (by decide))
          rw [hQ]
          have hP9 := hP.sub (ws' := [(zo14irriiiiiirriirrrrlriiii m0 th aS aI im (nI a) (nI p1) (nI E) 1 4 aB aT se dn aG aO aN aD bv aY rn kd nu tv), (zaI aS cS 901 f1)]) [0, 1] rfl
          have hD9 := hD.sub (ws' := [(zo14irriiiiiirriirrrrlriiii m0 th aS aI im (nI a) (nI p1) (nI E) 1 4 aB aT se dn aG aO aN aD bv aY rn kd nu tv), (zaI aS cS 901 f1)]) [0, 1] (by decide) rfl
          have hK9 := hK.sub (tys' := [(cS, .int)]) [0] rfl
          exact W.vret hx hb hr (fun tQ htQ hWQ => ⟨⟨(f1, (nI p1), 1), rfl, ⟨p1, rfl, by omega, by omega, hF, Or.inl ⟨rfl, hE9⟩⟩, by rw [htQ]; exact hP9, va_K.moved hWQ.alike hK9, hD9⟩, hS.F htQ⟩) hS.2.2 dX12_every_43
        · skip
          have k5 := hI.2.2.2.2.1
          have hq1 : (K ++ L1).length = K.length + L1.length := List.length_append
          refine lv_aload_n hx hb dX12_every_4 rfl (lv_at hl 0 rfl) ?_
          refine va_get (D := (dC, dI)) (ci := 14) (v := .int 0) (C := RX12) (T := TX12) (N := 23) hx hb hts kc_every4_0 hown hK hP 0 rfl rfl 7 (by decide) (hts (.fieldLink RX12 65 "MistHeapsModel" "isWrong" "Z") kc_every4_1) (fun _ h9 => h9) rfl dX12_every_5 ?_
          refine lv_if_ne (tgt := 43) hx hb dX12_every_8 (by decide) (fun c_42 => absurd c_42 (by decide)) (fun _ => ?_)
          refine lv_aload_n hx hb dX12_every_11 rfl (lv_at hl 0 rfl) ?_
          have hPc := hP.sub (ws' := [(zo14irriiiiiirriirrrrlriiii m0 th aS aI im (nI a) (nI p1) (nI E) 0 4 aB aT se dn aG aO aN aD bv aY rn kd nu tv), (zaI aS cS 901 f1)]) [0, 1] rfl
          have hKc := hK.sub (tys' := [(cS, .int)]) [0] rfl
          refine vp_callSi (va_runV (As := []) (rest := []) ⟨hx, hb, hml, hown, hts⟩ (c_here l dC dI m0 aS aI aB aT aG aO aN aD aY th im (nI a) (nI p1) (nI E) 0 4 se dn rn kd nu tv bv cS f1 a p1 E (by omega) (by omega) (by omega)) (cwV 0 hts gX12_every_X12_here rfl rfl rfl hd_yX12_here ⟨Nat.le_of_ble_eq_true rfl, Nat.le_of_ble_eq_true rfl⟩) ⟨fun a U g mk q => by obtain ⟨q0, qP, qK⟩ := q; exact ⟨q0, mvP g mk a qP, mvK g mk a qK⟩, va_recv hK hP (ci := 14) (q := (RX12, TX12, 23)) (q0 := 0) rfl rfl, fun U hU hW => ⟨rfl, by rw [hU]; exact hPc, va_K.moved hW.alike hKc⟩⟩ rfl rfl hl.1 rfl (lv_room (Nat.le_of_ble_eq_true rfl)) dX12_every_12 ⟨Nat.le_of_ble_eq_true rfl, Nat.le_of_ble_eq_true rfl⟩).run (fun r_43 hw_44 => ?_)
          refine lv_bipush (v := 38) hx hb dX12_every_15 (by decide) ?_
          refine lv_icmp_ne (tgt := 43) hx hb dX12_every_17 (by decide) (fun c_45 => ?_) (fun c_45 => ?_)
          · skip
            have hn9 : ¬ ss p1 = 38 := fun z => c_45 (by rw [hw_44]; exact ((TP_PF gT gE hF).eq (c := 38) (by omega) (by omega)).mpr z)
            rw [hQ]
            have hP9 := hP.sub (ws' := [(zo14irriiiiiirriirrrrlriiii m0 th aS aI im (nI a) (nI p1) (nI E) 0 4 aB aT se dn aG aO aN aD bv aY rn kd nu tv), (zaI aS cS 901 f1)]) [0, 1] rfl
            have hD9 := hD.sub (ws' := [(zo14irriiiiiirriirrrrlriiii m0 th aS aI im (nI a) (nI p1) (nI E) 0 4 aB aT se dn aG aO aN aD bv aY rn kd nu tv), (zaI aS cS 901 f1)]) [0, 1] (by decide) rfl
            have hK9 := hK.sub (tys' := [(cS, .int)]) [0] rfl
            exact W.vret hx hb hr (fun tQ htQ hWQ => ⟨⟨(f1, (nI p1), 0), rfl, ⟨p1, rfl, by omega, by omega, hF, Or.inr ⟨rfl, L1, hE9.trans (ps_end hn9), by omega, hI, by (try simp only [List.length_append, List.length_cons, List.length_nil]); omega⟩⟩, by rw [htQ]; exact hP9, va_K.moved hWQ.alike hK9, hD9⟩, hS.F htQ⟩) hS.2.2 dX12_every_43
          · skip
            have hs9 : ss p1 = 38 := ((TP_PF gT gE hF).eq (c := 38) (by omega) (by omega)).mp (by rw [← hw_44, c_45]; rfl)
            have hlt : p1 < E := Nat.lt_of_not_le (fun z => by have := gT.2.1 p1 z; omega)
            obtain ⟨m2, rfl⟩ : ∃ q : Nat, m1 = q + 1 := ⟨m1 - 1, by omega⟩
            refine lv_aload_n hx hb dX12_every_20 rfl (lv_at hl 0 rfl) ?_
            refine lv_dup hx hb dX12_every_21 rfl ?_
            refine va_get (D := (dC, dI)) (ci := 14) (v := .int (nI p1)) (C := RX12) (T := TX12) (N := 23) hx hb hts kc_every4_0 hown hK hP 0 rfl rfl 5 (by decide) (hts (.fieldLink RX12 59 "MistHeapsModel" "spot" "I") kc_every4_2) (fun _ h9 => h9) rfl dX12_every_22 ?_
            refine lv_iconst (v := 1) hx hb dX12_every_25 (by decide) ?_
            refine lv_iadd hx hb dX12_every_26 ?_
            refine qi_as (y := nI (p1 + 1)) (nI_add p1 1) ?_
            refine va_put (D := (dC, dI)) (ci := 14) (v := .int (nI (p1 + 1))) (ty := .int) (C := RX12) (T := TX12) (N := 23) hx hb hts kc_every4_0 tyX12 tyX12_ok nmX12 hown hK hP hD hS 0 rfl rfl 5 (by decide) (hts (.fieldLink RX12 59 "MistHeapsModel" "spot" "I") kc_every4_2) (fun _ h9 => h9) rfl (by decide +kernel) rfl rfl (Nat.le_of_ble_eq_true rfl) dX12_every_27 (fun H locs hP hD hS => ?_)
            have hP : va_P (dC, dI) vwCl [(zo14irriiiiiirriirrrrlriiii m0 th aS aI im (nI a) (nI (p1 + 1)) (nI E) 0 4 aB aT se dn aG aO aN aD bv aY rn kd nu tv), (zaI aS cS 901 f1)] H := hP
            have hD : va_D A [(zo14irriiiiiirriirrrrlriiii m0 th aS aI im (nI a) (nI (p1 + 1)) (nI E) 0 4 aB aT se dn aG aO aN aD bv aY rn kd nu tv), (zaI aS cS 901 f1)] := hD
            refine lv_aload_n hx hb dX12_every_30 rfl (lv_at hl 0 rfl) ?_
            have hPc := hP.sub (ws' := [(zo14irriiiiiirriirrrrlriiii m0 th aS aI im (nI a) (nI (p1 + 1)) (nI E) 0 4 aB aT se dn aG aO aN aD bv aY rn kd nu tv), (zaI aS cS 901 f1)]) [0, 1] rfl
            have hDc := hD.sub (ws' := [(zo14irriiiiiirriirrrrlriiii m0 th aS aI im (nI a) (nI (p1 + 1)) (nI E) 0 4 aB aT se dn aG aO aN aD bv aY rn kd nu tv), (zaI aS cS 901 f1)]) [0, 1] (by decide) rfl
            have hKc := hK.sub (tys' := [(cS, .int)]) [0] rfl
            have hFc := va_free (wc := [(zo14irriiiiiirriirrrrlriiii m0 th aS aI im (nI a) (nI (p1 + 1)) (nI E) 0 4 aB aT se dn aG aO aN aD bv aY rn kd nu tv), (zaI aS cS 901 f1)]) hD hS hA [0, 1] rfl
            refine va_callv (va_runV (As := []) (rest := []) ⟨hx, hb, hml, hown, hts⟩ (c_factor4 l dC dI sK sV m0 aS aI aB aT aG aO aN aD aY th im (nI a) (nI (p1 + 1)) (nI E) 0 4 se dn rn kd nu tv bv cS f1 a (p1 + 1) E (K ++ L1) (d + 1) ss H.size ((hI).mono (by omega) (by omega)) ((TP_PF gT gE (hF)))) (cwV 0 hts gX12_every_X12_factor rfl rfl rfl hd_yX12_factor ⟨Nat.le_of_ble_eq_true rfl, Nat.le_of_ble_eq_true rfl⟩) ⟨fun a U g mk q => by obtain ⟨q0, q1, qP, qK, qD, qhE⟩ := q; exact ⟨q0, mvz g mk a q1, mvP g mk a qP, mvK g mk a qK, qD, qhE.mv g mk a⟩, va_recv hK hP (ci := 14) (q := (RX12, TX12, 23)) (q0 := 0) rfl rfl, fun U hU hW => ⟨rfl, by rw [hU], by rw [hU]; exact hPc, va_K.moved hW.alike hKc, hDc.weaken (fun _ _ _ _ => trivial), hE.call hS hU hW (fun q h => hFc q h)⟩⟩ rfl rfl hl.1 rfl (lv_room (Nat.le_of_ble_eq_true rfl)) dX12_every_31 ⟨Nat.le_of_ble_eq_true rfl, Nat.le_of_ble_eq_true rfl⟩) hS (fun q _ h => hFc q h) hFc (fun u tC H1 locs htC hvm hw_47 hB hz1 hk1 hS => ?_)
            obtain ⟨fS9_48, sp9_49, wg9_50⟩ := u
            try dsimp only at hw_47 hB
            obtain ⟨hP1, hK1, hD1⟩ := hB
            rw [htC] at hP1
            have hK1 := va_K.moved hvm.symm hK1
            obtain ⟨hP, hD⟩ := va_join (wr := []) (w1 := [(zo14irriiiiiirriirrrrlriiii m0 th aS aI im (nI a) sp9_49 (nI E) wg9_50 4 aB aT se dn aG aO aN aD bv aY rn kd nu tv), (zaI aS cS 901 fS9_48)]) hP hD [0, 1] [] rfl rfl (by decide) (by decide) hk1 hFc hP1 hD1
            have hK := (hK.sub (tys' := []) [] rfl).app hK1
            generalize H1 = H at hP hS ⊢
            have hP : va_P (dC, dI) vwCl [(zo14irriiiiiirriirrrrlriiii m0 th aS aI im (nI a) sp9_49 (nI E) wg9_50 4 aB aT se dn aG aO aN aD bv aY rn kd nu tv), (zaI aS cS 901 fS9_48)] H := hP
            have hD : va_D A [(zo14irriiiiiirriirrrrlriiii m0 th aS aI im (nI a) sp9_49 (nI E) wg9_50 4 aB aT se dn aG aO aN aD bv aY rn kd nu tv), (zaI aS cS 901 fS9_48)] := hD
            have hK : va_K (dC, dI) vwCl [(cS, .int)] s := hK
            obtain ⟨p_51, rfl, h_54, h_55, hF_56, q9⟩ := hw_47
            rcases q9 with ⟨rfl, eP_53⟩ | ⟨rfl, L_52, eP_53, h_57, hI_58, h_59⟩
            · skip
              refine lv_aload_n hx hb dX12_every_34 rfl (lv_at hl 0 rfl) ?_
              refine lv_bipush (v := (-2)) hx hb dX12_every_35 (by decide) ?_
              have hPc := hP.sub (ws' := [(zo14irriiiiiirriirrrrlriiii m0 th aS aI im (nI a) (nI p_51) (nI E) 1 4 aB aT se dn aG aO aN aD bv aY rn kd nu tv)]) [0] rfl
              have hKc := hK.sub (tys' := []) [] rfl
              refine va_csv (va_runV (As := [.int (-2)]) (rest := []) ⟨hx, hb, hml, hown, hts⟩ (c_emitsW l dC dI m0 aS aI aB aT aG aO aN aD aY th im (nI a) (nI p_51) (nI E) 1 4 se dn rn kd nu tv bv (-2)) (cwV 1 hts gX12_every_X12_emits rfl rfl rfl hd_yX12_emits ⟨Nat.le_of_ble_eq_true rfl, Nat.le_of_ble_eq_true rfl⟩) ⟨fun a U g mk q => by obtain ⟨q0, qP, qK⟩ := q; exact ⟨q0, mvP g mk a qP, mvK g mk a qK⟩, va_recv hK hP (ci := 14) (q := (RX12, TX12, 23)) (q0 := 0) rfl rfl, fun U hU hW => ⟨rfl, by rw [hU]; exact hPc, va_K.moved hW.alike hKc⟩⟩ rfl rfl hl.1 rfl (lv_room (Nat.le_of_ble_eq_true rfl)) dX12_every_37 ⟨Nat.le_of_ble_eq_true rfl, Nat.le_of_ble_eq_true rfl⟩).run (fun hw_61 => ?_)
              refine lv_goto (tgt := 4) hx hb dX12_every_40 (by decide) ?_
              exact ih4 (p_51) ([]) (0) (1) (fS9_48) (by omega) (by omega) ((hF).tr hF_56) (Or.inl ⟨rfl, hE9.trans (ps_bad hs9 eP_53)⟩) _ _ (hK.sub [0] rfl) (hP.sub [0, 1] rfl) (hD.sub [0, 1] (by decide) rfl) hS ls (lv_sub hl [0] rfl)
            · skip
              have k5 := hI_58.2.2.2.2.1
              have hqL_52 : ((K ++ L1) ++ L_52).length = (K ++ L1).length + L_52.length := List.length_append
              refine lv_aload_n hx hb dX12_every_34 rfl (lv_at hl 0 rfl) ?_
              refine lv_bipush (v := (-2)) hx hb dX12_every_35 (by decide) ?_
              have hPc := hP.sub (ws' := [(zo14irriiiiiirriirrrrlriiii m0 th aS aI im (nI a) (nI p_51) (nI E) 0 4 aB aT se dn aG aO aN aD bv aY rn kd nu tv), (zaI aS cS 901 fS9_48)]) [0, 1] rfl
              have hDc := hD.sub (ws' := [(zo14irriiiiiirriirrrrlriiii m0 th aS aI im (nI a) (nI p_51) (nI E) 0 4 aB aT se dn aG aO aN aD bv aY rn kd nu tv), (zaI aS cS 901 fS9_48)]) [0, 1] (by decide) rfl
              have hKc := hK.sub (tys' := [(cS, .int)]) [0] rfl
              have hFc := va_free (wc := [(zo14irriiiiiirriirrrrlriiii m0 th aS aI im (nI a) (nI p_51) (nI E) 0 4 aB aT se dn aG aO aN aD bv aY rn kd nu tv), (zaI aS cS 901 fS9_48)]) hD hS hA [0, 1] rfl
              refine va_callv (va_runV (As := [.int (-2)]) (rest := []) ⟨hx, hb, hml, hown, hts⟩ (c_emits l dC dI m0 aS aI aB aT aG aO aN aD aY th im (nI a) (nI p_51) (nI E) 0 4 se dn rn kd nu tv bv cS fS9_48 a ((K ++ L1) ++ L_52).length (-2) H.size (ga) ((hI_58).2.2.2.1) (by have := (hI_58).2.2.2.2.1; omega)) (cwV 1 hts gX12_every_X12_emits rfl rfl rfl hd_yX12_emits ⟨Nat.le_of_ble_eq_true rfl, Nat.le_of_ble_eq_true rfl⟩) ⟨fun a U g mk q => by obtain ⟨q0, q1, qP, qK, qD⟩ := q; exact ⟨q0, mvz g mk a q1, mvP g mk a qP, mvK g mk a qK, qD⟩, va_recv hK hP (ci := 14) (q := (RX12, TX12, 23)) (q0 := 0) rfl rfl, fun U hU hW => ⟨rfl, by rw [hU], by rw [hU]; exact hPc, va_K.moved hW.alike hKc, hDc.weaken (fun _ _ _ _ => trivial)⟩⟩ rfl rfl hl.1 rfl (lv_room (Nat.le_of_ble_eq_true rfl)) dX12_every_37 ⟨Nat.le_of_ble_eq_true rfl, Nat.le_of_ble_eq_true rfl⟩) hS (fun q _ h => hFc q h) hFc (fun u tC H1 locs htC hvm hw_63 hB hz1 hk1 hS => ?_)
              obtain ⟨fS9_64, rfl⟩ : ∃ z, z = u := ⟨_, rfl⟩
              try dsimp only at hw_63 hB
              obtain ⟨hP1, hK1, hD1⟩ := hB
              rw [htC] at hP1
              have hK1 := va_K.moved hvm.symm hK1
              obtain ⟨hP, hD⟩ := va_join (wr := []) (w1 := [(zo14irriiiiiirriirrrrlriiii m0 th aS aI im (nI a) (nI p_51) (nI E) 0 4 aB aT se dn aG aO aN aD bv aY rn kd nu tv), (zaI aS cS 901 fS9_64)]) hP hD [0, 1] [] rfl rfl (by decide) (by decide) hk1 hFc hP1 hD1
              have hK := (hK.sub (tys' := []) [] rfl).app hK1
              generalize H1 = H at hP hS ⊢
              have hP : va_P (dC, dI) vwCl [(zo14irriiiiiirriirrrrlriiii m0 th aS aI im (nI a) (nI p_51) (nI E) 0 4 aB aT se dn aG aO aN aD bv aY rn kd nu tv), (zaI aS cS 901 fS9_64)] H := hP
              have hD : va_D A [(zo14irriiiiiirriirrrrlriiii m0 th aS aI im (nI a) (nI p_51) (nI E) 0 4 aB aT se dn aG aO aN aD bv aY rn kd nu tv), (zaI aS cS 901 fS9_64)] := hD
              have hK : va_K (dC, dI) vwCl [(cS, .int)] s := hK
              obtain rfl : fS9_64 = emt fS9_48 a ((K ++ L1) ++ L_52).length (-2) := by rcases hw_63 with ⟨q, _⟩ | ⟨_, q⟩; exact absurd rfl q; exact q
              have hI_65 : PI (emt fS9_48 a ((K ++ L1) ++ L_52).length (-2)) a (((K ++ L1) ++ L_52) ++ [1802]) (((d + 1) + 1) - 1) p_51 E := PI.em (t := 1802) ((hI_58).mono (by omega) (by omega)) (by omega) (by omega) (stepd_both (by omega)) (by decide)
              have hF_66 : PF a fS (emt fS9_48 a ((K ++ L1) ++ L_52).length (-2)) := ((hF).tr hF_56).tr (PF_emt (k := ((K ++ L1) ++ L_52).length) (x := (-2)) ga (by have := (hI_58).2.2.2.2.1; omega))
              have hKhI_65 : (((K ++ L1) ++ L_52) ++ [1802]).length = ((K ++ L1) ++ L_52).length + 1 := by rw [List.length_append]; rfl
              refine lv_goto (tgt := 4) hx hb dX12_every_40 (by decide) ?_
              exact ih4 (p_51) (L1 ++ (L_52 ++ [1802])) (m2) (0) (emt fS9_48 a ((K ++ L1) ++ L_52).length (-2)) (by omega) (by omega) (hF_66) (Or.inr ⟨rfl, hE9.trans (ps_go hs9 eP_53), by omega, by omega, PI.as (PI.as hI_65), by simp only [List.length_append, List.length_cons, List.length_nil]; omega⟩) _ _ (hK.sub [0] rfl) (hP.sub [0, 1] rfl) (hD.sub [0, 1] (by decide) rfl) hS ls (lv_sub hl [0] rfl)
    exact L4 _ (p_6) (L_7) (101) (0) (fS9_3) (Nat.lt_succ_self _) (by omega) ((PF.rf).tr hF_11) (Or.inr ⟨rfl, pEv_s eP_8, by omega, by omega, hI_13, by omega⟩) _ _ (hK.sub [0] rfl) (hP.sub [0, 1] rfl) (hD.sub [0, 1] (by decide) rfl) hS ls (lv_sub hl [0] rfl)

theorem kc_some4_0 : ∀ w ∈ wsX120, w ∈ wsX12_some := fun w h => List.mem_cons_of_mem _ (gin_wsX120 w h)
theorem kc_some4_1 : (.fieldLink RX12 65 "MistHeapsModel" "isWrong" "Z" : Cond) ∈ wsX12_some := kc_of 1147 rfl rfl rfl
theorem kc_some4_2 : (.fieldLink RX12 59 "MistHeapsModel" "spot" "I" : Cond) ∈ wsX12_some := kc_of 1145 rfl rfl rfl
set_option maxHeartbeats 4000000 in
set_option maxRecDepth 100000 in
theorem c_some4 (l : Launch) (dC : Nat → ClassId) (dI : Nat → Nat → Nat) (sK sV : Nat → Nat) (m0 aS aI aB aT aG aO aN aD aY : Nat) (th im ac sp en wg op se dn rn kd nu tv : Int32) (bv : Int64) (cS : ClassId) (fS : Nat → Int32) (a p0 E : Nat) (K : List Nat) (d : Nat) (ss : Nat → Nat) (sz : Nat) (gI : PI fS a K d p0 E) (gT : TP fS E ss) : Met l yX12_some wsX12_some ({ frames := 10, cells := 0, slots := 0, locals := 215 } : Room) (va_Pc [.ref m0] (fun U => U.heap.size = sz ∧ va_P (dC, dI) vwCl [(zo14irriiiiiirriirrrrlriiii m0 th aS aI im (nI a) (nI p0) (nI E) 0 4 aB aT se dn aG aO aN aD bv aY rn kd nu tv), (zaI aS cS 901 fS)] U.heap ∧ va_K (dC, dI) vwCl [(cS, .int)] U ∧ va_D (fun _ => True) [(zo14irriiiiiirriirrrrlriiii m0 th aS aI im (nI a) (nI p0) (nI E) 0 4 aB aT se dn aG aO aN aD bv aY rn kd nu tv), (zaI aS cS 901 fS)] ∧ Gs sK sV (va_A [(zo14irriiiiiirriirrrrlriiii m0 th aS aI im (nI a) (nI p0) (nI E) 0 4 aB aT se dn aG aO aN aD bv aY rn kd nu tv), (zaI aS cS 901 fS)] sz) U)) (va_Qv (fun (u : (Nat → Int32) × (Int32) × (Int32)) => match u with | (fS9, sp9, wg9) => ∃ p9 : Nat, sp9 = nI p9 ∧ p0 ≤ p9 ∧ p9 ≤ E ∧ PF a fS fS9 ∧ ((wg9 = 1 ∧ pSm ss (pFac ss 1) p0 = (none, p9)) ∨ (wg9 = 0 ∧ ∃ L : List Nat, pSm ss (pFac ss 1) p0 = (some L, p9) ∧ p0 + 3 ≤ p9 ∧ PI fS9 a (K ++ L) (d + 1) p9 E ∧ L.length + p0 ≤ p9))) (fun (u : (Nat → Int32) × (Int32) × (Int32)) (t : State) => match u with | (fS9, sp9, wg9) => va_P (dC, dI) vwCl [(zo14irriiiiiirriirrrrlriiii m0 th aS aI im (nI a) sp9 (nI E) wg9 4 aB aT se dn aG aO aN aD bv aY rn kd nu tv), (zaI aS cS 901 fS9)] t.heap ∧ va_K (dC, dI) vwCl [(cS, .int)] t ∧ va_D (va_A [(zo14irriiiiiirriirrrrlriiii m0 th aS aI im (nI a) (nI p0) (nI E) 0 4 aB aT se dn aG aO aN aD bv aY rn kd nu tv), (zaI aS cS 901 fS)] sz) [(zo14irriiiiiirriirrrrlriiii m0 th aS aI im (nI a) sp9 (nI E) wg9 4 aB aT se dn aG aO aN aD bv aY rn kd nu tv), (zaI aS cS 901 fS9)]) (va_A [(zo14irriiiiiirriirrrrlriiii m0 th aS aI im (nI a) (nI p0) (nI E) 0 4 aB aT se dn aG aO aN aD bv aY rn kd nu tv), (zaI aS cS 901 fS)] sz)) 0 0 (va_A [(zo14irriiiiiirriirrrrlriiii m0 th aS aI im (nI a) (nI p0) (nI E) 0 4 aB aT se dn aG aO aN aD bv aY rn kd nu tv), (zaI aS cS 901 fS)] sz) := by
  refine met_ofQ (cc := cX12_some) (maxL := 1) (ret := none) (by decide) rfl ?_
  intro p e s m args below meth c s₁ Q B hml hv hQ
  obtain ⟨rfl, hsz, hP, hK, hD0, hE⟩ := hv
  have hx := B.exec
  have hb := B.bytes
  have hr := B.returns
  have hts := atoms_spec (ws := wsX12_some) B.pre
  have hown : s.vm.findClass RX12 = some m.cls := findClass_of_methodNamed B.named
  have hlocks := B.notSynchronized
  subst hsz
  have hD := hD0.self (sz := s.heap.size)
  generalize hAe : va_A [(zo14irriiiiiirriirrrrlriiii m0 th aS aI im (nI a) (nI p0) (nI E) 0 4 aB aT se dn aG aO aN aD bv aY rn kd nu tv), (zaI aS cS 901 fS)] s.heap.size = A at hD hQ hE ⊢
  have hA : ∀ q : Nat, s.heap.size ≤ q → A q := fun q h => by rw [← hAe]; exact Or.inr h
  have hS : va_S A s.heap s.heap [] := va_S.rf
  have hl := lv_entry [.ref m0] (n := 1) (Nat.le_of_ble_eq_true rfl)
  rw [lg_entry_eq]
  generalize (lg_sl [.ref m0] ++ List.replicate (1 - (lg_sl [.ref m0]).length) Slot.unset).toArray = ls at hl ⊢
  generalize hag : ([.ref m0] : List Value).toArray = args at hts hQ ⊢
  have hl : lv_has ls 1 [(0, .ref m0)] := hl
  obtain ⟨H, hH⟩ : ∃ H : Heap, H = s.heap := ⟨_, rfl⟩
  rw [← hH] at hP
  rw [← hH]
  have hS : va_S A s.heap H [] := by rw [hH]; exact hS
  obtain ⟨locs, hlo⟩ : ∃ L : List Loc, L = [] := ⟨_, rfl⟩
  rw [← hlo] at hS
  rw [← hlo]
  clear hH hlo
  obtain ⟨ga, gp, gE, zk, gkp, gd, gs, gcd⟩ := id gI
  refine lv_aload_n hx hb dX12_some_0 rfl (lv_at hl 0 rfl) ?_
  have hPc := hP.sub (ws' := [(zo14irriiiiiirriirrrrlriiii m0 th aS aI im (nI a) (nI p0) (nI E) 0 4 aB aT se dn aG aO aN aD bv aY rn kd nu tv), (zaI aS cS 901 fS)]) [0, 1] rfl
  have hDc := hD.sub (ws' := [(zo14irriiiiiirriirrrrlriiii m0 th aS aI im (nI a) (nI p0) (nI E) 0 4 aB aT se dn aG aO aN aD bv aY rn kd nu tv), (zaI aS cS 901 fS)]) [0, 1] (by decide) rfl
  have hKc := hK.sub (tys' := [(cS, .int)]) [0] rfl
  have hFc := va_free (wc := [(zo14irriiiiiirriirrrrlriiii m0 th aS aI im (nI a) (nI p0) (nI E) 0 4 aB aT se dn aG aO aN aD bv aY rn kd nu tv), (zaI aS cS 901 fS)]) hD hS hA [0, 1] rfl
  refine va_callv (va_runV (As := []) (rest := []) ⟨hx, hb, hml, hown, hts⟩ (c_every4 l dC dI sK sV m0 aS aI aB aT aG aO aN aD aY th im (nI a) (nI p0) (nI E) 0 4 se dn rn kd nu tv bv cS fS a p0 E K d ss H.size ((gI).mono (by omega) (by omega)) (gT)) (cwV 0 hts gX12_some_X12_every rfl rfl rfl hd_yX12_every ⟨Nat.le_of_ble_eq_true rfl, Nat.le_of_ble_eq_true rfl⟩) ⟨fun a U g mk q => by obtain ⟨q0, q1, qP, qK, qD, qhE⟩ := q; exact ⟨q0, mvz g mk a q1, mvP g mk a qP, mvK g mk a qK, qD, qhE.mv g mk a⟩, va_recv hK hP (ci := 14) (q := (RX12, TX12, 23)) (q0 := 0) rfl rfl, fun U hU hW => ⟨rfl, by rw [hU], by rw [hU]; exact hPc, va_K.moved hW.alike hKc, hDc.weaken (fun _ _ _ _ => trivial), hE.call hS hU hW (fun q h => hFc q h)⟩⟩ rfl rfl hl.1 rfl (lv_room (Nat.le_of_ble_eq_true rfl)) dX12_some_1 ⟨Nat.le_of_ble_eq_true rfl, Nat.le_of_ble_eq_true rfl⟩) hS (fun q _ h => hFc q h) hFc (fun u tC H1 locs htC hvm hw_2 hB hz1 hk1 hS => ?_)
  obtain ⟨fS9_3, sp9_4, wg9_5⟩ := u
  try dsimp only at hw_2 hB
  obtain ⟨hP1, hK1, hD1⟩ := hB
  rw [htC] at hP1
  have hK1 := va_K.moved hvm.symm hK1
  obtain ⟨hP, hD⟩ := va_join (wr := []) (w1 := [(zo14irriiiiiirriirrrrlriiii m0 th aS aI im (nI a) sp9_4 (nI E) wg9_5 4 aB aT se dn aG aO aN aD bv aY rn kd nu tv), (zaI aS cS 901 fS9_3)]) hP hD [0, 1] [] rfl rfl (by decide) (by decide) hk1 hFc hP1 hD1
  have hK := (hK.sub (tys' := []) [] rfl).app hK1
  generalize H1 = H at hP hS ⊢
  have hP : va_P (dC, dI) vwCl [(zo14irriiiiiirriirrrrlriiii m0 th aS aI im (nI a) sp9_4 (nI E) wg9_5 4 aB aT se dn aG aO aN aD bv aY rn kd nu tv), (zaI aS cS 901 fS9_3)] H := hP
  have hD : va_D A [(zo14irriiiiiirriirrrrlriiii m0 th aS aI im (nI a) sp9_4 (nI E) wg9_5 4 aB aT se dn aG aO aN aD bv aY rn kd nu tv), (zaI aS cS 901 fS9_3)] := hD
  have hK : va_K (dC, dI) vwCl [(cS, .int)] s := hK
  obtain ⟨p_6, rfl, h_9, h_10, hF_11, q9⟩ := hw_2
  rcases q9 with ⟨rfl, eP_8⟩ | ⟨rfl, L_7, eP_8, h_12, hI_13, h_14⟩
  · skip
    have L4 : ∀ (nF : Nat) (p1 : Nat) (L1 : List Nat) (m1 : Nat) (w1 : Int32) (f1 : Nat → Int32), E - p1 < nF → (p0 ≤ p1 ∧ p1 ≤ E) → (PF a fS f1) → ((w1 = 1 ∧ pSm ss (pFac ss 1) p0 = (none, p1)) ∨ (w1 = 0 ∧ pSm ss (pFac ss 1) p0 = pSep ss 124 1803 (pEv ss (pFac ss 1)) m1 (some L1, p1) ∧ 101 ≤ m1 + p1 ∧ p0 + 3 ≤ p1 ∧ PI f1 a (K ++ L1) (d + 1) p1 E ∧ L1.length + p0 ≤ p1)) → ∀ (H : Heap) (locs : List Loc), va_K (dC, dI) vwCl [(cS, .int)] s → va_P (dC, dI) vwCl [(zo14irriiiiiirriirrrrlriiii m0 th aS aI im (nI a) (nI p1) (nI E) w1 4 aB aT se dn aG aO aN aD bv aY rn kd nu tv), (zaI aS cS 901 f1)] H → va_D A [(zo14irriiiiiirriirrrrlriiii m0 th aS aI im (nI a) (nI p1) (nI E) w1 4 aB aT se dn aG aO aN aD bv aY rn kd nu tv), (zaI aS cS 901 f1)] → va_S A s.heap H locs → ∀ (ls : Array Slot), lv_has ls 1 [(0, .ref m0)] → W p l e ({ frames := 10, cells := 0, slots := 0, locals := 215 } : Room) s m args below meth c H locs 0 0 Q (F0 m 4 ls []) := by
      intro nF
      induction nF with
      | zero => intro p1 L1 m1 w1 f1 hm; exact absurd hm (Nat.not_lt_zero _)
      | succ nF ih4 =>
        intro p1 L1 m1 w1 f1 hm h1 hF hw1 H locs hK hP hD hS ls hl
        obtain ⟨h1a, h1b⟩ := h1
        rcases hw1 with ⟨rfl, hE9⟩ | ⟨rfl, hE9, hm9, h3, hI, h4⟩
        · skip
          refine lv_aload_n hx hb dX12_some_4 rfl (lv_at hl 0 rfl) ?_
          refine va_get (D := (dC, dI)) (ci := 14) (v := .int 1) (C := RX12) (T := TX12) (N := 23) hx hb hts kc_some4_0 hown hK hP 0 rfl rfl 7 (by decide) (hts (.fieldLink RX12 65 "MistHeapsModel" "isWrong" "Z") kc_some4_1) (fun _ h9 => h9) rfl dX12_some_5 ?_
          refine lv_if_ne (tgt := 43) hx hb dX12_some_8 (by decide) (fun _ => ?_) (fun c_15 => absurd c_15 (by decide))
          rw [hQ]
          have hP9 := hP.sub (ws' := [(zo14irriiiiiirriirrrrlriiii m0 th aS aI im (nI a) (nI p1) (nI E) 1 4 aB aT se dn aG aO aN aD bv aY rn kd nu tv), (zaI aS cS 901 f1)]) [0, 1] rfl
          have hD9 := hD.sub (ws' := [(zo14irriiiiiirriirrrrlriiii m0 th aS aI im (nI a) (nI p1) (nI E) 1 4 aB aT se dn aG aO aN aD bv aY rn kd nu tv), (zaI aS cS 901 f1)]) [0, 1] (by decide) rfl
          have hK9 := hK.sub (tys' := [(cS, .int)]) [0] rfl
          exact W.vret hx hb hr (fun tQ htQ hWQ => ⟨⟨(f1, (nI p1), 1), rfl, ⟨p1, rfl, by omega, by omega, hF, Or.inl ⟨rfl, hE9⟩⟩, by rw [htQ]; exact hP9, va_K.moved hWQ.alike hK9, hD9⟩, hS.F htQ⟩) hS.2.2 dX12_some_43
        · skip
          have k5 := hI.2.2.2.2.1
          have hq1 : (K ++ L1).length = K.length + L1.length := List.length_append
          refine lv_aload_n hx hb dX12_some_4 rfl (lv_at hl 0 rfl) ?_
          refine va_get (D := (dC, dI)) (ci := 14) (v := .int 0) (C := RX12) (T := TX12) (N := 23) hx hb hts kc_some4_0 hown hK hP 0 rfl rfl 7 (by decide) (hts (.fieldLink RX12 65 "MistHeapsModel" "isWrong" "Z") kc_some4_1) (fun _ h9 => h9) rfl dX12_some_5 ?_
          refine lv_if_ne (tgt := 43) hx hb dX12_some_8 (by decide) (fun c_16 => absurd c_16 (by decide)) (fun _ => ?_)
          refine lv_aload_n hx hb dX12_some_11 rfl (lv_at hl 0 rfl) ?_
          have hPc := hP.sub (ws' := [(zo14irriiiiiirriirrrrlriiii m0 th aS aI im (nI a) (nI p1) (nI E) 0 4 aB aT se dn aG aO aN aD bv aY rn kd nu tv), (zaI aS cS 901 f1)]) [0, 1] rfl
          have hKc := hK.sub (tys' := [(cS, .int)]) [0] rfl
          refine vp_callSi (va_runV (As := []) (rest := []) ⟨hx, hb, hml, hown, hts⟩ (c_here l dC dI m0 aS aI aB aT aG aO aN aD aY th im (nI a) (nI p1) (nI E) 0 4 se dn rn kd nu tv bv cS f1 a p1 E (by omega) (by omega) (by omega)) (cwV 0 hts gX12_some_X12_here rfl rfl rfl hd_yX12_here ⟨Nat.le_of_ble_eq_true rfl, Nat.le_of_ble_eq_true rfl⟩) ⟨fun a U g mk q => by obtain ⟨q0, qP, qK⟩ := q; exact ⟨q0, mvP g mk a qP, mvK g mk a qK⟩, va_recv hK hP (ci := 14) (q := (RX12, TX12, 23)) (q0 := 0) rfl rfl, fun U hU hW => ⟨rfl, by rw [hU]; exact hPc, va_K.moved hW.alike hKc⟩⟩ rfl rfl hl.1 rfl (lv_room (Nat.le_of_ble_eq_true rfl)) dX12_some_12 ⟨Nat.le_of_ble_eq_true rfl, Nat.le_of_ble_eq_true rfl⟩).run (fun r_17 hw_18 => ?_)
          refine lv_bipush (v := 124) hx hb dX12_some_15 (by decide) ?_
          refine lv_icmp_ne (tgt := 43) hx hb dX12_some_17 (by decide) (fun c_19 => ?_) (fun c_19 => ?_)
          · skip
            have hn9 : ¬ ss p1 = 124 := fun z => c_19 (by rw [hw_18]; exact ((TP_PF gT gE hF).eq (c := 124) (by omega) (by omega)).mpr z)
            rw [hQ]
            have hP9 := hP.sub (ws' := [(zo14irriiiiiirriirrrrlriiii m0 th aS aI im (nI a) (nI p1) (nI E) 0 4 aB aT se dn aG aO aN aD bv aY rn kd nu tv), (zaI aS cS 901 f1)]) [0, 1] rfl
            have hD9 := hD.sub (ws' := [(zo14irriiiiiirriirrrrlriiii m0 th aS aI im (nI a) (nI p1) (nI E) 0 4 aB aT se dn aG aO aN aD bv aY rn kd nu tv), (zaI aS cS 901 f1)]) [0, 1] (by decide) rfl
            have hK9 := hK.sub (tys' := [(cS, .int)]) [0] rfl
            exact W.vret hx hb hr (fun tQ htQ hWQ => ⟨⟨(f1, (nI p1), 0), rfl, ⟨p1, rfl, by omega, by omega, hF, Or.inr ⟨rfl, L1, hE9.trans (ps_end hn9), by omega, hI, by (try simp only [List.length_append, List.length_cons, List.length_nil]); omega⟩⟩, by rw [htQ]; exact hP9, va_K.moved hWQ.alike hK9, hD9⟩, hS.F htQ⟩) hS.2.2 dX12_some_43
          · skip
            have hs9 : ss p1 = 124 := ((TP_PF gT gE hF).eq (c := 124) (by omega) (by omega)).mp (by rw [← hw_18, c_19]; rfl)
            have hlt : p1 < E := Nat.lt_of_not_le (fun z => by have := gT.2.1 p1 z; omega)
            obtain ⟨m2, rfl⟩ : ∃ q : Nat, m1 = q + 1 := ⟨m1 - 1, by omega⟩
            refine lv_aload_n hx hb dX12_some_20 rfl (lv_at hl 0 rfl) ?_
            refine lv_dup hx hb dX12_some_21 rfl ?_
            refine va_get (D := (dC, dI)) (ci := 14) (v := .int (nI p1)) (C := RX12) (T := TX12) (N := 23) hx hb hts kc_some4_0 hown hK hP 0 rfl rfl 5 (by decide) (hts (.fieldLink RX12 59 "MistHeapsModel" "spot" "I") kc_some4_2) (fun _ h9 => h9) rfl dX12_some_22 ?_
            refine lv_iconst (v := 1) hx hb dX12_some_25 (by decide) ?_
            refine lv_iadd hx hb dX12_some_26 ?_
            refine qi_as (y := nI (p1 + 1)) (nI_add p1 1) ?_
            refine va_put (D := (dC, dI)) (ci := 14) (v := .int (nI (p1 + 1))) (ty := .int) (C := RX12) (T := TX12) (N := 23) hx hb hts kc_some4_0 tyX12 tyX12_ok nmX12 hown hK hP hD hS 0 rfl rfl 5 (by decide) (hts (.fieldLink RX12 59 "MistHeapsModel" "spot" "I") kc_some4_2) (fun _ h9 => h9) rfl (by decide +kernel) rfl rfl (Nat.le_of_ble_eq_true rfl) dX12_some_27 (fun H locs hP hD hS => ?_)
            have hP : va_P (dC, dI) vwCl [(zo14irriiiiiirriirrrrlriiii m0 th aS aI im (nI a) (nI (p1 + 1)) (nI E) 0 4 aB aT se dn aG aO aN aD bv aY rn kd nu tv), (zaI aS cS 901 f1)] H := hP
            have hD : va_D A [(zo14irriiiiiirriirrrrlriiii m0 th aS aI im (nI a) (nI (p1 + 1)) (nI E) 0 4 aB aT se dn aG aO aN aD bv aY rn kd nu tv), (zaI aS cS 901 f1)] := hD
            refine lv_aload_n hx hb dX12_some_30 rfl (lv_at hl 0 rfl) ?_
            have hPc := hP.sub (ws' := [(zo14irriiiiiirriirrrrlriiii m0 th aS aI im (nI a) (nI (p1 + 1)) (nI E) 0 4 aB aT se dn aG aO aN aD bv aY rn kd nu tv), (zaI aS cS 901 f1)]) [0, 1] rfl
            have hDc := hD.sub (ws' := [(zo14irriiiiiirriirrrrlriiii m0 th aS aI im (nI a) (nI (p1 + 1)) (nI E) 0 4 aB aT se dn aG aO aN aD bv aY rn kd nu tv), (zaI aS cS 901 f1)]) [0, 1] (by decide) rfl
            have hKc := hK.sub (tys' := [(cS, .int)]) [0] rfl
            have hFc := va_free (wc := [(zo14irriiiiiirriirrrrlriiii m0 th aS aI im (nI a) (nI (p1 + 1)) (nI E) 0 4 aB aT se dn aG aO aN aD bv aY rn kd nu tv), (zaI aS cS 901 f1)]) hD hS hA [0, 1] rfl
            refine va_callv (va_runV (As := []) (rest := []) ⟨hx, hb, hml, hown, hts⟩ (c_every4 l dC dI sK sV m0 aS aI aB aT aG aO aN aD aY th im (nI a) (nI (p1 + 1)) (nI E) 0 4 se dn rn kd nu tv bv cS f1 a (p1 + 1) E (K ++ L1) (d + 1) ss H.size ((hI).mono (by omega) (by omega)) ((TP_PF gT gE (hF)))) (cwV 0 hts gX12_some_X12_every rfl rfl rfl hd_yX12_every ⟨Nat.le_of_ble_eq_true rfl, Nat.le_of_ble_eq_true rfl⟩) ⟨fun a U g mk q => by obtain ⟨q0, q1, qP, qK, qD, qhE⟩ := q; exact ⟨q0, mvz g mk a q1, mvP g mk a qP, mvK g mk a qK, qD, qhE.mv g mk a⟩, va_recv hK hP (ci := 14) (q := (RX12, TX12, 23)) (q0 := 0) rfl rfl, fun U hU hW => ⟨rfl, by rw [hU], by rw [hU]; exact hPc, va_K.moved hW.alike hKc, hDc.weaken (fun _ _ _ _ => trivial), hE.call hS hU hW (fun q h => hFc q h)⟩⟩ rfl rfl hl.1 rfl (lv_room (Nat.le_of_ble_eq_true rfl)) dX12_some_31 ⟨Nat.le_of_ble_eq_true rfl, Nat.le_of_ble_eq_true rfl⟩) hS (fun q _ h => hFc q h) hFc (fun u tC H1 locs htC hvm hw_21 hB hz1 hk1 hS => ?_)
            obtain ⟨fS9_22, sp9_23, wg9_24⟩ := u
            try dsimp only at hw_21 hB
            obtain ⟨hP1, hK1, hD1⟩ := hB
            rw [htC] at hP1
            have hK1 := va_K.moved hvm.symm hK1
            obtain ⟨hP, hD⟩ := va_join (wr := []) (w1 := [(zo14irriiiiiirriirrrrlriiii m0 th aS aI im (nI a) sp9_23 (nI E) wg9_24 4 aB aT se dn aG aO aN aD bv aY rn kd nu tv), (zaI aS cS 901 fS9_22)]) hP hD [0, 1] [] rfl rfl (by decide) (by decide) hk1 hFc hP1 hD1
            have hK := (hK.sub (tys' := []) [] rfl).app hK1
            generalize H1 = H at hP hS ⊢
            have hP : va_P (dC, dI) vwCl [(zo14irriiiiiirriirrrrlriiii m0 th aS aI im (nI a) sp9_23 (nI E) wg9_24 4 aB aT se dn aG aO aN aD bv aY rn kd nu tv), (zaI aS cS 901 fS9_22)] H := hP
            have hD : va_D A [(zo14irriiiiiirriirrrrlriiii m0 th aS aI im (nI a) sp9_23 (nI E) wg9_24 4 aB aT se dn aG aO aN aD bv aY rn kd nu tv), (zaI aS cS 901 fS9_22)] := hD
            have hK : va_K (dC, dI) vwCl [(cS, .int)] s := hK
            obtain ⟨p_25, rfl, h_28, h_29, hF_30, q9⟩ := hw_21
            rcases q9 with ⟨rfl, eP_27⟩ | ⟨rfl, L_26, eP_27, h_31, hI_32, h_33⟩
            · skip
              refine lv_aload_n hx hb dX12_some_34 rfl (lv_at hl 0 rfl) ?_
              refine lv_bipush (v := (-3)) hx hb dX12_some_35 (by decide) ?_
              have hPc := hP.sub (ws' := [(zo14irriiiiiirriirrrrlriiii m0 th aS aI im (nI a) (nI p_25) (nI E) 1 4 aB aT se dn aG aO aN aD bv aY rn kd nu tv)]) [0] rfl
              have hKc := hK.sub (tys' := []) [] rfl
              refine va_csv (va_runV (As := [.int (-3)]) (rest := []) ⟨hx, hb, hml, hown, hts⟩ (c_emitsW l dC dI m0 aS aI aB aT aG aO aN aD aY th im (nI a) (nI p_25) (nI E) 1 4 se dn rn kd nu tv bv (-3)) (cwV 1 hts gX12_some_X12_emits rfl rfl rfl hd_yX12_emits ⟨Nat.le_of_ble_eq_true rfl, Nat.le_of_ble_eq_true rfl⟩) ⟨fun a U g mk q => by obtain ⟨q0, qP, qK⟩ := q; exact ⟨q0, mvP g mk a qP, mvK g mk a qK⟩, va_recv hK hP (ci := 14) (q := (RX12, TX12, 23)) (q0 := 0) rfl rfl, fun U hU hW => ⟨rfl, by rw [hU]; exact hPc, va_K.moved hW.alike hKc⟩⟩ rfl rfl hl.1 rfl (lv_room (Nat.le_of_ble_eq_true rfl)) dX12_some_37 ⟨Nat.le_of_ble_eq_true rfl, Nat.le_of_ble_eq_true rfl⟩).run (fun hw_35 => ?_)
              refine lv_goto (tgt := 4) hx hb dX12_some_40 (by decide) ?_
              exact ih4 (p_25) ([]) (0) (1) (fS9_22) (by omega) (by omega) ((hF).tr hF_30) (Or.inl ⟨rfl, hE9.trans (ps_bad hs9 eP_27)⟩) _ _ (hK.sub [0] rfl) (hP.sub [0, 1] rfl) (hD.sub [0, 1] (by decide) rfl) hS ls (lv_sub hl [0] rfl)
            · skip
              have k5 := hI_32.2.2.2.2.1
              have hqL_26 : ((K ++ L1) ++ L_26).length = (K ++ L1).length + L_26.length := List.length_append
              refine lv_aload_n hx hb dX12_some_34 rfl (lv_at hl 0 rfl) ?_
              refine lv_bipush (v := (-3)) hx hb dX12_some_35 (by decide) ?_
              have hPc := hP.sub (ws' := [(zo14irriiiiiirriirrrrlriiii m0 th aS aI im (nI a) (nI p_25) (nI E) 0 4 aB aT se dn aG aO aN aD bv aY rn kd nu tv), (zaI aS cS 901 fS9_22)]) [0, 1] rfl
              have hDc := hD.sub (ws' := [(zo14irriiiiiirriirrrrlriiii m0 th aS aI im (nI a) (nI p_25) (nI E) 0 4 aB aT se dn aG aO aN aD bv aY rn kd nu tv), (zaI aS cS 901 fS9_22)]) [0, 1] (by decide) rfl
              have hKc := hK.sub (tys' := [(cS, .int)]) [0] rfl
              have hFc := va_free (wc := [(zo14irriiiiiirriirrrrlriiii m0 th aS aI im (nI a) (nI p_25) (nI E) 0 4 aB aT se dn aG aO aN aD bv aY rn kd nu tv), (zaI aS cS 901 fS9_22)]) hD hS hA [0, 1] rfl
              refine va_callv (va_runV (As := [.int (-3)]) (rest := []) ⟨hx, hb, hml, hown, hts⟩ (c_emits l dC dI m0 aS aI aB aT aG aO aN aD aY th im (nI a) (nI p_25) (nI E) 0 4 se dn rn kd nu tv bv cS fS9_22 a ((K ++ L1) ++ L_26).length (-3) H.size (ga) ((hI_32).2.2.2.1) (by have := (hI_32).2.2.2.2.1; omega)) (cwV 1 hts gX12_some_X12_emits rfl rfl rfl hd_yX12_emits ⟨Nat.le_of_ble_eq_true rfl, Nat.le_of_ble_eq_true rfl⟩) ⟨fun a U g mk q => by obtain ⟨q0, q1, qP, qK, qD⟩ := q; exact ⟨q0, mvz g mk a q1, mvP g mk a qP, mvK g mk a qK, qD⟩, va_recv hK hP (ci := 14) (q := (RX12, TX12, 23)) (q0 := 0) rfl rfl, fun U hU hW => ⟨rfl, by rw [hU], by rw [hU]; exact hPc, va_K.moved hW.alike hKc, hDc.weaken (fun _ _ _ _ => trivial)⟩⟩ rfl rfl hl.1 rfl (lv_room (Nat.le_of_ble_eq_true rfl)) dX12_some_37 ⟨Nat.le_of_ble_eq_true rfl, Nat.le_of_ble_eq_true rfl⟩) hS (fun q _ h => hFc q h) hFc (fun u tC H1 locs htC hvm hw_37 hB hz1 hk1 hS => ?_)
              obtain ⟨fS9_38, rfl⟩ : ∃ z, z = u := ⟨_, rfl⟩
              try dsimp only at hw_37 hB
              obtain ⟨hP1, hK1, hD1⟩ := hB
              rw [htC] at hP1
              have hK1 := va_K.moved hvm.symm hK1
              obtain ⟨hP, hD⟩ := va_join (wr := []) (w1 := [(zo14irriiiiiirriirrrrlriiii m0 th aS aI im (nI a) (nI p_25) (nI E) 0 4 aB aT se dn aG aO aN aD bv aY rn kd nu tv), (zaI aS cS 901 fS9_38)]) hP hD [0, 1] [] rfl rfl (by decide) (by decide) hk1 hFc hP1 hD1
              have hK := (hK.sub (tys' := []) [] rfl).app hK1
              generalize H1 = H at hP hS ⊢
              have hP : va_P (dC, dI) vwCl [(zo14irriiiiiirriirrrrlriiii m0 th aS aI im (nI a) (nI p_25) (nI E) 0 4 aB aT se dn aG aO aN aD bv aY rn kd nu tv), (zaI aS cS 901 fS9_38)] H := hP
              have hD : va_D A [(zo14irriiiiiirriirrrrlriiii m0 th aS aI im (nI a) (nI p_25) (nI E) 0 4 aB aT se dn aG aO aN aD bv aY rn kd nu tv), (zaI aS cS 901 fS9_38)] := hD
              have hK : va_K (dC, dI) vwCl [(cS, .int)] s := hK
              obtain rfl : fS9_38 = emt fS9_22 a ((K ++ L1) ++ L_26).length (-3) := by rcases hw_37 with ⟨q, _⟩ | ⟨_, q⟩; exact absurd rfl q; exact q
              have hI_39 : PI (emt fS9_22 a ((K ++ L1) ++ L_26).length (-3)) a (((K ++ L1) ++ L_26) ++ [1803]) (((d + 1) + 1) - 1) p_25 E := PI.em (t := 1803) ((hI_32).mono (by omega) (by omega)) (by omega) (by omega) (stepd_either (by omega)) (by decide)
              have hF_40 : PF a fS (emt fS9_22 a ((K ++ L1) ++ L_26).length (-3)) := ((hF).tr hF_30).tr (PF_emt (k := ((K ++ L1) ++ L_26).length) (x := (-3)) ga (by have := (hI_32).2.2.2.2.1; omega))
              have hKhI_39 : (((K ++ L1) ++ L_26) ++ [1803]).length = ((K ++ L1) ++ L_26).length + 1 := by rw [List.length_append]; rfl
              refine lv_goto (tgt := 4) hx hb dX12_some_40 (by decide) ?_
              exact ih4 (p_25) (L1 ++ (L_26 ++ [1803])) (m2) (0) (emt fS9_22 a ((K ++ L1) ++ L_26).length (-3)) (by omega) (by omega) (hF_40) (Or.inr ⟨rfl, hE9.trans (ps_go hs9 eP_27), by omega, by omega, PI.as (PI.as hI_39), by simp only [List.length_append, List.length_cons, List.length_nil]; omega⟩) _ _ (hK.sub [0] rfl) (hP.sub [0, 1] rfl) (hD.sub [0, 1] (by decide) rfl) hS ls (lv_sub hl [0] rfl)
    exact L4 _ (p_6) ([]) (0) (1) (fS9_3) (Nat.lt_succ_self _) (by omega) ((PF.rf).tr hF_11) (Or.inl ⟨rfl, pSm_n eP_8⟩) _ _ (hK.sub [0] rfl) (hP.sub [0, 1] rfl) (hD.sub [0, 1] (by decide) rfl) hS ls (lv_sub hl [0] rfl)
  · skip
    have k5 := hI_13.2.2.2.2.1
    have hqL_7 : (K ++ L_7).length = K.length + L_7.length := List.length_append
    have L4 : ∀ (nF : Nat) (p1 : Nat) (L1 : List Nat) (m1 : Nat) (w1 : Int32) (f1 : Nat → Int32), E - p1 < nF → (p0 ≤ p1 ∧ p1 ≤ E) → (PF a fS f1) → ((w1 = 1 ∧ pSm ss (pFac ss 1) p0 = (none, p1)) ∨ (w1 = 0 ∧ pSm ss (pFac ss 1) p0 = pSep ss 124 1803 (pEv ss (pFac ss 1)) m1 (some L1, p1) ∧ 101 ≤ m1 + p1 ∧ p0 + 3 ≤ p1 ∧ PI f1 a (K ++ L1) (d + 1) p1 E ∧ L1.length + p0 ≤ p1)) → ∀ (H : Heap) (locs : List Loc), va_K (dC, dI) vwCl [(cS, .int)] s → va_P (dC, dI) vwCl [(zo14irriiiiiirriirrrrlriiii m0 th aS aI im (nI a) (nI p1) (nI E) w1 4 aB aT se dn aG aO aN aD bv aY rn kd nu tv), (zaI aS cS 901 f1)] H → va_D A [(zo14irriiiiiirriirrrrlriiii m0 th aS aI im (nI a) (nI p1) (nI E) w1 4 aB aT se dn aG aO aN aD bv aY rn kd nu tv), (zaI aS cS 901 f1)] → va_S A s.heap H locs → ∀ (ls : Array Slot), lv_has ls 1 [(0, .ref m0)] → W p l e ({ frames := 10, cells := 0, slots := 0, locals := 215 } : Room) s m args below meth c H locs 0 0 Q (F0 m 4 ls []) := by
      intro nF
      induction nF with
      | zero => intro p1 L1 m1 w1 f1 hm; exact absurd hm (Nat.not_lt_zero _)
      | succ nF ih4 =>
        intro p1 L1 m1 w1 f1 hm h1 hF hw1 H locs hK hP hD hS ls hl
        obtain ⟨h1a, h1b⟩ := h1
        rcases hw1 with ⟨rfl, hE9⟩ | ⟨rfl, hE9, hm9, h3, hI, h4⟩
        · skip
          refine lv_aload_n hx hb dX12_some_4 rfl (lv_at hl 0 rfl) ?_
          refine va_get (D := (dC, dI)) (ci := 14) (v := .int 1) (C := RX12) (T := TX12) (N := 23) hx hb hts kc_some4_0 hown hK hP 0 rfl rfl 7 (by decide) (hts (.fieldLink RX12 65 "MistHeapsModel" "isWrong" "Z") kc_some4_1) (fun _ h9 => h9) rfl dX12_some_5 ?_
          refine lv_if_ne (tgt := 43) hx hb dX12_some_8 (by decide) (fun _ => ?_) (fun c_41 => absurd c_41 (by decide))
          rw [hQ]
          have hP9 := hP.sub (ws' := [(zo14irriiiiiirriirrrrlriiii m0 th aS aI im (nI a) (nI p1) (nI E) 1 4 aB aT se dn aG aO aN aD bv aY rn kd nu tv), (zaI aS cS 901 f1)]) [0, 1] rfl
          have hD9 := hD.sub (ws' := [(zo14irriiiiiirriirrrrlriiii m0 th aS aI im (nI a) (nI p1) (nI E) 1 4 aB aT se dn aG aO aN aD bv aY rn kd nu tv), (zaI aS cS 901 f1)]) [0, 1] (by decide) rfl
          have hK9 := hK.sub (tys' := [(cS, .int)]) [0] rfl
          exact W.vret hx hb hr (fun tQ htQ hWQ => ⟨⟨(f1, (nI p1), 1), rfl, ⟨p1, rfl, by omega, by omega, hF, Or.inl ⟨rfl, hE9⟩⟩, by rw [htQ]; exact hP9, va_K.moved hWQ.alike hK9, hD9⟩, hS.F htQ⟩) hS.2.2 dX12_some_43
        · skip
          have k5 := hI.2.2.2.2.1
          have hq1 : (K ++ L1).length = K.length + L1.length := List.length_append
          refine lv_aload_n hx hb dX12_some_4 rfl (lv_at hl 0 rfl) ?_
          refine va_get (D := (dC, dI)) (ci := 14) (v := .int 0) (C := RX12) (T := TX12) (N := 23) hx hb hts kc_some4_0 hown hK hP 0 rfl rfl 7 (by decide) (hts (.fieldLink RX12 65 "MistHeapsModel" "isWrong" "Z") kc_some4_1) (fun _ h9 => h9) rfl dX12_some_5 ?_
          refine lv_if_ne (tgt := 43) hx hb dX12_some_8 (by decide) (fun c_42 => absurd c_42 (by decide)) (fun _ => ?_)
          refine lv_aload_n hx hb dX12_some_11 rfl (lv_at hl 0 rfl) ?_
          have hPc := hP.sub (ws' := [(zo14irriiiiiirriirrrrlriiii m0 th aS aI im (nI a) (nI p1) (nI E) 0 4 aB aT se dn aG aO aN aD bv aY rn kd nu tv), (zaI aS cS 901 f1)]) [0, 1] rfl
          have hKc := hK.sub (tys' := [(cS, .int)]) [0] rfl
          refine vp_callSi (va_runV (As := []) (rest := []) ⟨hx, hb, hml, hown, hts⟩ (c_here l dC dI m0 aS aI aB aT aG aO aN aD aY th im (nI a) (nI p1) (nI E) 0 4 se dn rn kd nu tv bv cS f1 a p1 E (by omega) (by omega) (by omega)) (cwV 0 hts gX12_some_X12_here rfl rfl rfl hd_yX12_here ⟨Nat.le_of_ble_eq_true rfl, Nat.le_of_ble_eq_true rfl⟩) ⟨fun a U g mk q => by obtain ⟨q0, qP, qK⟩ := q; exact ⟨q0, mvP g mk a qP, mvK g mk a qK⟩, va_recv hK hP (ci := 14) (q := (RX12, TX12, 23)) (q0 := 0) rfl rfl, fun U hU hW => ⟨rfl, by rw [hU]; exact hPc, va_K.moved hW.alike hKc⟩⟩ rfl rfl hl.1 rfl (lv_room (Nat.le_of_ble_eq_true rfl)) dX12_some_12 ⟨Nat.le_of_ble_eq_true rfl, Nat.le_of_ble_eq_true rfl⟩).run (fun r_43 hw_44 => ?_)
          refine lv_bipush (v := 124) hx hb dX12_some_15 (by decide) ?_
          refine lv_icmp_ne (tgt := 43) hx hb dX12_some_17 (by decide) (fun c_45 => ?_) (fun c_45 => ?_)
          · skip
            have hn9 : ¬ ss p1 = 124 := fun z => c_45 (by rw [hw_44]; exact ((TP_PF gT gE hF).eq (c := 124) (by omega) (by omega)).mpr z)
            rw [hQ]
            have hP9 := hP.sub (ws' := [(zo14irriiiiiirriirrrrlriiii m0 th aS aI im (nI a) (nI p1) (nI E) 0 4 aB aT se dn aG aO aN aD bv aY rn kd nu tv), (zaI aS cS 901 f1)]) [0, 1] rfl
            have hD9 := hD.sub (ws' := [(zo14irriiiiiirriirrrrlriiii m0 th aS aI im (nI a) (nI p1) (nI E) 0 4 aB aT se dn aG aO aN aD bv aY rn kd nu tv), (zaI aS cS 901 f1)]) [0, 1] (by decide) rfl
            have hK9 := hK.sub (tys' := [(cS, .int)]) [0] rfl
            exact W.vret hx hb hr (fun tQ htQ hWQ => ⟨⟨(f1, (nI p1), 0), rfl, ⟨p1, rfl, by omega, by omega, hF, Or.inr ⟨rfl, L1, hE9.trans (ps_end hn9), by omega, hI, by (try simp only [List.length_append, List.length_cons, List.length_nil]); omega⟩⟩, by rw [htQ]; exact hP9, va_K.moved hWQ.alike hK9, hD9⟩, hS.F htQ⟩) hS.2.2 dX12_some_43
          · skip
            have hs9 : ss p1 = 124 := ((TP_PF gT gE hF).eq (c := 124) (by omega) (by omega)).mp (by rw [← hw_44, c_45]; rfl)
            have hlt : p1 < E := Nat.lt_of_not_le (fun z => by have := gT.2.1 p1 z; omega)
            obtain ⟨m2, rfl⟩ : ∃ q : Nat, m1 = q + 1 := ⟨m1 - 1, by omega⟩
            refine lv_aload_n hx hb dX12_some_20 rfl (lv_at hl 0 rfl) ?_
            refine lv_dup hx hb dX12_some_21 rfl ?_
            refine va_get (D := (dC, dI)) (ci := 14) (v := .int (nI p1)) (C := RX12) (T := TX12) (N := 23) hx hb hts kc_some4_0 hown hK hP 0 rfl rfl 5 (by decide) (hts (.fieldLink RX12 59 "MistHeapsModel" "spot" "I") kc_some4_2) (fun _ h9 => h9) rfl dX12_some_22 ?_
            refine lv_iconst (v := 1) hx hb dX12_some_25 (by decide) ?_
            refine lv_iadd hx hb dX12_some_26 ?_
            refine qi_as (y := nI (p1 + 1)) (nI_add p1 1) ?_
            refine va_put (D := (dC, dI)) (ci := 14) (v := .int (nI (p1 + 1))) (ty := .int) (C := RX12) (T := TX12) (N := 23) hx hb hts kc_some4_0 tyX12 tyX12_ok nmX12 hown hK hP hD hS 0 rfl rfl 5 (by decide) (hts (.fieldLink RX12 59 "MistHeapsModel" "spot" "I") kc_some4_2) (fun _ h9 => h9) rfl (by decide +kernel) rfl rfl (Nat.le_of_ble_eq_true rfl) dX12_some_27 (fun H locs hP hD hS => ?_)
            have hP : va_P (dC, dI) vwCl [(zo14irriiiiiirriirrrrlriiii m0 th aS aI im (nI a) (nI (p1 + 1)) (nI E) 0 4 aB aT se dn aG aO aN aD bv aY rn kd nu tv), (zaI aS cS 901 f1)] H := hP
            have hD : va_D A [(zo14irriiiiiirriirrrrlriiii m0 th aS aI im (nI a) (nI (p1 + 1)) (nI E) 0 4 aB aT se dn aG aO aN aD bv aY rn kd nu tv), (zaI aS cS 901 f1)] := hD
            refine lv_aload_n hx hb dX12_some_30 rfl (lv_at hl 0 rfl) ?_
            have hPc := hP.sub (ws' := [(zo14irriiiiiirriirrrrlriiii m0 th aS aI im (nI a) (nI (p1 + 1)) (nI E) 0 4 aB aT se dn aG aO aN aD bv aY rn kd nu tv), (zaI aS cS 901 f1)]) [0, 1] rfl
            have hDc := hD.sub (ws' := [(zo14irriiiiiirriirrrrlriiii m0 th aS aI im (nI a) (nI (p1 + 1)) (nI E) 0 4 aB aT se dn aG aO aN aD bv aY rn kd nu tv), (zaI aS cS 901 f1)]) [0, 1] (by decide) rfl
            have hKc := hK.sub (tys' := [(cS, .int)]) [0] rfl
            have hFc := va_free (wc := [(zo14irriiiiiirriirrrrlriiii m0 th aS aI im (nI a) (nI (p1 + 1)) (nI E) 0 4 aB aT se dn aG aO aN aD bv aY rn kd nu tv), (zaI aS cS 901 f1)]) hD hS hA [0, 1] rfl
            refine va_callv (va_runV (As := []) (rest := []) ⟨hx, hb, hml, hown, hts⟩ (c_every4 l dC dI sK sV m0 aS aI aB aT aG aO aN aD aY th im (nI a) (nI (p1 + 1)) (nI E) 0 4 se dn rn kd nu tv bv cS f1 a (p1 + 1) E (K ++ L1) (d + 1) ss H.size ((hI).mono (by omega) (by omega)) ((TP_PF gT gE (hF)))) (cwV 0 hts gX12_some_X12_every rfl rfl rfl hd_yX12_every ⟨Nat.le_of_ble_eq_true rfl, Nat.le_of_ble_eq_true rfl⟩) ⟨fun a U g mk q => by obtain ⟨q0, q1, qP, qK, qD, qhE⟩ := q; exact ⟨q0, mvz g mk a q1, mvP g mk a qP, mvK g mk a qK, qD, qhE.mv g mk a⟩, va_recv hK hP (ci := 14) (q := (RX12, TX12, 23)) (q0 := 0) rfl rfl, fun U hU hW => ⟨rfl, by rw [hU], by rw [hU]; exact hPc, va_K.moved hW.alike hKc, hDc.weaken (fun _ _ _ _ => trivial), hE.call hS hU hW (fun q h => hFc q h)⟩⟩ rfl rfl hl.1 rfl (lv_room (Nat.le_of_ble_eq_true rfl)) dX12_some_31 ⟨Nat.le_of_ble_eq_true rfl, Nat.le_of_ble_eq_true rfl⟩) hS (fun q _ h => hFc q h) hFc (fun u tC H1 locs htC hvm hw_47 hB hz1 hk1 hS => ?_)
            obtain ⟨fS9_48, sp9_49, wg9_50⟩ := u
            try dsimp only at hw_47 hB
            obtain ⟨hP1, hK1, hD1⟩ := hB
            rw [htC] at hP1
            have hK1 := va_K.moved hvm.symm hK1
            obtain ⟨hP, hD⟩ := va_join (wr := []) (w1 := [(zo14irriiiiiirriirrrrlriiii m0 th aS aI im (nI a) sp9_49 (nI E) wg9_50 4 aB aT se dn aG aO aN aD bv aY rn kd nu tv), (zaI aS cS 901 fS9_48)]) hP hD [0, 1] [] rfl rfl (by decide) (by decide) hk1 hFc hP1 hD1
            have hK := (hK.sub (tys' := []) [] rfl).app hK1
            generalize H1 = H at hP hS ⊢
            have hP : va_P (dC, dI) vwCl [(zo14irriiiiiirriirrrrlriiii m0 th aS aI im (nI a) sp9_49 (nI E) wg9_50 4 aB aT se dn aG aO aN aD bv aY rn kd nu tv), (zaI aS cS 901 fS9_48)] H := hP
            have hD : va_D A [(zo14irriiiiiirriirrrrlriiii m0 th aS aI im (nI a) sp9_49 (nI E) wg9_50 4 aB aT se dn aG aO aN aD bv aY rn kd nu tv), (zaI aS cS 901 fS9_48)] := hD
            have hK : va_K (dC, dI) vwCl [(cS, .int)] s := hK
            obtain ⟨p_51, rfl, h_54, h_55, hF_56, q9⟩ := hw_47
            rcases q9 with ⟨rfl, eP_53⟩ | ⟨rfl, L_52, eP_53, h_57, hI_58, h_59⟩
            · skip
              refine lv_aload_n hx hb dX12_some_34 rfl (lv_at hl 0 rfl) ?_
              refine lv_bipush (v := (-3)) hx hb dX12_some_35 (by decide) ?_
              have hPc := hP.sub (ws' := [(zo14irriiiiiirriirrrrlriiii m0 th aS aI im (nI a) (nI p_51) (nI E) 1 4 aB aT se dn aG aO aN aD bv aY rn kd nu tv)]) [0] rfl
              have hKc := hK.sub (tys' := []) [] rfl
              refine va_csv (va_runV (As := [.int (-3)]) (rest := []) ⟨hx, hb, hml, hown, hts⟩ (c_emitsW l dC dI m0 aS aI aB aT aG aO aN aD aY th im (nI a) (nI p_51) (nI E) 1 4 se dn rn kd nu tv bv (-3)) (cwV 1 hts gX12_some_X12_emits rfl rfl rfl hd_yX12_emits ⟨Nat.le_of_ble_eq_true rfl, Nat.le_of_ble_eq_true rfl⟩) ⟨fun a U g mk q => by obtain ⟨q0, qP, qK⟩ := q; exact ⟨q0, mvP g mk a qP, mvK g mk a qK⟩, va_recv hK hP (ci := 14) (q := (RX12, TX12, 23)) (q0 := 0) rfl rfl, fun U hU hW => ⟨rfl, by rw [hU]; exact hPc, va_K.moved hW.alike hKc⟩⟩ rfl rfl hl.1 rfl (lv_room (Nat.le_of_ble_eq_true rfl)) dX12_some_37 ⟨Nat.le_of_ble_eq_true rfl, Nat.le_of_ble_eq_true rfl⟩).run (fun hw_61 => ?_)
              refine lv_goto (tgt := 4) hx hb dX12_some_40 (by decide) ?_
              exact ih4 (p_51) ([]) (0) (1) (fS9_48) (by omega) (by omega) ((hF).tr hF_56) (Or.inl ⟨rfl, hE9.trans (ps_bad hs9 eP_53)⟩) _ _ (hK.sub [0] rfl) (hP.sub [0, 1] rfl) (hD.sub [0, 1] (by decide) rfl) hS ls (lv_sub hl [0] rfl)
            · skip
              have k5 := hI_58.2.2.2.2.1
              have hqL_52 : ((K ++ L1) ++ L_52).length = (K ++ L1).length + L_52.length := List.length_append
              refine lv_aload_n hx hb dX12_some_34 rfl (lv_at hl 0 rfl) ?_
              refine lv_bipush (v := (-3)) hx hb dX12_some_35 (by decide) ?_
              have hPc := hP.sub (ws' := [(zo14irriiiiiirriirrrrlriiii m0 th aS aI im (nI a) (nI p_51) (nI E) 0 4 aB aT se dn aG aO aN aD bv aY rn kd nu tv), (zaI aS cS 901 fS9_48)]) [0, 1] rfl
              have hDc := hD.sub (ws' := [(zo14irriiiiiirriirrrrlriiii m0 th aS aI im (nI a) (nI p_51) (nI E) 0 4 aB aT se dn aG aO aN aD bv aY rn kd nu tv), (zaI aS cS 901 fS9_48)]) [0, 1] (by decide) rfl
              have hKc := hK.sub (tys' := [(cS, .int)]) [0] rfl
              have hFc := va_free (wc := [(zo14irriiiiiirriirrrrlriiii m0 th aS aI im (nI a) (nI p_51) (nI E) 0 4 aB aT se dn aG aO aN aD bv aY rn kd nu tv), (zaI aS cS 901 fS9_48)]) hD hS hA [0, 1] rfl
              refine va_callv (va_runV (As := [.int (-3)]) (rest := []) ⟨hx, hb, hml, hown, hts⟩ (c_emits l dC dI m0 aS aI aB aT aG aO aN aD aY th im (nI a) (nI p_51) (nI E) 0 4 se dn rn kd nu tv bv cS fS9_48 a ((K ++ L1) ++ L_52).length (-3) H.size (ga) ((hI_58).2.2.2.1) (by have := (hI_58).2.2.2.2.1; omega)) (cwV 1 hts gX12_some_X12_emits rfl rfl rfl hd_yX12_emits ⟨Nat.le_of_ble_eq_true rfl, Nat.le_of_ble_eq_true rfl⟩) ⟨fun a U g mk q => by obtain ⟨q0, q1, qP, qK, qD⟩ := q; exact ⟨q0, mvz g mk a q1, mvP g mk a qP, mvK g mk a qK, qD⟩, va_recv hK hP (ci := 14) (q := (RX12, TX12, 23)) (q0 := 0) rfl rfl, fun U hU hW => ⟨rfl, by rw [hU], by rw [hU]; exact hPc, va_K.moved hW.alike hKc, hDc.weaken (fun _ _ _ _ => trivial)⟩⟩ rfl rfl hl.1 rfl (lv_room (Nat.le_of_ble_eq_true rfl)) dX12_some_37 ⟨Nat.le_of_ble_eq_true rfl, Nat.le_of_ble_eq_true rfl⟩) hS (fun q _ h => hFc q h) hFc (fun u tC H1 locs htC hvm hw_63 hB hz1 hk1 hS => ?_)
              obtain ⟨fS9_64, rfl⟩ : ∃ z, z = u := ⟨_, rfl⟩
              try dsimp only at hw_63 hB
              obtain ⟨hP1, hK1, hD1⟩ := hB
              rw [htC] at hP1
              have hK1 := va_K.moved hvm.symm hK1
              obtain ⟨hP, hD⟩ := va_join (wr := []) (w1 := [(zo14irriiiiiirriirrrrlriiii m0 th aS aI im (nI a) (nI p_51) (nI E) 0 4 aB aT se dn aG aO aN aD bv aY rn kd nu tv), (zaI aS cS 901 fS9_64)]) hP hD [0, 1] [] rfl rfl (by decide) (by decide) hk1 hFc hP1 hD1
              have hK := (hK.sub (tys' := []) [] rfl).app hK1
              generalize H1 = H at hP hS ⊢
              have hP : va_P (dC, dI) vwCl [(zo14irriiiiiirriirrrrlriiii m0 th aS aI im (nI a) (nI p_51) (nI E) 0 4 aB aT se dn aG aO aN aD bv aY rn kd nu tv), (zaI aS cS 901 fS9_64)] H := hP
              have hD : va_D A [(zo14irriiiiiirriirrrrlriiii m0 th aS aI im (nI a) (nI p_51) (nI E) 0 4 aB aT se dn aG aO aN aD bv aY rn kd nu tv), (zaI aS cS 901 fS9_64)] := hD
              have hK : va_K (dC, dI) vwCl [(cS, .int)] s := hK
              obtain rfl : fS9_64 = emt fS9_48 a ((K ++ L1) ++ L_52).length (-3) := by rcases hw_63 with ⟨q, _⟩ | ⟨_, q⟩; exact absurd rfl q; exact q
              have hI_65 : PI (emt fS9_48 a ((K ++ L1) ++ L_52).length (-3)) a (((K ++ L1) ++ L_52) ++ [1803]) (((d + 1) + 1) - 1) p_51 E := PI.em (t := 1803) ((hI_58).mono (by omega) (by omega)) (by omega) (by omega) (stepd_either (by omega)) (by decide)
              have hF_66 : PF a fS (emt fS9_48 a ((K ++ L1) ++ L_52).length (-3)) := ((hF).tr hF_56).tr (PF_emt (k := ((K ++ L1) ++ L_52).length) (x := (-3)) ga (by have := (hI_58).2.2.2.2.1; omega))
              have hKhI_65 : (((K ++ L1) ++ L_52) ++ [1803]).length = ((K ++ L1) ++ L_52).length + 1 := by rw [List.length_append]; rfl
              refine lv_goto (tgt := 4) hx hb dX12_some_40 (by decide) ?_
              exact ih4 (p_51) (L1 ++ (L_52 ++ [1803])) (m2) (0) (emt fS9_48 a ((K ++ L1) ++ L_52).length (-3)) (by omega) (by omega) (hF_66) (Or.inr ⟨rfl, hE9.trans (ps_go hs9 eP_53), by omega, by omega, PI.as (PI.as hI_65), by simp only [List.length_append, List.length_cons, List.length_nil]; omega⟩) _ _ (hK.sub [0] rfl) (hP.sub [0, 1] rfl) (hD.sub [0, 1] (by decide) rfl) hS ls (lv_sub hl [0] rfl)
    exact L4 _ (p_6) (L_7) (101) (0) (fS9_3) (Nat.lt_succ_self _) (by omega) ((PF.rf).tr hF_11) (Or.inr ⟨rfl, pSm_s eP_8, by omega, by omega, hI_13, by omega⟩) _ _ (hK.sub [0] rfl) (hP.sub [0, 1] rfl) (hD.sub [0, 1] (by decide) rfl) hS ls (lv_sub hl [0] rfl)
end mg12b
section mg12b

theorem kc_factor3_0 : ∀ w ∈ wsX120, w ∈ wsX12_factor := fun w h => List.mem_cons_of_mem _ (gin_wsX120 w h)
theorem kc_factor3_1 : (.fieldLink RX12 65 "MistHeapsModel" "isWrong" "Z" : Cond) ∈ wsX12_factor := kc_of 1147 rfl rfl rfl
theorem kc_factor3_2 : (.fieldLink RX12 89 "MistHeapsModel" "open" "I" : Cond) ∈ wsX12_factor := kc_of 1148 rfl rfl rfl
theorem kc_factor3_3 : (.fieldLink RX12 59 "MistHeapsModel" "spot" "I" : Cond) ∈ wsX12_factor := kc_of 1145 rfl rfl rfl
set_option maxHeartbeats 4000000 in
set_option maxRecDepth 100000 in
theorem c_factor3 (l : Launch) (dC : Nat → ClassId) (dI : Nat → Nat → Nat) (sK sV : Nat → Nat) (m0 aS aI aB aT aG aO aN aD aY : Nat) (th im ac sp en wg op se dn rn kd nu tv : Int32) (bv : Int64) (cS : ClassId) (fS : Nat → Int32) (a p0 E : Nat) (K : List Nat) (d : Nat) (ss : Nat → Nat) (sz : Nat) (gI : PI fS a K d p0 E) (gT : TP fS E ss) : Met l yX12_factor wsX12_factor ({ frames := 11, cells := 0, slots := 0, locals := 235 } : Room) (va_Pc [.ref m0] (fun U => U.heap.size = sz ∧ va_P (dC, dI) vwCl [(zo14irriiiiiirriirrrrlriiii m0 th aS aI im (nI a) (nI p0) (nI E) 0 3 aB aT se dn aG aO aN aD bv aY rn kd nu tv), (zaI aS cS 901 fS)] U.heap ∧ va_K (dC, dI) vwCl [(cS, .int)] U ∧ va_D (fun _ => True) [(zo14irriiiiiirriirrrrlriiii m0 th aS aI im (nI a) (nI p0) (nI E) 0 3 aB aT se dn aG aO aN aD bv aY rn kd nu tv), (zaI aS cS 901 fS)] ∧ Gs sK sV (va_A [(zo14irriiiiiirriirrrrlriiii m0 th aS aI im (nI a) (nI p0) (nI E) 0 3 aB aT se dn aG aO aN aD bv aY rn kd nu tv), (zaI aS cS 901 fS)] sz) U)) (va_Qv (fun (u : (Nat → Int32) × (Int32) × (Int32)) => match u with | (fS9, sp9, wg9) => ∃ p9 : Nat, sp9 = nI p9 ∧ p0 ≤ p9 ∧ p9 ≤ E ∧ PF a fS fS9 ∧ ((wg9 = 1 ∧ pFac ss 2 p0 = (none, p9)) ∨ (wg9 = 0 ∧ ∃ L : List Nat, pFac ss 2 p0 = (some L, p9) ∧ p0 + 3 ≤ p9 ∧ PI fS9 a (K ++ L) (d + 1) p9 E ∧ L.length + p0 ≤ p9))) (fun (u : (Nat → Int32) × (Int32) × (Int32)) (t : State) => match u with | (fS9, sp9, wg9) => va_P (dC, dI) vwCl [(zo14irriiiiiirriirrrrlriiii m0 th aS aI im (nI a) sp9 (nI E) wg9 3 aB aT se dn aG aO aN aD bv aY rn kd nu tv), (zaI aS cS 901 fS9)] t.heap ∧ va_K (dC, dI) vwCl [(cS, .int)] t ∧ va_D (va_A [(zo14irriiiiiirriirrrrlriiii m0 th aS aI im (nI a) (nI p0) (nI E) 0 3 aB aT se dn aG aO aN aD bv aY rn kd nu tv), (zaI aS cS 901 fS)] sz) [(zo14irriiiiiirriirrrrlriiii m0 th aS aI im (nI a) sp9 (nI E) wg9 3 aB aT se dn aG aO aN aD bv aY rn kd nu tv), (zaI aS cS 901 fS9)]) (va_A [(zo14irriiiiiirriirrrrlriiii m0 th aS aI im (nI a) (nI p0) (nI E) 0 3 aB aT se dn aG aO aN aD bv aY rn kd nu tv), (zaI aS cS 901 fS)] sz)) 0 0 (va_A [(zo14irriiiiiirriirrrrlriiii m0 th aS aI im (nI a) (nI p0) (nI E) 0 3 aB aT se dn aG aO aN aD bv aY rn kd nu tv), (zaI aS cS 901 fS)] sz) := by
  refine met_ofQ (cc := cX12_factor) (maxL := 5) (ret := none) (by decide) rfl ?_
  intro p e s m args below meth c s₁ Q B hml hv hQ
  obtain ⟨rfl, hsz, hP, hK, hD0, hE⟩ := hv
  have hx := B.exec
  have hb := B.bytes
  have hr := B.returns
  have hts := atoms_spec (ws := wsX12_factor) B.pre
  have hown : s.vm.findClass RX12 = some m.cls := findClass_of_methodNamed B.named
  have hlocks := B.notSynchronized
  subst hsz
  have hD := hD0.self (sz := s.heap.size)
  generalize hAe : va_A [(zo14irriiiiiirriirrrrlriiii m0 th aS aI im (nI a) (nI p0) (nI E) 0 3 aB aT se dn aG aO aN aD bv aY rn kd nu tv), (zaI aS cS 901 fS)] s.heap.size = A at hD hQ hE ⊢
  have hA : ∀ q : Nat, s.heap.size ≤ q → A q := fun q h => by rw [← hAe]; exact Or.inr h
  have hS : va_S A s.heap s.heap [] := va_S.rf
  have hl := lv_entry [.ref m0] (n := 5) (Nat.le_of_ble_eq_true rfl)
  rw [lg_entry_eq]
  generalize (lg_sl [.ref m0] ++ List.replicate (5 - (lg_sl [.ref m0]).length) Slot.unset).toArray = ls at hl ⊢
  generalize hag : ([.ref m0] : List Value).toArray = args at hts hQ ⊢
  have hl : lv_has ls 5 [(0, .ref m0)] := hl
  obtain ⟨H, hH⟩ : ∃ H : Heap, H = s.heap := ⟨_, rfl⟩
  rw [← hH] at hP
  rw [← hH]
  have hS : va_S A s.heap H [] := by rw [hH]; exact hS
  obtain ⟨locs, hlo⟩ : ∃ L : List Loc, L = [] := ⟨_, rfl⟩
  rw [← hlo] at hS
  rw [← hlo]
  clear hH hlo
  obtain ⟨ga, gp, gE, zk, gkp, gd, gs, gcd⟩ := id gI
  refine lv_aload_n hx hb dX12_factor_0 rfl (lv_at hl 0 rfl) ?_
  refine va_get (D := (dC, dI)) (ci := 14) (v := .int 0) (C := RX12) (T := TX12) (N := 23) hx hb hts kc_factor3_0 hown hK hP 0 rfl rfl 7 (by decide) (hts (.fieldLink RX12 65 "MistHeapsModel" "isWrong" "Z") kc_factor3_1) (fun _ h9 => h9) rfl dX12_factor_1 ?_
  refine lv_if_eq (tgt := 8) hx hb dX12_factor_4 (by decide) (fun _ => ?_) (fun c_1 => absurd c_1 (by decide))
  refine lv_aload_n hx hb dX12_factor_8 rfl (lv_at hl 0 rfl) ?_
  have hPc := hP.sub (ws' := [(zo14irriiiiiirriirrrrlriiii m0 th aS aI im (nI a) (nI p0) (nI E) 0 3 aB aT se dn aG aO aN aD bv aY rn kd nu tv), (zaI aS cS 901 fS)]) [0, 1] rfl
  have hKc := hK.sub (tys' := [(cS, .int)]) [0] rfl
  refine vp_callSi (va_runV (As := []) (rest := []) ⟨hx, hb, hml, hown, hts⟩ (c_here l dC dI m0 aS aI aB aT aG aO aN aD aY th im (nI a) (nI p0) (nI E) 0 3 se dn rn kd nu tv bv cS fS a p0 E (by omega) (by omega) (by omega)) (cwV 0 hts gX12_factor_X12_here rfl rfl rfl hd_yX12_here ⟨Nat.le_of_ble_eq_true rfl, Nat.le_of_ble_eq_true rfl⟩) ⟨fun a U g mk q => by obtain ⟨q0, qP, qK⟩ := q; exact ⟨q0, mvP g mk a qP, mvK g mk a qK⟩, va_recv hK hP (ci := 14) (q := (RX12, TX12, 23)) (q0 := 0) rfl rfl, fun U hU hW => ⟨rfl, by rw [hU]; exact hPc, va_K.moved hW.alike hKc⟩⟩ rfl rfl hl.1 rfl (lv_room (Nat.le_of_ble_eq_true rfl)) dX12_factor_9 ⟨Nat.le_of_ble_eq_true rfl, Nat.le_of_ble_eq_true rfl⟩).run (fun r_2 hw_3 => ?_)
  refine lv_istore_n (lv' := [(1, .int r_2), (0, .ref m0)]) hx hb dX12_factor_12 rfl hl (by decide) rfl (fun ls hl => ?_)
  refine lv_iload_n hx hb dX12_factor_13 rfl (lv_at hl 0 rfl) ?_
  refine lv_bipush (v := 33) hx hb dX12_factor_14 (by decide) ?_
  refine lv_icmp_eq (tgt := 25) hx hb dX12_factor_16 (by decide) (fun c_4 => ?_) (fun c_4 => ?_)
  · skip
    subst c_4
    have hs : ss p0 = 33 := (gT.eq (c := 33) (by omega) (by omega)).mp hw_3.symm
    have hlt : p0 < E := Nat.lt_of_not_le (fun z => by have := gT.2.1 p0 z; omega)
    refine lv_aload_n hx hb dX12_factor_25 rfl (lv_at hl 1 rfl) ?_
    refine lv_aload_n hx hb dX12_factor_26 rfl (lv_at hl 1 rfl) ?_
    refine va_get (D := (dC, dI)) (ci := 14) (v := .int 3) (C := RX12) (T := TX12) (N := 23) hx hb hts kc_factor3_0 hown hK hP 0 rfl rfl 8 (by decide) (hts (.fieldLink RX12 89 "MistHeapsModel" "open" "I") kc_factor3_2) (fun _ h9 => h9) rfl dX12_factor_27 ?_
    refine lv_iconst (v := 5) hx hb dX12_factor_30 (by decide) ?_
    refine lv_icmp_ne (tgt := 38) hx hb dX12_factor_31 (by decide) (fun _ => ?_) (fun c_5 => absurd c_5 (by decide))
    refine lv_iconst (v := 0) hx hb dX12_factor_38 (by decide) ?_
    refine va_put (D := (dC, dI)) (ci := 14) (v := .int 0) (ty := .boolean) (C := RX12) (T := TX12) (N := 23) hx hb hts kc_factor3_0 tyX12 tyX12_ok nmX12 hown hK hP hD hS 0 rfl rfl 7 (by decide) (hts (.fieldLink RX12 65 "MistHeapsModel" "isWrong" "Z") kc_factor3_1) (fun _ h9 => h9) rfl (by decide +kernel) rfl rfl (Nat.le_of_ble_eq_true rfl) dX12_factor_39 (fun H locs hP hD hS => ?_)
    have hP : va_P (dC, dI) vwCl [(zo14irriiiiiirriirrrrlriiii m0 th aS aI im (nI a) (nI p0) (nI E) 0 3 aB aT se dn aG aO aN aD bv aY rn kd nu tv), (zaI aS cS 901 fS)] H := hP
    have hD : va_D A [(zo14irriiiiiirriirrrrlriiii m0 th aS aI im (nI a) (nI p0) (nI E) 0 3 aB aT se dn aG aO aN aD bv aY rn kd nu tv), (zaI aS cS 901 fS)] := hD
    refine lv_aload_n hx hb dX12_factor_42 rfl (lv_at hl 1 rfl) ?_
    refine lv_dup hx hb dX12_factor_43 rfl ?_
    refine va_get (D := (dC, dI)) (ci := 14) (v := .int 3) (C := RX12) (T := TX12) (N := 23) hx hb hts kc_factor3_0 hown hK hP 0 rfl rfl 8 (by decide) (hts (.fieldLink RX12 89 "MistHeapsModel" "open" "I") kc_factor3_2) (fun _ h9 => h9) rfl dX12_factor_44 ?_
    refine lv_iconst (v := 1) hx hb dX12_factor_47 (by decide) ?_
    refine lv_iadd hx hb dX12_factor_48 ?_
    refine qi_as (y := 4) (by decide) ?_
    refine va_put (D := (dC, dI)) (ci := 14) (v := .int 4) (ty := .int) (C := RX12) (T := TX12) (N := 23) hx hb hts kc_factor3_0 tyX12 tyX12_ok nmX12 hown hK hP hD hS 0 rfl rfl 8 (by decide) (hts (.fieldLink RX12 89 "MistHeapsModel" "open" "I") kc_factor3_2) (fun _ h9 => h9) rfl (by decide +kernel) rfl rfl (Nat.le_of_ble_eq_true rfl) dX12_factor_49 (fun H locs hP hD hS => ?_)
    have hP : va_P (dC, dI) vwCl [(zo14irriiiiiirriirrrrlriiii m0 th aS aI im (nI a) (nI p0) (nI E) 0 4 aB aT se dn aG aO aN aD bv aY rn kd nu tv), (zaI aS cS 901 fS)] H := hP
    have hD : va_D A [(zo14irriiiiiirriirrrrlriiii m0 th aS aI im (nI a) (nI p0) (nI E) 0 4 aB aT se dn aG aO aN aD bv aY rn kd nu tv), (zaI aS cS 901 fS)] := hD
    refine lv_aload_n hx hb dX12_factor_52 rfl (lv_at hl 1 rfl) ?_
    refine lv_dup hx hb dX12_factor_53 rfl ?_
    refine va_get (D := (dC, dI)) (ci := 14) (v := .int (nI p0)) (C := RX12) (T := TX12) (N := 23) hx hb hts kc_factor3_0 hown hK hP 0 rfl rfl 5 (by decide) (hts (.fieldLink RX12 59 "MistHeapsModel" "spot" "I") kc_factor3_3) (fun _ h9 => h9) rfl dX12_factor_54 ?_
    refine lv_aload_n hx hb dX12_factor_57 rfl (lv_at hl 1 rfl) ?_
    refine va_get (D := (dC, dI)) (ci := 14) (v := .int 0) (C := RX12) (T := TX12) (N := 23) hx hb hts kc_factor3_0 hown hK hP 0 rfl rfl 7 (by decide) (hts (.fieldLink RX12 65 "MistHeapsModel" "isWrong" "Z") kc_factor3_1) (fun _ h9 => h9) rfl dX12_factor_58 ?_
    refine lv_if_eq (tgt := 68) hx hb dX12_factor_61 (by decide) (fun _ => ?_) (fun c_6 => absurd c_6 (by decide))
    refine lv_iconst (v := 1) hx hb dX12_factor_68 (by decide) ?_
    refine lv_iadd hx hb dX12_factor_69 ?_
    refine qi_as (y := nI (p0 + 1)) (nI_add p0 1) ?_
    refine va_put (D := (dC, dI)) (ci := 14) (v := .int (nI (p0 + 1))) (ty := .int) (C := RX12) (T := TX12) (N := 23) hx hb hts kc_factor3_0 tyX12 tyX12_ok nmX12 hown hK hP hD hS 0 rfl rfl 5 (by decide) (hts (.fieldLink RX12 59 "MistHeapsModel" "spot" "I") kc_factor3_3) (fun _ h9 => h9) rfl (by decide +kernel) rfl rfl (Nat.le_of_ble_eq_true rfl) dX12_factor_70 (fun H locs hP hD hS => ?_)
    have hP : va_P (dC, dI) vwCl [(zo14irriiiiiirriirrrrlriiii m0 th aS aI im (nI a) (nI (p0 + 1)) (nI E) 0 4 aB aT se dn aG aO aN aD bv aY rn kd nu tv), (zaI aS cS 901 fS)] H := hP
    have hD : va_D A [(zo14irriiiiiirriirrrrlriiii m0 th aS aI im (nI a) (nI (p0 + 1)) (nI E) 0 4 aB aT se dn aG aO aN aD bv aY rn kd nu tv), (zaI aS cS 901 fS)] := hD
    refine lv_iload_n hx hb dX12_factor_73 rfl (lv_at hl 0 rfl) ?_
    refine lv_bipush (v := 33) hx hb dX12_factor_74 (by decide) ?_
    refine lv_icmp_ne (tgt := 91) hx hb dX12_factor_76 (by decide) (fun c_7 => absurd c_7 (by decide)) (fun _ => ?_)
    refine lv_aload_n hx hb dX12_factor_79 rfl (lv_at hl 1 rfl) ?_
    have hPc := hP.sub (ws' := [(zo14irriiiiiirriirrrrlriiii m0 th aS aI im (nI a) (nI (p0 + 1)) (nI E) 0 4 aB aT se dn aG aO aN aD bv aY rn kd nu tv), (zaI aS cS 901 fS)]) [0, 1] rfl
    have hDc := hD.sub (ws' := [(zo14irriiiiiirriirrrrlriiii m0 th aS aI im (nI a) (nI (p0 + 1)) (nI E) 0 4 aB aT se dn aG aO aN aD bv aY rn kd nu tv), (zaI aS cS 901 fS)]) [0, 1] (by decide) rfl
    have hKc := hK.sub (tys' := [(cS, .int)]) [0] rfl
    have hFc := va_free (wc := [(zo14irriiiiiirriirrrrlriiii m0 th aS aI im (nI a) (nI (p0 + 1)) (nI E) 0 4 aB aT se dn aG aO aN aD bv aY rn kd nu tv), (zaI aS cS 901 fS)]) hD hS hA [0, 1] rfl
    refine va_callv (va_runV (As := []) (rest := []) ⟨hx, hb, hml, hown, hts⟩ (c_factor4 l dC dI sK sV m0 aS aI aB aT aG aO aN aD aY th im (nI a) (nI (p0 + 1)) (nI E) 0 4 se dn rn kd nu tv bv cS fS a (p0 + 1) E K d ss H.size ((gI).mono (by omega) (by omega)) (gT)) (cwV 0 hts gX12_factor_X12_factor rfl rfl rfl hd_yX12_factor ⟨Nat.le_of_ble_eq_true rfl, Nat.le_of_ble_eq_true rfl⟩) ⟨fun a U g mk q => by obtain ⟨q0, q1, qP, qK, qD, qhE⟩ := q; exact ⟨q0, mvz g mk a q1, mvP g mk a qP, mvK g mk a qK, qD, qhE.mv g mk a⟩, va_recv hK hP (ci := 14) (q := (RX12, TX12, 23)) (q0 := 0) rfl rfl, fun U hU hW => ⟨rfl, by rw [hU], by rw [hU]; exact hPc, va_K.moved hW.alike hKc, hDc.weaken (fun _ _ _ _ => trivial), hE.call hS hU hW (fun q h => hFc q h)⟩⟩ rfl rfl hl.1 rfl (lv_room (Nat.le_of_ble_eq_true rfl)) dX12_factor_80 ⟨Nat.le_of_ble_eq_true rfl, Nat.le_of_ble_eq_true rfl⟩) hS (fun q _ h => hFc q h) hFc (fun u tC H1 locs htC hvm hw_9 hB hz1 hk1 hS => ?_)
    obtain ⟨fS9_10, sp9_11, wg9_12⟩ := u
    try dsimp only at hw_9 hB
    obtain ⟨hP1, hK1, hD1⟩ := hB
    rw [htC] at hP1
    have hK1 := va_K.moved hvm.symm hK1
    obtain ⟨hP, hD⟩ := va_join (wr := []) (w1 := [(zo14irriiiiiirriirrrrlriiii m0 th aS aI im (nI a) sp9_11 (nI E) wg9_12 4 aB aT se dn aG aO aN aD bv aY rn kd nu tv), (zaI aS cS 901 fS9_10)]) hP hD [0, 1] [] rfl rfl (by decide) (by decide) hk1 hFc hP1 hD1
    have hK := (hK.sub (tys' := []) [] rfl).app hK1
    generalize H1 = H at hP hS ⊢
    have hP : va_P (dC, dI) vwCl [(zo14irriiiiiirriirrrrlriiii m0 th aS aI im (nI a) sp9_11 (nI E) wg9_12 4 aB aT se dn aG aO aN aD bv aY rn kd nu tv), (zaI aS cS 901 fS9_10)] H := hP
    have hD : va_D A [(zo14irriiiiiirriirrrrlriiii m0 th aS aI im (nI a) sp9_11 (nI E) wg9_12 4 aB aT se dn aG aO aN aD bv aY rn kd nu tv), (zaI aS cS 901 fS9_10)] := hD
    have hK : va_K (dC, dI) vwCl [(cS, .int)] s := hK
    obtain ⟨p_13, rfl, h_16, h_17, hF_18, q9⟩ := hw_9
    rcases q9 with ⟨rfl, eP_15⟩ | ⟨rfl, L_14, eP_15, h_19, hI_20, h_21⟩
    · skip
      refine lv_aload_n hx hb dX12_factor_83 rfl (lv_at hl 1 rfl) ?_
      refine lv_iconst (v := (-1)) hx hb dX12_factor_84 (by decide) ?_
      have hPc := hP.sub (ws' := [(zo14irriiiiiirriirrrrlriiii m0 th aS aI im (nI a) (nI p_13) (nI E) 1 4 aB aT se dn aG aO aN aD bv aY rn kd nu tv)]) [0] rfl
      have hKc := hK.sub (tys' := []) [] rfl
      refine va_csv (va_runV (As := [.int (-1)]) (rest := []) ⟨hx, hb, hml, hown, hts⟩ (c_emitsW l dC dI m0 aS aI aB aT aG aO aN aD aY th im (nI a) (nI p_13) (nI E) 1 4 se dn rn kd nu tv bv (-1)) (cwV 1 hts gX12_factor_X12_emits rfl rfl rfl hd_yX12_emits ⟨Nat.le_of_ble_eq_true rfl, Nat.le_of_ble_eq_true rfl⟩) ⟨fun a U g mk q => by obtain ⟨q0, qP, qK⟩ := q; exact ⟨q0, mvP g mk a qP, mvK g mk a qK⟩, va_recv hK hP (ci := 14) (q := (RX12, TX12, 23)) (q0 := 0) rfl rfl, fun U hU hW => ⟨rfl, by rw [hU]; exact hPc, va_K.moved hW.alike hKc⟩⟩ rfl rfl hl.1 rfl (lv_room (Nat.le_of_ble_eq_true rfl)) dX12_factor_85 ⟨Nat.le_of_ble_eq_true rfl, Nat.le_of_ble_eq_true rfl⟩).run (fun hw_23 => ?_)
      refine lv_goto (tgt := 101) hx hb dX12_factor_88 (by decide) ?_
      refine lv_aload_n hx hb dX12_factor_101 rfl (lv_at hl 1 rfl) ?_
      refine lv_dup hx hb dX12_factor_102 rfl ?_
      refine va_get (D := (dC, dI)) (ci := 14) (v := .int 4) (C := RX12) (T := TX12) (N := 23) hx hb hts kc_factor3_0 hown hK hP 0 rfl rfl 8 (by decide) (hts (.fieldLink RX12 89 "MistHeapsModel" "open" "I") kc_factor3_2) (fun _ h9 => h9) rfl dX12_factor_103 ?_
      refine lv_iconst (v := 1) hx hb dX12_factor_106 (by decide) ?_
      refine lv_isub hx hb dX12_factor_107 ?_
      refine qi_as (y := 3) (by decide) ?_
      refine va_put (D := (dC, dI)) (ci := 14) (v := .int 3) (ty := .int) (C := RX12) (T := TX12) (N := 23) hx hb hts kc_factor3_0 tyX12 tyX12_ok nmX12 hown hK hP hD hS 0 rfl rfl 8 (by decide) (hts (.fieldLink RX12 89 "MistHeapsModel" "open" "I") kc_factor3_2) (fun _ h9 => h9) rfl (by decide +kernel) rfl rfl (Nat.le_of_ble_eq_true rfl) dX12_factor_108 (fun H locs hP hD hS => ?_)
      have hP : va_P (dC, dI) vwCl [(zo14irriiiiiirriirrrrlriiii m0 th aS aI im (nI a) (nI p_13) (nI E) 1 3 aB aT se dn aG aO aN aD bv aY rn kd nu tv), (zaI aS cS 901 fS9_10)] H := hP
      have hD : va_D A [(zo14irriiiiiirriirrrrlriiii m0 th aS aI im (nI a) (nI p_13) (nI E) 1 3 aB aT se dn aG aO aN aD bv aY rn kd nu tv), (zaI aS cS 901 fS9_10)] := hD
      rw [hQ]
      have hP9 := hP.sub (ws' := [(zo14irriiiiiirriirrrrlriiii m0 th aS aI im (nI a) (nI p_13) (nI E) 1 3 aB aT se dn aG aO aN aD bv aY rn kd nu tv), (zaI aS cS 901 fS9_10)]) [0, 1] rfl
      have hD9 := hD.sub (ws' := [(zo14irriiiiiirriirrrrlriiii m0 th aS aI im (nI a) (nI p_13) (nI E) 1 3 aB aT se dn aG aO aN aD bv aY rn kd nu tv), (zaI aS cS 901 fS9_10)]) [0, 1] (by decide) rfl
      have hK9 := hK.sub (tys' := [(cS, .int)]) [0] rfl
      exact W.vret hx hb hr (fun tQ htQ hWQ => ⟨⟨(fS9_10, (nI p_13), 1), rfl, ⟨p_13, rfl, by omega, by omega, (PF.rf).tr hF_18, Or.inl ⟨rfl, pf_n0 (l := 1) hs eP_15⟩⟩, by rw [htQ]; exact hP9, va_K.moved hWQ.alike hK9, hD9⟩, hS.F htQ⟩) hS.2.2 dX12_factor_111
    · skip
      have k5 := hI_20.2.2.2.2.1
      have hqL_14 : (K ++ L_14).length = K.length + L_14.length := List.length_append
      refine lv_aload_n hx hb dX12_factor_83 rfl (lv_at hl 1 rfl) ?_
      refine lv_iconst (v := (-1)) hx hb dX12_factor_84 (by decide) ?_
      have hPc := hP.sub (ws' := [(zo14irriiiiiirriirrrrlriiii m0 th aS aI im (nI a) (nI p_13) (nI E) 0 4 aB aT se dn aG aO aN aD bv aY rn kd nu tv), (zaI aS cS 901 fS9_10)]) [0, 1] rfl
      have hDc := hD.sub (ws' := [(zo14irriiiiiirriirrrrlriiii m0 th aS aI im (nI a) (nI p_13) (nI E) 0 4 aB aT se dn aG aO aN aD bv aY rn kd nu tv), (zaI aS cS 901 fS9_10)]) [0, 1] (by decide) rfl
      have hKc := hK.sub (tys' := [(cS, .int)]) [0] rfl
      have hFc := va_free (wc := [(zo14irriiiiiirriirrrrlriiii m0 th aS aI im (nI a) (nI p_13) (nI E) 0 4 aB aT se dn aG aO aN aD bv aY rn kd nu tv), (zaI aS cS 901 fS9_10)]) hD hS hA [0, 1] rfl
      refine va_callv (va_runV (As := [.int (-1)]) (rest := []) ⟨hx, hb, hml, hown, hts⟩ (c_emits l dC dI m0 aS aI aB aT aG aO aN aD aY th im (nI a) (nI p_13) (nI E) 0 4 se dn rn kd nu tv bv cS fS9_10 a (K ++ L_14).length (-1) H.size (ga) ((hI_20).2.2.2.1) (by have := (hI_20).2.2.2.2.1; omega)) (cwV 1 hts gX12_factor_X12_emits rfl rfl rfl hd_yX12_emits ⟨Nat.le_of_ble_eq_true rfl, Nat.le_of_ble_eq_true rfl⟩) ⟨fun a U g mk q => by obtain ⟨q0, q1, qP, qK, qD⟩ := q; exact ⟨q0, mvz g mk a q1, mvP g mk a qP, mvK g mk a qK, qD⟩, va_recv hK hP (ci := 14) (q := (RX12, TX12, 23)) (q0 := 0) rfl rfl, fun U hU hW => ⟨rfl, by rw [hU], by rw [hU]; exact hPc, va_K.moved hW.alike hKc, hDc.weaken (fun _ _ _ _ => trivial)⟩⟩ rfl rfl hl.1 rfl (lv_room (Nat.le_of_ble_eq_true rfl)) dX12_factor_85 ⟨Nat.le_of_ble_eq_true rfl, Nat.le_of_ble_eq_true rfl⟩) hS (fun q _ h => hFc q h) hFc (fun u tC H1 locs htC hvm hw_25 hB hz1 hk1 hS => ?_)
      obtain ⟨fS9_26, rfl⟩ : ∃ z, z = u := ⟨_, rfl⟩
      try dsimp only at hw_25 hB
      obtain ⟨hP1, hK1, hD1⟩ := hB
      rw [htC] at hP1
      have hK1 := va_K.moved hvm.symm hK1
      obtain ⟨hP, hD⟩ := va_join (wr := []) (w1 := [(zo14irriiiiiirriirrrrlriiii m0 th aS aI im (nI a) (nI p_13) (nI E) 0 4 aB aT se dn aG aO aN aD bv aY rn kd nu tv), (zaI aS cS 901 fS9_26)]) hP hD [0, 1] [] rfl rfl (by decide) (by decide) hk1 hFc hP1 hD1
      have hK := (hK.sub (tys' := []) [] rfl).app hK1
      generalize H1 = H at hP hS ⊢
      have hP : va_P (dC, dI) vwCl [(zo14irriiiiiirriirrrrlriiii m0 th aS aI im (nI a) (nI p_13) (nI E) 0 4 aB aT se dn aG aO aN aD bv aY rn kd nu tv), (zaI aS cS 901 fS9_26)] H := hP
      have hD : va_D A [(zo14irriiiiiirriirrrrlriiii m0 th aS aI im (nI a) (nI p_13) (nI E) 0 4 aB aT se dn aG aO aN aD bv aY rn kd nu tv), (zaI aS cS 901 fS9_26)] := hD
      have hK : va_K (dC, dI) vwCl [(cS, .int)] s := hK
      obtain rfl : fS9_26 = emt fS9_10 a (K ++ L_14).length (-1) := by rcases hw_25 with ⟨q, _⟩ | ⟨_, q⟩; exact absurd rfl q; exact q
      have hI_27 : PI (emt fS9_10 a (K ++ L_14).length (-1)) a ((K ++ L_14) ++ [1801]) (d + 1) p_13 E := PI.em (t := 1801) ((hI_20).mono (by omega) (by omega)) (by omega) (by omega) (stepd_not (by omega)) (by decide)
      have hF_28 : PF a fS (emt fS9_10 a (K ++ L_14).length (-1)) := ((PF.rf).tr hF_18).tr (PF_emt (k := (K ++ L_14).length) (x := (-1)) ga (by have := (hI_20).2.2.2.2.1; omega))
      have hKhI_27 : ((K ++ L_14) ++ [1801]).length = (K ++ L_14).length + 1 := by rw [List.length_append]; rfl
      refine lv_goto (tgt := 101) hx hb dX12_factor_88 (by decide) ?_
      refine lv_aload_n hx hb dX12_factor_101 rfl (lv_at hl 1 rfl) ?_
      refine lv_dup hx hb dX12_factor_102 rfl ?_
      refine va_get (D := (dC, dI)) (ci := 14) (v := .int 4) (C := RX12) (T := TX12) (N := 23) hx hb hts kc_factor3_0 hown hK hP 0 rfl rfl 8 (by decide) (hts (.fieldLink RX12 89 "MistHeapsModel" "open" "I") kc_factor3_2) (fun _ h9 => h9) rfl dX12_factor_103 ?_
      refine lv_iconst (v := 1) hx hb dX12_factor_106 (by decide) ?_
      refine lv_isub hx hb dX12_factor_107 ?_
      refine qi_as (y := 3) (by decide) ?_
      refine va_put (D := (dC, dI)) (ci := 14) (v := .int 3) (ty := .int) (C := RX12) (T := TX12) (N := 23) hx hb hts kc_factor3_0 tyX12 tyX12_ok nmX12 hown hK hP hD hS 0 rfl rfl 8 (by decide) (hts (.fieldLink RX12 89 "MistHeapsModel" "open" "I") kc_factor3_2) (fun _ h9 => h9) rfl (by decide +kernel) rfl rfl (Nat.le_of_ble_eq_true rfl) dX12_factor_108 (fun H locs hP hD hS => ?_)
      have hP : va_P (dC, dI) vwCl [(zo14irriiiiiirriirrrrlriiii m0 th aS aI im (nI a) (nI p_13) (nI E) 0 3 aB aT se dn aG aO aN aD bv aY rn kd nu tv), (zaI aS cS 901 (emt fS9_10 a (K ++ L_14).length (-1)))] H := hP
      have hD : va_D A [(zo14irriiiiiirriirrrrlriiii m0 th aS aI im (nI a) (nI p_13) (nI E) 0 3 aB aT se dn aG aO aN aD bv aY rn kd nu tv), (zaI aS cS 901 (emt fS9_10 a (K ++ L_14).length (-1)))] := hD
      rw [hQ]
      have hP9 := hP.sub (ws' := [(zo14irriiiiiirriirrrrlriiii m0 th aS aI im (nI a) (nI p_13) (nI E) 0 3 aB aT se dn aG aO aN aD bv aY rn kd nu tv), (zaI aS cS 901 (emt fS9_10 a (K ++ L_14).length (-1)))]) [0, 1] rfl
      have hD9 := hD.sub (ws' := [(zo14irriiiiiirriirrrrlriiii m0 th aS aI im (nI a) (nI p_13) (nI E) 0 3 aB aT se dn aG aO aN aD bv aY rn kd nu tv), (zaI aS cS 901 (emt fS9_10 a (K ++ L_14).length (-1)))]) [0, 1] (by decide) rfl
      have hK9 := hK.sub (tys' := [(cS, .int)]) [0] rfl
      exact W.vret hx hb hr (fun tQ htQ hWQ => ⟨⟨((emt fS9_10 a (K ++ L_14).length (-1)), (nI p_13), 0), rfl, ⟨p_13, rfl, by omega, by omega, hF_28, Or.inr ⟨rfl, (L_14 ++ [1801]), pf_n1 (l := 1) hs eP_15, by omega, PI.as ((hI_27).mono (by omega) (by omega)), by (try simp only [List.length_append, List.length_cons, List.length_nil]); omega⟩⟩, by rw [htQ]; exact hP9, va_K.moved hWQ.alike hK9, hD9⟩, hS.F htQ⟩) hS.2.2 dX12_factor_111
  · skip
    have hn33 : ¬ ss p0 = 33 := fun z => c_4 (hw_3.trans ((gT.eq (c := 33) (by omega) (by omega)).mpr z))
    refine lv_iload_n hx hb dX12_factor_19 rfl (lv_at hl 0 rfl) ?_
    refine lv_bipush (v := 40) hx hb dX12_factor_20 (by decide) ?_
    refine lv_icmp_ne (tgt := 112) hx hb dX12_factor_22 (by decide) (fun c_29 => ?_) (fun c_29 => ?_)
    · skip
      have hn40 : ¬ ss p0 = 40 := fun z => c_29 (hw_3.trans ((gT.eq (c := 40) (by omega) (by omega)).mpr z))
      refine lv_aload_n hx hb dX12_factor_112 rfl (lv_at hl 1 rfl) ?_
      refine va_ldcS hx hb hown (show vk_R RX12 101 "hkrcms" (sK 6) s from hE.1 6 (by decide)) dX12_factor_113 ?_
      have hPc := hP.sub (ws' := [(zo14irriiiiiirriirrrrlriiii m0 th aS aI im (nI a) (nI p0) (nI E) 0 3 aB aT se dn aG aO aN aD bv aY rn kd nu tv), (zaI aS cS 901 fS)]) [0, 1] rfl
      have hDc := hD.sub (ws' := [(zo14irriiiiiirriirrrrlriiii m0 th aS aI im (nI a) (nI p0) (nI E) 0 3 aB aT se dn aG aO aN aD bv aY rn kd nu tv), (zaI aS cS 901 fS)]) [0, 1] (by decide) rfl
      have hKc := hK.sub (tys' := [(cS, .int)]) [0] rfl
      have hFc := va_free (wc := [(zo14irriiiiiirriirrrrlriiii m0 th aS aI im (nI a) (nI p0) (nI E) 0 3 aB aT se dn aG aO aN aD bv aY rn kd nu tv), (zaI aS cS 901 fS)]) hD hS hA [0, 1] rfl
      refine va_calli (va_runV (As := [.ref (sK 6)]) (rest := []) ⟨hx, hb, hml, hown, hts⟩ (c_among l dC dI sK sV m0 aS aI aB aT aG aO aN aD aY th im (nI a) (nI p0) (nI E) 0 3 se dn rn kd nu tv bv cS fS a p0 E 6 ss H.size (by omega) (by omega) (by omega) (by decide) (gT)) (cwV 1 hts gX12_factor_X12_among rfl rfl rfl hd_yX12_among ⟨Nat.le_of_ble_eq_true rfl, Nat.le_of_ble_eq_true rfl⟩) ⟨fun a U g mk q => by obtain ⟨q0, q1, qP, qK, qD, qhE⟩ := q; exact ⟨q0, mvz g mk a q1, mvP g mk a qP, mvK g mk a qK, qD, qhE.mv g mk a⟩, va_recv hK hP (ci := 14) (q := (RX12, TX12, 23)) (q0 := 0) rfl rfl, fun U hU hW => ⟨rfl, by rw [hU], by rw [hU]; exact hPc, va_K.moved hW.alike hKc, hDc.weaken (fun _ _ _ _ => trivial), hE.call hS hU hW (fun q h => hFc q h)⟩⟩ rfl rfl hl.1 rfl (lv_room (Nat.le_of_ble_eq_true rfl)) dX12_factor_115 ⟨Nat.le_of_ble_eq_true rfl, Nat.le_of_ble_eq_true rfl⟩) hS (fun q _ h => hFc q h) hFc (fun r_30 u tC H1 locs htC hvm hw_31 hB hz1 hk1 hS => ?_)
      obtain ⟨sp9_32, rfl⟩ : ∃ z, z = u := ⟨_, rfl⟩
      try dsimp only at hw_31 hB
      obtain ⟨hP1, hK1, hD1⟩ := hB
      rw [htC] at hP1
      have hK1 := va_K.moved hvm.symm hK1
      obtain ⟨hP, hD⟩ := va_join (wr := []) (w1 := [(zo14irriiiiiirriirrrrlriiii m0 th aS aI im (nI a) sp9_32 (nI E) 0 3 aB aT se dn aG aO aN aD bv aY rn kd nu tv), (zaI aS cS 901 fS)]) hP hD [0, 1] [] rfl rfl (by decide) (by decide) hk1 hFc hP1 hD1
      have hK := (hK.sub (tys' := []) [] rfl).app hK1
      generalize H1 = H at hP hS ⊢
      have hP : va_P (dC, dI) vwCl [(zo14irriiiiiirriirrrrlriiii m0 th aS aI im (nI a) sp9_32 (nI E) 0 3 aB aT se dn aG aO aN aD bv aY rn kd nu tv), (zaI aS cS 901 fS)] H := hP
      have hD : va_D A [(zo14irriiiiiirriirrrrlriiii m0 th aS aI im (nI a) sp9_32 (nI E) 0 3 aB aT se dn aG aO aN aD bv aY rn kd nu tv), (zaI aS cS 901 fS)] := hD
      have hK : va_K (dC, dI) vwCl [(cS, .int)] s := hK
      rcases hw_31 with ⟨rfl, rfl, h_36⟩ | ⟨j_33, hj_34, rfl, h_35, rfl, h_36⟩
      · skip
        have hx6 := am6_n (fun q hq => h_36 q hq)
        refine lv_istore_n (lv' := [(2, .int (-1)), (1, .int r_2), (0, .ref m0)]) hx hb dX12_factor_118 rfl hl (by decide) rfl (fun ls hl => ?_)
        refine lv_aload_n hx hb dX12_factor_119 rfl (lv_at hl 2 rfl) ?_
        refine lv_iload_n hx hb dX12_factor_120 rfl (lv_at hl 0 rfl) ?_
        refine lv_iconst (v := (-1)) hx hb dX12_factor_121 (by decide) ?_
        refine lv_icmp_ne (tgt := 129) hx hb dX12_factor_122 (by decide) (fun c_37 => absurd c_37 (by decide)) (fun _ => ?_)
        refine lv_iconst (v := 1) hx hb dX12_factor_125 (by decide) ?_
        refine lv_goto (tgt := 130) hx hb dX12_factor_126 (by decide) ?_
        refine va_put (D := (dC, dI)) (ci := 14) (v := .int 1) (ty := .boolean) (C := RX12) (T := TX12) (N := 23) hx hb hts kc_factor3_0 tyX12 tyX12_ok nmX12 hown hK hP hD hS 0 rfl rfl 7 (by decide) (hts (.fieldLink RX12 65 "MistHeapsModel" "isWrong" "Z") kc_factor3_1) (fun _ h9 => h9) rfl (by decide +kernel) rfl rfl (Nat.le_of_ble_eq_true rfl) dX12_factor_130 (fun H locs hP hD hS => ?_)
        have hP : va_P (dC, dI) vwCl [(zo14irriiiiiirriirrrrlriiii m0 th aS aI im (nI a) (nI p0) (nI E) 1 3 aB aT se dn aG aO aN aD bv aY rn kd nu tv), (zaI aS cS 901 fS)] H := hP
        have hD : va_D A [(zo14irriiiiiirriirrrrlriiii m0 th aS aI im (nI a) (nI p0) (nI E) 1 3 aB aT se dn aG aO aN aD bv aY rn kd nu tv), (zaI aS cS 901 fS)] := hD
        refine lv_aload_n hx hb dX12_factor_133 rfl (lv_at hl 2 rfl) ?_
        refine va_get (D := (dC, dI)) (ci := 14) (v := .int 1) (C := RX12) (T := TX12) (N := 23) hx hb hts kc_factor3_0 hown hK hP 0 rfl rfl 7 (by decide) (hts (.fieldLink RX12 65 "MistHeapsModel" "isWrong" "Z") kc_factor3_1) (fun _ h9 => h9) rfl dX12_factor_134 ?_
        refine lv_if_eq (tgt := 144) hx hb dX12_factor_137 (by decide) (fun c_38 => absurd c_38 (by decide)) (fun _ => ?_)
        refine lv_iconst (v := 0) hx hb dX12_factor_140 (by decide) ?_
        refine lv_goto (tgt := 150) hx hb dX12_factor_141 (by decide) ?_
        refine lv_istore_n (lv' := [(3, .int 0), (2, .int (-1)), (1, .int r_2), (0, .ref m0)]) hx hb dX12_factor_150 rfl hl (by decide) rfl (fun ls hl => ?_)
        refine lv_aload_n hx hb dX12_factor_151 rfl (lv_at hl 3 rfl) ?_
        refine lv_aload_n hx hb dX12_factor_152 rfl (lv_at hl 3 rfl) ?_
        refine va_get (D := (dC, dI)) (ci := 14) (v := .int 1) (C := RX12) (T := TX12) (N := 23) hx hb hts kc_factor3_0 hown hK hP 0 rfl rfl 7 (by decide) (hts (.fieldLink RX12 65 "MistHeapsModel" "isWrong" "Z") kc_factor3_1) (fun _ h9 => h9) rfl dX12_factor_153 ?_
        refine lv_if_ne (tgt := 164) hx hb dX12_factor_156 (by decide) (fun _ => ?_) (fun c_39 => absurd c_39 (by decide))
        refine lv_iconst (v := 1) hx hb dX12_factor_164 (by decide) ?_
        refine lv_goto (tgt := 169) hx hb dX12_factor_165 (by decide) ?_
        refine va_put (D := (dC, dI)) (ci := 14) (v := .int 1) (ty := .boolean) (C := RX12) (T := TX12) (N := 23) hx hb hts kc_factor3_0 tyX12 tyX12_ok nmX12 hown hK hP hD hS 0 rfl rfl 7 (by decide) (hts (.fieldLink RX12 65 "MistHeapsModel" "isWrong" "Z") kc_factor3_1) (fun _ h9 => h9) rfl (by decide +kernel) rfl rfl (Nat.le_of_ble_eq_true rfl) dX12_factor_169 (fun H locs hP hD hS => ?_)
        have hP : va_P (dC, dI) vwCl [(zo14irriiiiiirriirrrrlriiii m0 th aS aI im (nI a) (nI p0) (nI E) 1 3 aB aT se dn aG aO aN aD bv aY rn kd nu tv), (zaI aS cS 901 fS)] H := hP
        have hD : va_D A [(zo14irriiiiiirriirrrrlriiii m0 th aS aI im (nI a) (nI p0) (nI E) 1 3 aB aT se dn aG aO aN aD bv aY rn kd nu tv), (zaI aS cS 901 fS)] := hD
        refine lv_aload_n hx hb dX12_factor_172 rfl (lv_at hl 3 rfl) ?_
        have hPc := hP.sub (ws' := [(zo14irriiiiiirriirrrrlriiii m0 th aS aI im (nI a) (nI p0) (nI E) 1 3 aB aT se dn aG aO aN aD bv aY rn kd nu tv), (zaI aS cS 901 fS)]) [0, 1] rfl
        have hDc := hD.sub (ws' := [(zo14irriiiiiirriirrrrlriiii m0 th aS aI im (nI a) (nI p0) (nI E) 1 3 aB aT se dn aG aO aN aD bv aY rn kd nu tv), (zaI aS cS 901 fS)]) [0, 1] (by decide) rfl
        have hKc := hK.sub (tys' := [(cS, .int)]) [0] rfl
        have hFc := va_free (wc := [(zo14irriiiiiirriirrrrlriiii m0 th aS aI im (nI a) (nI p0) (nI E) 1 3 aB aT se dn aG aO aN aD bv aY rn kd nu tv), (zaI aS cS 901 fS)]) hD hS hA [0, 1] rfl
        refine va_calli (va_runV (As := []) (rest := []) ⟨hx, hb, hml, hown, hts⟩ (c_figures l dC dI m0 aS aI aB aT aG aO aN aD aY th im (nI a) (nI p0) (nI E) 1 3 se dn rn kd nu tv bv cS fS a p0 E ss H.size (by omega) (by omega) (by omega) (Or.inr rfl) (gT)) (cwV 0 hts gX12_factor_X12_figures rfl rfl rfl hd_yX12_figures ⟨Nat.le_of_ble_eq_true rfl, Nat.le_of_ble_eq_true rfl⟩) ⟨fun a U g mk q => by obtain ⟨q0, q1, qP, qK, qD⟩ := q; exact ⟨q0, mvz g mk a q1, mvP g mk a qP, mvK g mk a qK, qD⟩, va_recv hK hP (ci := 14) (q := (RX12, TX12, 23)) (q0 := 0) rfl rfl, fun U hU hW => ⟨rfl, by rw [hU], by rw [hU]; exact hPc, va_K.moved hW.alike hKc, hDc.weaken (fun _ _ _ _ => trivial)⟩⟩ rfl rfl hl.1 rfl (lv_room (Nat.le_of_ble_eq_true rfl)) dX12_factor_173 ⟨Nat.le_of_ble_eq_true rfl, Nat.le_of_ble_eq_true rfl⟩) hS (fun q _ h => hFc q h) hFc (fun r_40 u tC H1 locs htC hvm hw_41 hB hz1 hk1 hS => ?_)
        obtain ⟨sp9_42, wg9_43⟩ := u
        try dsimp only at hw_41 hB
        obtain ⟨hP1, hK1, hD1⟩ := hB
        rw [htC] at hP1
        have hK1 := va_K.moved hvm.symm hK1
        obtain ⟨hP, hD⟩ := va_join (wr := []) (w1 := [(zo14irriiiiiirriirrrrlriiii m0 th aS aI im (nI a) sp9_42 (nI E) wg9_43 3 aB aT se dn aG aO aN aD bv aY rn kd nu tv), (zaI aS cS 901 fS)]) hP hD [0, 1] [] rfl rfl (by decide) (by decide) hk1 hFc hP1 hD1
        have hK := (hK.sub (tys' := []) [] rfl).app hK1
        generalize H1 = H at hP hS ⊢
        have hP : va_P (dC, dI) vwCl [(zo14irriiiiiirriirrrrlriiii m0 th aS aI im (nI a) sp9_42 (nI E) wg9_43 3 aB aT se dn aG aO aN aD bv aY rn kd nu tv), (zaI aS cS 901 fS)] H := hP
        have hD : va_D A [(zo14irriiiiiirriirrrrlriiii m0 th aS aI im (nI a) sp9_42 (nI E) wg9_43 3 aB aT se dn aG aO aN aD bv aY rn kd nu tv), (zaI aS cS 901 fS)] := hD
        have hK : va_K (dC, dI) vwCl [(cS, .int)] s := hK
        rcases hw_41 with ⟨rfl, rfl, hN_51, v_44, h_46, rfl⟩ | ⟨rfl, h_50, v_44, p_45, h_46, h_47, h_48, rfl, rfl, hN_51⟩
        · skip
          refine lv_istore (lv' := [(4, .int (nI v_44)), (3, .int 0), (2, .int (-1)), (1, .int r_2), (0, .ref m0)]) hx hb dX12_factor_176 hl (by decide) rfl (fun ls hl => ?_)
          refine lv_aload_n hx hb dX12_factor_178 rfl (lv_at hl 4 rfl) ?_
          refine lv_iload_n hx hb dX12_factor_179 rfl (lv_at hl 2 rfl) ?_
          refine lv_bipush (v := 8) hx hb dX12_factor_180 (by decide) ?_
          refine lv_iload_n hx hb dX12_factor_182 rfl (lv_at hl 1 rfl) ?_
          refine lv_imul hx hb dX12_factor_183 ?_
          refine qi_as (y := 0) (by decide) ?_
          refine lv_iadd hx hb dX12_factor_184 ?_
          refine qi_as (y := (-1)) (by decide) ?_
          refine lv_bipush (v := 32) hx hb dX12_factor_185 (by decide) ?_
          refine lv_iload hx hb dX12_factor_187 (lv_at hl 0 rfl) ?_
          refine lv_imul hx hb dX12_factor_189 ?_
          refine qi_as (y := nI (32 * v_44)) (pk_mul 32 v_44) ?_
          refine lv_iadd hx hb dX12_factor_190 ?_
          have hPc := hP.sub (ws' := [(zo14irriiiiiirriirrrrlriiii m0 th aS aI im (nI a) (nI p0) (nI E) 1 3 aB aT se dn aG aO aN aD bv aY rn kd nu tv)]) [0] rfl
          have hKc := hK.sub (tys' := []) [] rfl
          refine va_csv (va_runV (As := [.int ((-1) + (nI (32 * v_44)))]) (rest := []) ⟨hx, hb, hml, hown, hts⟩ (c_emitsW l dC dI m0 aS aI aB aT aG aO aN aD aY th im (nI a) (nI p0) (nI E) 1 3 se dn rn kd nu tv bv ((-1) + (nI (32 * v_44)))) (cwV 1 hts gX12_factor_X12_emits rfl rfl rfl hd_yX12_emits ⟨Nat.le_of_ble_eq_true rfl, Nat.le_of_ble_eq_true rfl⟩) ⟨fun a U g mk q => by obtain ⟨q0, qP, qK⟩ := q; exact ⟨q0, mvP g mk a qP, mvK g mk a qK⟩, va_recv hK hP (ci := 14) (q := (RX12, TX12, 23)) (q0 := 0) rfl rfl, fun U hU hW => ⟨rfl, by rw [hU]; exact hPc, va_K.moved hW.alike hKc⟩⟩ rfl rfl hl.1 rfl (lv_room (Nat.le_of_ble_eq_true rfl)) dX12_factor_191 ⟨Nat.le_of_ble_eq_true rfl, Nat.le_of_ble_eq_true rfl⟩).run (fun hw_53 => ?_)
          rw [hQ]
          have hP9 := hP.sub (ws' := [(zo14irriiiiiirriirrrrlriiii m0 th aS aI im (nI a) (nI p0) (nI E) 1 3 aB aT se dn aG aO aN aD bv aY rn kd nu tv), (zaI aS cS 901 fS)]) [0, 1] rfl
          have hD9 := hD.sub (ws' := [(zo14irriiiiiirriirrrrlriiii m0 th aS aI im (nI a) (nI p0) (nI E) 1 3 aB aT se dn aG aO aN aD bv aY rn kd nu tv), (zaI aS cS 901 fS)]) [0, 1] (by decide) rfl
          have hK9 := hK.sub (tys' := [(cS, .int)]) [0] rfl
          exact W.vret hx hb hr (fun tQ htQ hWQ => ⟨⟨(fS, (nI p0), 1), rfl, ⟨p0, rfl, by omega, by omega, PF.rf, Or.inl ⟨rfl, (pf_t hn33 hn40).trans (pt_1 hx6)⟩⟩, by rw [htQ]; exact hP9, va_K.moved hWQ.alike hK9, hD9⟩, hS.F htQ⟩) hS.2.2 dX12_factor_194
        · skip
          exact absurd h_50 (by decide)
      · skip
        have hj_34 : j_33 < 6 := hj_34
        have hx6 := am6_y hj_34 h_36
        refine lv_istore_n (lv' := [(2, .int (nI j_33)), (1, .int r_2), (0, .ref m0)]) hx hb dX12_factor_118 rfl hl (by decide) rfl (fun ls hl => ?_)
        refine lv_aload_n hx hb dX12_factor_119 rfl (lv_at hl 2 rfl) ?_
        refine lv_iload_n hx hb dX12_factor_120 rfl (lv_at hl 0 rfl) ?_
        refine lv_iconst (v := (-1)) hx hb dX12_factor_121 (by decide) ?_
        refine lv_icmp_ne (tgt := 129) hx hb dX12_factor_122 (by decide) (fun c_54 => ?_) (fun c_54 => absurd c_54 (nI_nm1 (by omega)))
        refine lv_iconst (v := 0) hx hb dX12_factor_129 (by decide) ?_
        refine va_put (D := (dC, dI)) (ci := 14) (v := .int 0) (ty := .boolean) (C := RX12) (T := TX12) (N := 23) hx hb hts kc_factor3_0 tyX12 tyX12_ok nmX12 hown hK hP hD hS 0 rfl rfl 7 (by decide) (hts (.fieldLink RX12 65 "MistHeapsModel" "isWrong" "Z") kc_factor3_1) (fun _ h9 => h9) rfl (by decide +kernel) rfl rfl (Nat.le_of_ble_eq_true rfl) dX12_factor_130 (fun H locs hP hD hS => ?_)
        have hP : va_P (dC, dI) vwCl [(zo14irriiiiiirriirrrrlriiii m0 th aS aI im (nI a) (nI (p0 + 1)) (nI E) 0 3 aB aT se dn aG aO aN aD bv aY rn kd nu tv), (zaI aS cS 901 fS)] H := hP
        have hD : va_D A [(zo14irriiiiiirriirrrrlriiii m0 th aS aI im (nI a) (nI (p0 + 1)) (nI E) 0 3 aB aT se dn aG aO aN aD bv aY rn kd nu tv), (zaI aS cS 901 fS)] := hD
        refine lv_aload_n hx hb dX12_factor_133 rfl (lv_at hl 2 rfl) ?_
        refine va_get (D := (dC, dI)) (ci := 14) (v := .int 0) (C := RX12) (T := TX12) (N := 23) hx hb hts kc_factor3_0 hown hK hP 0 rfl rfl 7 (by decide) (hts (.fieldLink RX12 65 "MistHeapsModel" "isWrong" "Z") kc_factor3_1) (fun _ h9 => h9) rfl dX12_factor_134 ?_
        refine lv_if_eq (tgt := 144) hx hb dX12_factor_137 (by decide) (fun _ => ?_) (fun c_55 => absurd c_55 (by decide))
        refine lv_aload_n hx hb dX12_factor_144 rfl (lv_at hl 2 rfl) ?_
        refine va_ldcS hx hb hown (show vk_R RX12 107 "<=>" (sK 7) s from hE.1 7 (by decide)) dX12_factor_145 ?_
        have hPc := hP.sub (ws' := [(zo14irriiiiiirriirrrrlriiii m0 th aS aI im (nI a) (nI (p0 + 1)) (nI E) 0 3 aB aT se dn aG aO aN aD bv aY rn kd nu tv), (zaI aS cS 901 fS)]) [0, 1] rfl
        have hDc := hD.sub (ws' := [(zo14irriiiiiirriirrrrlriiii m0 th aS aI im (nI a) (nI (p0 + 1)) (nI E) 0 3 aB aT se dn aG aO aN aD bv aY rn kd nu tv), (zaI aS cS 901 fS)]) [0, 1] (by decide) rfl
        have hKc := hK.sub (tys' := [(cS, .int)]) [0] rfl
        have hFc := va_free (wc := [(zo14irriiiiiirriirrrrlriiii m0 th aS aI im (nI a) (nI (p0 + 1)) (nI E) 0 3 aB aT se dn aG aO aN aD bv aY rn kd nu tv), (zaI aS cS 901 fS)]) hD hS hA [0, 1] rfl
        refine va_calli (va_runV (As := [.ref (sK 7)]) (rest := []) ⟨hx, hb, hml, hown, hts⟩ (c_among l dC dI sK sV m0 aS aI aB aT aG aO aN aD aY th im (nI a) (nI (p0 + 1)) (nI E) 0 3 se dn rn kd nu tv bv cS fS a (p0 + 1) E 7 ss H.size (by omega) (by omega) (by omega) (by decide) (gT)) (cwV 1 hts gX12_factor_X12_among rfl rfl rfl hd_yX12_among ⟨Nat.le_of_ble_eq_true rfl, Nat.le_of_ble_eq_true rfl⟩) ⟨fun a U g mk q => by obtain ⟨q0, q1, qP, qK, qD, qhE⟩ := q; exact ⟨q0, mvz g mk a q1, mvP g mk a qP, mvK g mk a qK, qD, qhE.mv g mk a⟩, va_recv hK hP (ci := 14) (q := (RX12, TX12, 23)) (q0 := 0) rfl rfl, fun U hU hW => ⟨rfl, by rw [hU], by rw [hU]; exact hPc, va_K.moved hW.alike hKc, hDc.weaken (fun _ _ _ _ => trivial), hE.call hS hU hW (fun q h => hFc q h)⟩⟩ rfl rfl hl.1 rfl (lv_room (Nat.le_of_ble_eq_true rfl)) dX12_factor_147 ⟨Nat.le_of_ble_eq_true rfl, Nat.le_of_ble_eq_true rfl⟩) hS (fun q _ h => hFc q h) hFc (fun r_56 u tC H1 locs htC hvm hw_57 hB hz1 hk1 hS => ?_)
        obtain ⟨sp9_58, rfl⟩ : ∃ z, z = u := ⟨_, rfl⟩
        try dsimp only at hw_57 hB
        obtain ⟨hP1, hK1, hD1⟩ := hB
        rw [htC] at hP1
        have hK1 := va_K.moved hvm.symm hK1
        obtain ⟨hP, hD⟩ := va_join (wr := []) (w1 := [(zo14irriiiiiirriirrrrlriiii m0 th aS aI im (nI a) sp9_58 (nI E) 0 3 aB aT se dn aG aO aN aD bv aY rn kd nu tv), (zaI aS cS 901 fS)]) hP hD [0, 1] [] rfl rfl (by decide) (by decide) hk1 hFc hP1 hD1
        have hK := (hK.sub (tys' := []) [] rfl).app hK1
        generalize H1 = H at hP hS ⊢
        have hP : va_P (dC, dI) vwCl [(zo14irriiiiiirriirrrrlriiii m0 th aS aI im (nI a) sp9_58 (nI E) 0 3 aB aT se dn aG aO aN aD bv aY rn kd nu tv), (zaI aS cS 901 fS)] H := hP
        have hD : va_D A [(zo14irriiiiiirriirrrrlriiii m0 th aS aI im (nI a) sp9_58 (nI E) 0 3 aB aT se dn aG aO aN aD bv aY rn kd nu tv), (zaI aS cS 901 fS)] := hD
        have hK : va_K (dC, dI) vwCl [(cS, .int)] s := hK
        rcases hw_57 with ⟨rfl, rfl, h_62⟩ | ⟨j_59, hj_60, rfl, h_61, rfl, h_62⟩
        · skip
          have hx3 := am3_n (fun q hq => h_62 q hq)
          refine lv_istore_n (lv' := [(3, .int (-1)), (2, .int (nI j_33)), (1, .int r_2), (0, .ref m0)]) hx hb dX12_factor_150 rfl hl (by decide) rfl (fun ls hl => ?_)
          refine lv_aload_n hx hb dX12_factor_151 rfl (lv_at hl 3 rfl) ?_
          refine lv_aload_n hx hb dX12_factor_152 rfl (lv_at hl 3 rfl) ?_
          refine va_get (D := (dC, dI)) (ci := 14) (v := .int 0) (C := RX12) (T := TX12) (N := 23) hx hb hts kc_factor3_0 hown hK hP 0 rfl rfl 7 (by decide) (hts (.fieldLink RX12 65 "MistHeapsModel" "isWrong" "Z") kc_factor3_1) (fun _ h9 => h9) rfl dX12_factor_153 ?_
          refine lv_if_ne (tgt := 164) hx hb dX12_factor_156 (by decide) (fun c_63 => absurd c_63 (by decide)) (fun _ => ?_)
          refine lv_iload_n hx hb dX12_factor_159 rfl (lv_at hl 0 rfl) ?_
          refine lv_iconst (v := (-1)) hx hb dX12_factor_160 (by decide) ?_
          refine lv_icmp_ne (tgt := 168) hx hb dX12_factor_161 (by decide) (fun c_64 => absurd c_64 (by decide)) (fun _ => ?_)
          refine lv_iconst (v := 1) hx hb dX12_factor_164 (by decide) ?_
          refine lv_goto (tgt := 169) hx hb dX12_factor_165 (by decide) ?_
          refine va_put (D := (dC, dI)) (ci := 14) (v := .int 1) (ty := .boolean) (C := RX12) (T := TX12) (N := 23) hx hb hts kc_factor3_0 tyX12 tyX12_ok nmX12 hown hK hP hD hS 0 rfl rfl 7 (by decide) (hts (.fieldLink RX12 65 "MistHeapsModel" "isWrong" "Z") kc_factor3_1) (fun _ h9 => h9) rfl (by decide +kernel) rfl rfl (Nat.le_of_ble_eq_true rfl) dX12_factor_169 (fun H locs hP hD hS => ?_)
          have hP : va_P (dC, dI) vwCl [(zo14irriiiiiirriirrrrlriiii m0 th aS aI im (nI a) (nI (p0 + 1)) (nI E) 1 3 aB aT se dn aG aO aN aD bv aY rn kd nu tv), (zaI aS cS 901 fS)] H := hP
          have hD : va_D A [(zo14irriiiiiirriirrrrlriiii m0 th aS aI im (nI a) (nI (p0 + 1)) (nI E) 1 3 aB aT se dn aG aO aN aD bv aY rn kd nu tv), (zaI aS cS 901 fS)] := hD
          refine lv_aload_n hx hb dX12_factor_172 rfl (lv_at hl 3 rfl) ?_
          have hPc := hP.sub (ws' := [(zo14irriiiiiirriirrrrlriiii m0 th aS aI im (nI a) (nI (p0 + 1)) (nI E) 1 3 aB aT se dn aG aO aN aD bv aY rn kd nu tv), (zaI aS cS 901 fS)]) [0, 1] rfl
          have hDc := hD.sub (ws' := [(zo14irriiiiiirriirrrrlriiii m0 th aS aI im (nI a) (nI (p0 + 1)) (nI E) 1 3 aB aT se dn aG aO aN aD bv aY rn kd nu tv), (zaI aS cS 901 fS)]) [0, 1] (by decide) rfl
          have hKc := hK.sub (tys' := [(cS, .int)]) [0] rfl
          have hFc := va_free (wc := [(zo14irriiiiiirriirrrrlriiii m0 th aS aI im (nI a) (nI (p0 + 1)) (nI E) 1 3 aB aT se dn aG aO aN aD bv aY rn kd nu tv), (zaI aS cS 901 fS)]) hD hS hA [0, 1] rfl
          refine va_calli (va_runV (As := []) (rest := []) ⟨hx, hb, hml, hown, hts⟩ (c_figures l dC dI m0 aS aI aB aT aG aO aN aD aY th im (nI a) (nI (p0 + 1)) (nI E) 1 3 se dn rn kd nu tv bv cS fS a (p0 + 1) E ss H.size (by omega) (by omega) (by omega) (Or.inr rfl) (gT)) (cwV 0 hts gX12_factor_X12_figures rfl rfl rfl hd_yX12_figures ⟨Nat.le_of_ble_eq_true rfl, Nat.le_of_ble_eq_true rfl⟩) ⟨fun a U g mk q => by obtain ⟨q0, q1, qP, qK, qD⟩ := q; exact ⟨q0, mvz g mk a q1, mvP g mk a qP, mvK g mk a qK, qD⟩, va_recv hK hP (ci := 14) (q := (RX12, TX12, 23)) (q0 := 0) rfl rfl, fun U hU hW => ⟨rfl, by rw [hU], by rw [hU]; exact hPc, va_K.moved hW.alike hKc, hDc.weaken (fun _ _ _ _ => trivial)⟩⟩ rfl rfl hl.1 rfl (lv_room (Nat.le_of_ble_eq_true rfl)) dX12_factor_173 ⟨Nat.le_of_ble_eq_true rfl, Nat.le_of_ble_eq_true rfl⟩) hS (fun q _ h => hFc q h) hFc (fun r_65 u tC H1 locs htC hvm hw_66 hB hz1 hk1 hS => ?_)
          obtain ⟨sp9_67, wg9_68⟩ := u
          try dsimp only at hw_66 hB
          obtain ⟨hP1, hK1, hD1⟩ := hB
          rw [htC] at hP1
          have hK1 := va_K.moved hvm.symm hK1
          obtain ⟨hP, hD⟩ := va_join (wr := []) (w1 := [(zo14irriiiiiirriirrrrlriiii m0 th aS aI im (nI a) sp9_67 (nI E) wg9_68 3 aB aT se dn aG aO aN aD bv aY rn kd nu tv), (zaI aS cS 901 fS)]) hP hD [0, 1] [] rfl rfl (by decide) (by decide) hk1 hFc hP1 hD1
          have hK := (hK.sub (tys' := []) [] rfl).app hK1
          generalize H1 = H at hP hS ⊢
          have hP : va_P (dC, dI) vwCl [(zo14irriiiiiirriirrrrlriiii m0 th aS aI im (nI a) sp9_67 (nI E) wg9_68 3 aB aT se dn aG aO aN aD bv aY rn kd nu tv), (zaI aS cS 901 fS)] H := hP
          have hD : va_D A [(zo14irriiiiiirriirrrrlriiii m0 th aS aI im (nI a) sp9_67 (nI E) wg9_68 3 aB aT se dn aG aO aN aD bv aY rn kd nu tv), (zaI aS cS 901 fS)] := hD
          have hK : va_K (dC, dI) vwCl [(cS, .int)] s := hK
          rcases hw_66 with ⟨rfl, rfl, hN_76, v_69, h_71, rfl⟩ | ⟨rfl, h_75, v_69, p_70, h_71, h_72, h_73, rfl, rfl, hN_76⟩
          · skip
            refine lv_istore (lv' := [(4, .int (nI v_69)), (3, .int (-1)), (2, .int (nI j_33)), (1, .int r_2), (0, .ref m0)]) hx hb dX12_factor_176 hl (by decide) rfl (fun ls hl => ?_)
            refine lv_aload_n hx hb dX12_factor_178 rfl (lv_at hl 4 rfl) ?_
            refine lv_iload_n hx hb dX12_factor_179 rfl (lv_at hl 2 rfl) ?_
            refine lv_bipush (v := 8) hx hb dX12_factor_180 (by decide) ?_
            refine lv_iload_n hx hb dX12_factor_182 rfl (lv_at hl 1 rfl) ?_
            refine lv_imul hx hb dX12_factor_183 ?_
            refine qi_as (y := (-8)) (by decide) ?_
            refine lv_iadd hx hb dX12_factor_184 ?_
            refine lv_bipush (v := 32) hx hb dX12_factor_185 (by decide) ?_
            refine lv_iload hx hb dX12_factor_187 (lv_at hl 0 rfl) ?_
            refine lv_imul hx hb dX12_factor_189 ?_
            refine qi_as (y := nI (32 * v_69)) (pk_mul 32 v_69) ?_
            refine lv_iadd hx hb dX12_factor_190 ?_
            have hPc := hP.sub (ws' := [(zo14irriiiiiirriirrrrlriiii m0 th aS aI im (nI a) (nI (p0 + 1)) (nI E) 1 3 aB aT se dn aG aO aN aD bv aY rn kd nu tv)]) [0] rfl
            have hKc := hK.sub (tys' := []) [] rfl
            refine va_csv (va_runV (As := [.int (((nI j_33) + (-8)) + (nI (32 * v_69)))]) (rest := []) ⟨hx, hb, hml, hown, hts⟩ (c_emitsW l dC dI m0 aS aI aB aT aG aO aN aD aY th im (nI a) (nI (p0 + 1)) (nI E) 1 3 se dn rn kd nu tv bv (((nI j_33) + (-8)) + (nI (32 * v_69)))) (cwV 1 hts gX12_factor_X12_emits rfl rfl rfl hd_yX12_emits ⟨Nat.le_of_ble_eq_true rfl, Nat.le_of_ble_eq_true rfl⟩) ⟨fun a U g mk q => by obtain ⟨q0, qP, qK⟩ := q; exact ⟨q0, mvP g mk a qP, mvK g mk a qK⟩, va_recv hK hP (ci := 14) (q := (RX12, TX12, 23)) (q0 := 0) rfl rfl, fun U hU hW => ⟨rfl, by rw [hU]; exact hPc, va_K.moved hW.alike hKc⟩⟩ rfl rfl hl.1 rfl (lv_room (Nat.le_of_ble_eq_true rfl)) dX12_factor_191 ⟨Nat.le_of_ble_eq_true rfl, Nat.le_of_ble_eq_true rfl⟩).run (fun hw_78 => ?_)
            rw [hQ]
            have hP9 := hP.sub (ws' := [(zo14irriiiiiirriirrrrlriiii m0 th aS aI im (nI a) (nI (p0 + 1)) (nI E) 1 3 aB aT se dn aG aO aN aD bv aY rn kd nu tv), (zaI aS cS 901 fS)]) [0, 1] rfl
            have hD9 := hD.sub (ws' := [(zo14irriiiiiirriirrrrlriiii m0 th aS aI im (nI a) (nI (p0 + 1)) (nI E) 1 3 aB aT se dn aG aO aN aD bv aY rn kd nu tv), (zaI aS cS 901 fS)]) [0, 1] (by decide) rfl
            have hK9 := hK.sub (tys' := [(cS, .int)]) [0] rfl
            exact W.vret hx hb hr (fun tQ htQ hWQ => ⟨⟨(fS, (nI (p0 + 1)), 1), rfl, ⟨p0 + 1, rfl, by omega, by omega, PF.rf, Or.inl ⟨rfl, (pf_t hn33 hn40).trans (pt_2 hx6 hx3)⟩⟩, by rw [htQ]; exact hP9, va_K.moved hWQ.alike hK9, hD9⟩, hS.F htQ⟩) hS.2.2 dX12_factor_194
          · skip
            exact absurd h_75 (by decide)
        · skip
          have hj_60 : j_59 < 3 := hj_60
          have hx3 := am3_y hj_60 h_62
          refine lv_istore_n (lv' := [(3, .int (nI j_59)), (2, .int (nI j_33)), (1, .int r_2), (0, .ref m0)]) hx hb dX12_factor_150 rfl hl (by decide) rfl (fun ls hl => ?_)
          refine lv_aload_n hx hb dX12_factor_151 rfl (lv_at hl 3 rfl) ?_
          refine lv_aload_n hx hb dX12_factor_152 rfl (lv_at hl 3 rfl) ?_
          refine va_get (D := (dC, dI)) (ci := 14) (v := .int 0) (C := RX12) (T := TX12) (N := 23) hx hb hts kc_factor3_0 hown hK hP 0 rfl rfl 7 (by decide) (hts (.fieldLink RX12 65 "MistHeapsModel" "isWrong" "Z") kc_factor3_1) (fun _ h9 => h9) rfl dX12_factor_153 ?_
          refine lv_if_ne (tgt := 164) hx hb dX12_factor_156 (by decide) (fun c_79 => absurd c_79 (by decide)) (fun _ => ?_)
          refine lv_iload_n hx hb dX12_factor_159 rfl (lv_at hl 0 rfl) ?_
          refine lv_iconst (v := (-1)) hx hb dX12_factor_160 (by decide) ?_
          refine lv_icmp_ne (tgt := 168) hx hb dX12_factor_161 (by decide) (fun c_80 => ?_) (fun c_80 => absurd c_80 (nI_nm1 (by omega)))
          refine lv_iconst (v := 0) hx hb dX12_factor_168 (by decide) ?_
          refine va_put (D := (dC, dI)) (ci := 14) (v := .int 0) (ty := .boolean) (C := RX12) (T := TX12) (N := 23) hx hb hts kc_factor3_0 tyX12 tyX12_ok nmX12 hown hK hP hD hS 0 rfl rfl 7 (by decide) (hts (.fieldLink RX12 65 "MistHeapsModel" "isWrong" "Z") kc_factor3_1) (fun _ h9 => h9) rfl (by decide +kernel) rfl rfl (Nat.le_of_ble_eq_true rfl) dX12_factor_169 (fun H locs hP hD hS => ?_)
          have hP : va_P (dC, dI) vwCl [(zo14irriiiiiirriirrrrlriiii m0 th aS aI im (nI a) (nI ((p0 + 1) + 1)) (nI E) 0 3 aB aT se dn aG aO aN aD bv aY rn kd nu tv), (zaI aS cS 901 fS)] H := hP
          have hD : va_D A [(zo14irriiiiiirriirrrrlriiii m0 th aS aI im (nI a) (nI ((p0 + 1) + 1)) (nI E) 0 3 aB aT se dn aG aO aN aD bv aY rn kd nu tv), (zaI aS cS 901 fS)] := hD
          refine lv_aload_n hx hb dX12_factor_172 rfl (lv_at hl 3 rfl) ?_
          have hPc := hP.sub (ws' := [(zo14irriiiiiirriirrrrlriiii m0 th aS aI im (nI a) (nI ((p0 + 1) + 1)) (nI E) 0 3 aB aT se dn aG aO aN aD bv aY rn kd nu tv), (zaI aS cS 901 fS)]) [0, 1] rfl
          have hDc := hD.sub (ws' := [(zo14irriiiiiirriirrrrlriiii m0 th aS aI im (nI a) (nI ((p0 + 1) + 1)) (nI E) 0 3 aB aT se dn aG aO aN aD bv aY rn kd nu tv), (zaI aS cS 901 fS)]) [0, 1] (by decide) rfl
          have hKc := hK.sub (tys' := [(cS, .int)]) [0] rfl
          have hFc := va_free (wc := [(zo14irriiiiiirriirrrrlriiii m0 th aS aI im (nI a) (nI ((p0 + 1) + 1)) (nI E) 0 3 aB aT se dn aG aO aN aD bv aY rn kd nu tv), (zaI aS cS 901 fS)]) hD hS hA [0, 1] rfl
          refine va_calli (va_runV (As := []) (rest := []) ⟨hx, hb, hml, hown, hts⟩ (c_figures l dC dI m0 aS aI aB aT aG aO aN aD aY th im (nI a) (nI ((p0 + 1) + 1)) (nI E) 0 3 se dn rn kd nu tv bv cS fS a ((p0 + 1) + 1) E ss H.size (by omega) (by omega) (by omega) (Or.inl rfl) (gT)) (cwV 0 hts gX12_factor_X12_figures rfl rfl rfl hd_yX12_figures ⟨Nat.le_of_ble_eq_true rfl, Nat.le_of_ble_eq_true rfl⟩) ⟨fun a U g mk q => by obtain ⟨q0, q1, qP, qK, qD⟩ := q; exact ⟨q0, mvz g mk a q1, mvP g mk a qP, mvK g mk a qK, qD⟩, va_recv hK hP (ci := 14) (q := (RX12, TX12, 23)) (q0 := 0) rfl rfl, fun U hU hW => ⟨rfl, by rw [hU], by rw [hU]; exact hPc, va_K.moved hW.alike hKc, hDc.weaken (fun _ _ _ _ => trivial)⟩⟩ rfl rfl hl.1 rfl (lv_room (Nat.le_of_ble_eq_true rfl)) dX12_factor_173 ⟨Nat.le_of_ble_eq_true rfl, Nat.le_of_ble_eq_true rfl⟩) hS (fun q _ h => hFc q h) hFc (fun r_81 u tC H1 locs htC hvm hw_82 hB hz1 hk1 hS => ?_)
          obtain ⟨sp9_83, wg9_84⟩ := u
          try dsimp only at hw_82 hB
          obtain ⟨hP1, hK1, hD1⟩ := hB
          rw [htC] at hP1
          have hK1 := va_K.moved hvm.symm hK1
          obtain ⟨hP, hD⟩ := va_join (wr := []) (w1 := [(zo14irriiiiiirriirrrrlriiii m0 th aS aI im (nI a) sp9_83 (nI E) wg9_84 3 aB aT se dn aG aO aN aD bv aY rn kd nu tv), (zaI aS cS 901 fS)]) hP hD [0, 1] [] rfl rfl (by decide) (by decide) hk1 hFc hP1 hD1
          have hK := (hK.sub (tys' := []) [] rfl).app hK1
          generalize H1 = H at hP hS ⊢
          have hP : va_P (dC, dI) vwCl [(zo14irriiiiiirriirrrrlriiii m0 th aS aI im (nI a) sp9_83 (nI E) wg9_84 3 aB aT se dn aG aO aN aD bv aY rn kd nu tv), (zaI aS cS 901 fS)] H := hP
          have hD : va_D A [(zo14irriiiiiirriirrrrlriiii m0 th aS aI im (nI a) sp9_83 (nI E) wg9_84 3 aB aT se dn aG aO aN aD bv aY rn kd nu tv), (zaI aS cS 901 fS)] := hD
          have hK : va_K (dC, dI) vwCl [(cS, .int)] s := hK
          rcases hw_82 with ⟨rfl, rfl, hN_92, v_85, h_87, rfl⟩ | ⟨rfl, h_91, v_85, p_86, h_87, h_88, h_89, rfl, rfl, hN_92⟩
          · skip
            have hN := hN_92 rfl
            refine lv_istore (lv' := [(4, .int (nI v_85)), (3, .int (nI j_59)), (2, .int (nI j_33)), (1, .int r_2), (0, .ref m0)]) hx hb dX12_factor_176 hl (by decide) rfl (fun ls hl => ?_)
            refine lv_aload_n hx hb dX12_factor_178 rfl (lv_at hl 4 rfl) ?_
            refine lv_iload_n hx hb dX12_factor_179 rfl (lv_at hl 2 rfl) ?_
            refine lv_bipush (v := 8) hx hb dX12_factor_180 (by decide) ?_
            refine lv_iload_n hx hb dX12_factor_182 rfl (lv_at hl 1 rfl) ?_
            refine lv_imul hx hb dX12_factor_183 ?_
            refine qi_as (y := nI (8 * j_59)) (pk_mul 8 j_59) ?_
            refine lv_iadd hx hb dX12_factor_184 ?_
            refine qi_as (y := nI (j_33 + (8 * j_59))) (nI_add j_33 (8 * j_59)) ?_
            refine lv_bipush (v := 32) hx hb dX12_factor_185 (by decide) ?_
            refine lv_iload hx hb dX12_factor_187 (lv_at hl 0 rfl) ?_
            refine lv_imul hx hb dX12_factor_189 ?_
            refine qi_as (y := nI (32 * v_85)) (pk_mul 32 v_85) ?_
            refine lv_iadd hx hb dX12_factor_190 ?_
            refine qi_as (y := nI ((j_33 + (8 * j_59)) + (32 * v_85))) (nI_add (j_33 + (8 * j_59)) (32 * v_85)) ?_
            have hPc := hP.sub (ws' := [(zo14irriiiiiirriirrrrlriiii m0 th aS aI im (nI a) (nI ((p0 + 1) + 1)) (nI E) 1 3 aB aT se dn aG aO aN aD bv aY rn kd nu tv)]) [0] rfl
            have hKc := hK.sub (tys' := []) [] rfl
            refine va_csv (va_runV (As := [.int (nI ((j_33 + (8 * j_59)) + (32 * v_85)))]) (rest := []) ⟨hx, hb, hml, hown, hts⟩ (c_emitsW l dC dI m0 aS aI aB aT aG aO aN aD aY th im (nI a) (nI ((p0 + 1) + 1)) (nI E) 1 3 se dn rn kd nu tv bv (nI ((j_33 + (8 * j_59)) + (32 * v_85)))) (cwV 1 hts gX12_factor_X12_emits rfl rfl rfl hd_yX12_emits ⟨Nat.le_of_ble_eq_true rfl, Nat.le_of_ble_eq_true rfl⟩) ⟨fun a U g mk q => by obtain ⟨q0, qP, qK⟩ := q; exact ⟨q0, mvP g mk a qP, mvK g mk a qK⟩, va_recv hK hP (ci := 14) (q := (RX12, TX12, 23)) (q0 := 0) rfl rfl, fun U hU hW => ⟨rfl, by rw [hU]; exact hPc, va_K.moved hW.alike hKc⟩⟩ rfl rfl hl.1 rfl (lv_room (Nat.le_of_ble_eq_true rfl)) dX12_factor_191 ⟨Nat.le_of_ble_eq_true rfl, Nat.le_of_ble_eq_true rfl⟩).run (fun hw_94 => ?_)
            rw [hQ]
            have hP9 := hP.sub (ws' := [(zo14irriiiiiirriirrrrlriiii m0 th aS aI im (nI a) (nI ((p0 + 1) + 1)) (nI E) 1 3 aB aT se dn aG aO aN aD bv aY rn kd nu tv), (zaI aS cS 901 fS)]) [0, 1] rfl
            have hD9 := hD.sub (ws' := [(zo14irriiiiiirriirrrrlriiii m0 th aS aI im (nI a) (nI ((p0 + 1) + 1)) (nI E) 1 3 aB aT se dn aG aO aN aD bv aY rn kd nu tv), (zaI aS cS 901 fS)]) [0, 1] (by decide) rfl
            have hK9 := hK.sub (tys' := [(cS, .int)]) [0] rfl
            exact W.vret hx hb hr (fun tQ htQ hWQ => ⟨⟨(fS, (nI ((p0 + 1) + 1)), 1), rfl, ⟨(p0 + 1) + 1, rfl, by omega, by omega, PF.rf, Or.inl ⟨rfl, (pf_t hn33 hn40).trans (pt_3 hx6 hx3 hN)⟩⟩, by rw [htQ]; exact hP9, va_K.moved hWQ.alike hK9, hD9⟩, hS.F htQ⟩) hS.2.2 dX12_factor_194
          · skip
            have hN := hN_92
            refine lv_istore (lv' := [(4, .int (nI v_85)), (3, .int (nI j_59)), (2, .int (nI j_33)), (1, .int r_2), (0, .ref m0)]) hx hb dX12_factor_176 hl (by decide) rfl (fun ls hl => ?_)
            refine lv_aload_n hx hb dX12_factor_178 rfl (lv_at hl 4 rfl) ?_
            refine lv_iload_n hx hb dX12_factor_179 rfl (lv_at hl 2 rfl) ?_
            refine lv_bipush (v := 8) hx hb dX12_factor_180 (by decide) ?_
            refine lv_iload_n hx hb dX12_factor_182 rfl (lv_at hl 1 rfl) ?_
            refine lv_imul hx hb dX12_factor_183 ?_
            refine qi_as (y := nI (8 * j_59)) (pk_mul 8 j_59) ?_
            refine lv_iadd hx hb dX12_factor_184 ?_
            refine qi_as (y := nI (j_33 + (8 * j_59))) (nI_add j_33 (8 * j_59)) ?_
            refine lv_bipush (v := 32) hx hb dX12_factor_185 (by decide) ?_
            refine lv_iload hx hb dX12_factor_187 (lv_at hl 0 rfl) ?_
            refine lv_imul hx hb dX12_factor_189 ?_
            refine qi_as (y := nI (32 * v_85)) (pk_mul 32 v_85) ?_
            refine lv_iadd hx hb dX12_factor_190 ?_
            refine qi_as (y := nI ((j_33 + (8 * j_59)) + (32 * v_85))) (nI_add (j_33 + (8 * j_59)) (32 * v_85)) ?_
            have hPc := hP.sub (ws' := [(zo14irriiiiiirriirrrrlriiii m0 th aS aI im (nI a) (nI p_86) (nI E) 0 3 aB aT se dn aG aO aN aD bv aY rn kd nu tv), (zaI aS cS 901 fS)]) [0, 1] rfl
            have hDc := hD.sub (ws' := [(zo14irriiiiiirriirrrrlriiii m0 th aS aI im (nI a) (nI p_86) (nI E) 0 3 aB aT se dn aG aO aN aD bv aY rn kd nu tv), (zaI aS cS 901 fS)]) [0, 1] (by decide) rfl
            have hKc := hK.sub (tys' := [(cS, .int)]) [0] rfl
            have hFc := va_free (wc := [(zo14irriiiiiirriirrrrlriiii m0 th aS aI im (nI a) (nI p_86) (nI E) 0 3 aB aT se dn aG aO aN aD bv aY rn kd nu tv), (zaI aS cS 901 fS)]) hD hS hA [0, 1] rfl
            refine va_callv (va_runV (As := [.int (nI ((j_33 + (8 * j_59)) + (32 * v_85)))]) (rest := []) ⟨hx, hb, hml, hown, hts⟩ (c_emits l dC dI m0 aS aI aB aT aG aO aN aD aY th im (nI a) (nI p_86) (nI E) 0 3 se dn rn kd nu tv bv cS fS a K.length (nI ((j_33 + (8 * j_59)) + (32 * v_85))) H.size (ga) ((gI).2.2.2.1) (by have := (gI).2.2.2.2.1; omega)) (cwV 1 hts gX12_factor_X12_emits rfl rfl rfl hd_yX12_emits ⟨Nat.le_of_ble_eq_true rfl, Nat.le_of_ble_eq_true rfl⟩) ⟨fun a U g mk q => by obtain ⟨q0, q1, qP, qK, qD⟩ := q; exact ⟨q0, mvz g mk a q1, mvP g mk a qP, mvK g mk a qK, qD⟩, va_recv hK hP (ci := 14) (q := (RX12, TX12, 23)) (q0 := 0) rfl rfl, fun U hU hW => ⟨rfl, by rw [hU], by rw [hU]; exact hPc, va_K.moved hW.alike hKc, hDc.weaken (fun _ _ _ _ => trivial)⟩⟩ rfl rfl hl.1 rfl (lv_room (Nat.le_of_ble_eq_true rfl)) dX12_factor_191 ⟨Nat.le_of_ble_eq_true rfl, Nat.le_of_ble_eq_true rfl⟩) hS (fun q _ h => hFc q h) hFc (fun u tC H1 locs htC hvm hw_96 hB hz1 hk1 hS => ?_)
            obtain ⟨fS9_97, rfl⟩ : ∃ z, z = u := ⟨_, rfl⟩
            try dsimp only at hw_96 hB
            obtain ⟨hP1, hK1, hD1⟩ := hB
            rw [htC] at hP1
            have hK1 := va_K.moved hvm.symm hK1
            obtain ⟨hP, hD⟩ := va_join (wr := []) (w1 := [(zo14irriiiiiirriirrrrlriiii m0 th aS aI im (nI a) (nI p_86) (nI E) 0 3 aB aT se dn aG aO aN aD bv aY rn kd nu tv), (zaI aS cS 901 fS9_97)]) hP hD [0, 1] [] rfl rfl (by decide) (by decide) hk1 hFc hP1 hD1
            have hK := (hK.sub (tys' := []) [] rfl).app hK1
            generalize H1 = H at hP hS ⊢
            have hP : va_P (dC, dI) vwCl [(zo14irriiiiiirriirrrrlriiii m0 th aS aI im (nI a) (nI p_86) (nI E) 0 3 aB aT se dn aG aO aN aD bv aY rn kd nu tv), (zaI aS cS 901 fS9_97)] H := hP
            have hD : va_D A [(zo14irriiiiiirriirrrrlriiii m0 th aS aI im (nI a) (nI p_86) (nI E) 0 3 aB aT se dn aG aO aN aD bv aY rn kd nu tv), (zaI aS cS 901 fS9_97)] := hD
            have hK : va_K (dC, dI) vwCl [(cS, .int)] s := hK
            obtain rfl : fS9_97 = emt fS a K.length (nI ((j_33 + (8 * j_59)) + (32 * v_85))) := by rcases hw_96 with ⟨q, _⟩ | ⟨_, q⟩; exact absurd rfl q; exact q
            have hI_98 : PI (emt fS a K.length (nI ((j_33 + (8 * j_59)) + (32 * v_85)))) a (K ++ [j_33 * 300 + j_59 * 100 + v_85]) (d + 1) p_86 E := PI.em (t := j_33 * 300 + j_59 * 100 + v_85) ((gI).mono (by omega) (by omega)) (by omega) (by omega) (stepd_test (by omega) (by omega) (by omega) (by omega)) (rcd_t (by omega) (by omega) (by omega))
            have hF_99 : PF a fS (emt fS a K.length (nI ((j_33 + (8 * j_59)) + (32 * v_85)))) := (PF.rf).tr (PF_emt (k := K.length) (x := nI ((j_33 + (8 * j_59)) + (32 * v_85))) ga (by have := (gI).2.2.2.2.1; omega))
            have hKhI_98 : (K ++ [j_33 * 300 + j_59 * 100 + v_85]).length = K.length + 1 := by rw [List.length_append]; rfl
            rw [hQ]
            have hP9 := hP.sub (ws' := [(zo14irriiiiiirriirrrrlriiii m0 th aS aI im (nI a) (nI p_86) (nI E) 0 3 aB aT se dn aG aO aN aD bv aY rn kd nu tv), (zaI aS cS 901 (emt fS a K.length (nI ((j_33 + (8 * j_59)) + (32 * v_85)))))]) [0, 1] rfl
            have hD9 := hD.sub (ws' := [(zo14irriiiiiirriirrrrlriiii m0 th aS aI im (nI a) (nI p_86) (nI E) 0 3 aB aT se dn aG aO aN aD bv aY rn kd nu tv), (zaI aS cS 901 (emt fS a K.length (nI ((j_33 + (8 * j_59)) + (32 * v_85)))))]) [0, 1] (by decide) rfl
            have hK9 := hK.sub (tys' := [(cS, .int)]) [0] rfl
            exact W.vret hx hb hr (fun tQ htQ hWQ => ⟨⟨((emt fS a K.length (nI ((j_33 + (8 * j_59)) + (32 * v_85)))), (nI p_86), 0), rfl, ⟨p_86, rfl, by omega, by omega, hF_99, Or.inr ⟨rfl, [j_33 * 300 + j_59 * 100 + v_85], (pf_t hn33 hn40).trans (pt_4 hx6 hx3 hN), by omega, (hI_98).mono (by omega) (by omega), by (try simp only [List.length_append, List.length_cons, List.length_nil]); omega⟩⟩, by rw [htQ]; exact hP9, va_K.moved hWQ.alike hK9, hD9⟩, hS.F htQ⟩) hS.2.2 dX12_factor_194
    · skip
      subst c_29
      have hs : ss p0 = 40 := (gT.eq (c := 40) (by omega) (by omega)).mp hw_3.symm
      have hlt : p0 < E := Nat.lt_of_not_le (fun z => by have := gT.2.1 p0 z; omega)
      refine lv_aload_n hx hb dX12_factor_25 rfl (lv_at hl 1 rfl) ?_
      refine lv_aload_n hx hb dX12_factor_26 rfl (lv_at hl 1 rfl) ?_
      refine va_get (D := (dC, dI)) (ci := 14) (v := .int 3) (C := RX12) (T := TX12) (N := 23) hx hb hts kc_factor3_0 hown hK hP 0 rfl rfl 8 (by decide) (hts (.fieldLink RX12 89 "MistHeapsModel" "open" "I") kc_factor3_2) (fun _ h9 => h9) rfl dX12_factor_27 ?_
      refine lv_iconst (v := 5) hx hb dX12_factor_30 (by decide) ?_
      refine lv_icmp_ne (tgt := 38) hx hb dX12_factor_31 (by decide) (fun _ => ?_) (fun c_100 => absurd c_100 (by decide))
      refine lv_iconst (v := 0) hx hb dX12_factor_38 (by decide) ?_
      refine va_put (D := (dC, dI)) (ci := 14) (v := .int 0) (ty := .boolean) (C := RX12) (T := TX12) (N := 23) hx hb hts kc_factor3_0 tyX12 tyX12_ok nmX12 hown hK hP hD hS 0 rfl rfl 7 (by decide) (hts (.fieldLink RX12 65 "MistHeapsModel" "isWrong" "Z") kc_factor3_1) (fun _ h9 => h9) rfl (by decide +kernel) rfl rfl (Nat.le_of_ble_eq_true rfl) dX12_factor_39 (fun H locs hP hD hS => ?_)
      have hP : va_P (dC, dI) vwCl [(zo14irriiiiiirriirrrrlriiii m0 th aS aI im (nI a) (nI p0) (nI E) 0 3 aB aT se dn aG aO aN aD bv aY rn kd nu tv), (zaI aS cS 901 fS)] H := hP
      have hD : va_D A [(zo14irriiiiiirriirrrrlriiii m0 th aS aI im (nI a) (nI p0) (nI E) 0 3 aB aT se dn aG aO aN aD bv aY rn kd nu tv), (zaI aS cS 901 fS)] := hD
      refine lv_aload_n hx hb dX12_factor_42 rfl (lv_at hl 1 rfl) ?_
      refine lv_dup hx hb dX12_factor_43 rfl ?_
      refine va_get (D := (dC, dI)) (ci := 14) (v := .int 3) (C := RX12) (T := TX12) (N := 23) hx hb hts kc_factor3_0 hown hK hP 0 rfl rfl 8 (by decide) (hts (.fieldLink RX12 89 "MistHeapsModel" "open" "I") kc_factor3_2) (fun _ h9 => h9) rfl dX12_factor_44 ?_
      refine lv_iconst (v := 1) hx hb dX12_factor_47 (by decide) ?_
      refine lv_iadd hx hb dX12_factor_48 ?_
      refine qi_as (y := 4) (by decide) ?_
      refine va_put (D := (dC, dI)) (ci := 14) (v := .int 4) (ty := .int) (C := RX12) (T := TX12) (N := 23) hx hb hts kc_factor3_0 tyX12 tyX12_ok nmX12 hown hK hP hD hS 0 rfl rfl 8 (by decide) (hts (.fieldLink RX12 89 "MistHeapsModel" "open" "I") kc_factor3_2) (fun _ h9 => h9) rfl (by decide +kernel) rfl rfl (Nat.le_of_ble_eq_true rfl) dX12_factor_49 (fun H locs hP hD hS => ?_)
      have hP : va_P (dC, dI) vwCl [(zo14irriiiiiirriirrrrlriiii m0 th aS aI im (nI a) (nI p0) (nI E) 0 4 aB aT se dn aG aO aN aD bv aY rn kd nu tv), (zaI aS cS 901 fS)] H := hP
      have hD : va_D A [(zo14irriiiiiirriirrrrlriiii m0 th aS aI im (nI a) (nI p0) (nI E) 0 4 aB aT se dn aG aO aN aD bv aY rn kd nu tv), (zaI aS cS 901 fS)] := hD
      refine lv_aload_n hx hb dX12_factor_52 rfl (lv_at hl 1 rfl) ?_
      refine lv_dup hx hb dX12_factor_53 rfl ?_
      refine va_get (D := (dC, dI)) (ci := 14) (v := .int (nI p0)) (C := RX12) (T := TX12) (N := 23) hx hb hts kc_factor3_0 hown hK hP 0 rfl rfl 5 (by decide) (hts (.fieldLink RX12 59 "MistHeapsModel" "spot" "I") kc_factor3_3) (fun _ h9 => h9) rfl dX12_factor_54 ?_
      refine lv_aload_n hx hb dX12_factor_57 rfl (lv_at hl 1 rfl) ?_
      refine va_get (D := (dC, dI)) (ci := 14) (v := .int 0) (C := RX12) (T := TX12) (N := 23) hx hb hts kc_factor3_0 hown hK hP 0 rfl rfl 7 (by decide) (hts (.fieldLink RX12 65 "MistHeapsModel" "isWrong" "Z") kc_factor3_1) (fun _ h9 => h9) rfl dX12_factor_58 ?_
      refine lv_if_eq (tgt := 68) hx hb dX12_factor_61 (by decide) (fun _ => ?_) (fun c_101 => absurd c_101 (by decide))
      refine lv_iconst (v := 1) hx hb dX12_factor_68 (by decide) ?_
      refine lv_iadd hx hb dX12_factor_69 ?_
      refine qi_as (y := nI (p0 + 1)) (nI_add p0 1) ?_
      refine va_put (D := (dC, dI)) (ci := 14) (v := .int (nI (p0 + 1))) (ty := .int) (C := RX12) (T := TX12) (N := 23) hx hb hts kc_factor3_0 tyX12 tyX12_ok nmX12 hown hK hP hD hS 0 rfl rfl 5 (by decide) (hts (.fieldLink RX12 59 "MistHeapsModel" "spot" "I") kc_factor3_3) (fun _ h9 => h9) rfl (by decide +kernel) rfl rfl (Nat.le_of_ble_eq_true rfl) dX12_factor_70 (fun H locs hP hD hS => ?_)
      have hP : va_P (dC, dI) vwCl [(zo14irriiiiiirriirrrrlriiii m0 th aS aI im (nI a) (nI (p0 + 1)) (nI E) 0 4 aB aT se dn aG aO aN aD bv aY rn kd nu tv), (zaI aS cS 901 fS)] H := hP
      have hD : va_D A [(zo14irriiiiiirriirrrrlriiii m0 th aS aI im (nI a) (nI (p0 + 1)) (nI E) 0 4 aB aT se dn aG aO aN aD bv aY rn kd nu tv), (zaI aS cS 901 fS)] := hD
      refine lv_iload_n hx hb dX12_factor_73 rfl (lv_at hl 0 rfl) ?_
      refine lv_bipush (v := 33) hx hb dX12_factor_74 (by decide) ?_
      refine lv_icmp_ne (tgt := 91) hx hb dX12_factor_76 (by decide) (fun _ => ?_) (fun c_102 => absurd c_102 (by decide))
      refine lv_aload_n hx hb dX12_factor_91 rfl (lv_at hl 1 rfl) ?_
      have hPc := hP.sub (ws' := [(zo14irriiiiiirriirrrrlriiii m0 th aS aI im (nI a) (nI (p0 + 1)) (nI E) 0 4 aB aT se dn aG aO aN aD bv aY rn kd nu tv), (zaI aS cS 901 fS)]) [0, 1] rfl
      have hDc := hD.sub (ws' := [(zo14irriiiiiirriirrrrlriiii m0 th aS aI im (nI a) (nI (p0 + 1)) (nI E) 0 4 aB aT se dn aG aO aN aD bv aY rn kd nu tv), (zaI aS cS 901 fS)]) [0, 1] (by decide) rfl
      have hKc := hK.sub (tys' := [(cS, .int)]) [0] rfl
      have hFc := va_free (wc := [(zo14irriiiiiirriirrrrlriiii m0 th aS aI im (nI a) (nI (p0 + 1)) (nI E) 0 4 aB aT se dn aG aO aN aD bv aY rn kd nu tv), (zaI aS cS 901 fS)]) hD hS hA [0, 1] rfl
      refine va_callv (va_runV (As := []) (rest := []) ⟨hx, hb, hml, hown, hts⟩ (c_some4 l dC dI sK sV m0 aS aI aB aT aG aO aN aD aY th im (nI a) (nI (p0 + 1)) (nI E) 0 4 se dn rn kd nu tv bv cS fS a (p0 + 1) E K d ss H.size ((gI).mono (by omega) (by omega)) (gT)) (cwV 0 hts gX12_factor_X12_some rfl rfl rfl hd_yX12_some ⟨Nat.le_of_ble_eq_true rfl, Nat.le_of_ble_eq_true rfl⟩) ⟨fun a U g mk q => by obtain ⟨q0, q1, qP, qK, qD, qhE⟩ := q; exact ⟨q0, mvz g mk a q1, mvP g mk a qP, mvK g mk a qK, qD, qhE.mv g mk a⟩, va_recv hK hP (ci := 14) (q := (RX12, TX12, 23)) (q0 := 0) rfl rfl, fun U hU hW => ⟨rfl, by rw [hU], by rw [hU]; exact hPc, va_K.moved hW.alike hKc, hDc.weaken (fun _ _ _ _ => trivial), hE.call hS hU hW (fun q h => hFc q h)⟩⟩ rfl rfl hl.1 rfl (lv_room (Nat.le_of_ble_eq_true rfl)) dX12_factor_92 ⟨Nat.le_of_ble_eq_true rfl, Nat.le_of_ble_eq_true rfl⟩) hS (fun q _ h => hFc q h) hFc (fun u tC H1 locs htC hvm hw_104 hB hz1 hk1 hS => ?_)
      obtain ⟨fS9_105, sp9_106, wg9_107⟩ := u
      try dsimp only at hw_104 hB
      obtain ⟨hP1, hK1, hD1⟩ := hB
      rw [htC] at hP1
      have hK1 := va_K.moved hvm.symm hK1
      obtain ⟨hP, hD⟩ := va_join (wr := []) (w1 := [(zo14irriiiiiirriirrrrlriiii m0 th aS aI im (nI a) sp9_106 (nI E) wg9_107 4 aB aT se dn aG aO aN aD bv aY rn kd nu tv), (zaI aS cS 901 fS9_105)]) hP hD [0, 1] [] rfl rfl (by decide) (by decide) hk1 hFc hP1 hD1
      have hK := (hK.sub (tys' := []) [] rfl).app hK1
      generalize H1 = H at hP hS ⊢
      have hP : va_P (dC, dI) vwCl [(zo14irriiiiiirriirrrrlriiii m0 th aS aI im (nI a) sp9_106 (nI E) wg9_107 4 aB aT se dn aG aO aN aD bv aY rn kd nu tv), (zaI aS cS 901 fS9_105)] H := hP
      have hD : va_D A [(zo14irriiiiiirriirrrrlriiii m0 th aS aI im (nI a) sp9_106 (nI E) wg9_107 4 aB aT se dn aG aO aN aD bv aY rn kd nu tv), (zaI aS cS 901 fS9_105)] := hD
      have hK : va_K (dC, dI) vwCl [(cS, .int)] s := hK
      obtain ⟨p_108, rfl, h_111, h_112, hF_113, q9⟩ := hw_104
      rcases q9 with ⟨rfl, eP_110⟩ | ⟨rfl, L_109, eP_110, h_114, hI_115, h_116⟩
      · skip
        refine lv_aload_n hx hb dX12_factor_95 rfl (lv_at hl 1 rfl) ?_
        refine lv_bipush (v := 41) hx hb dX12_factor_96 (by decide) ?_
        have hPc := hP.sub (ws' := [(zo14irriiiiiirriirrrrlriiii m0 th aS aI im (nI a) (nI p_108) (nI E) 1 4 aB aT se dn aG aO aN aD bv aY rn kd nu tv), (zaI aS cS 901 fS9_105)]) [0, 1] rfl
        have hDc := hD.sub (ws' := [(zo14irriiiiiirriirrrrlriiii m0 th aS aI im (nI a) (nI p_108) (nI E) 1 4 aB aT se dn aG aO aN aD bv aY rn kd nu tv), (zaI aS cS 901 fS9_105)]) [0, 1] (by decide) rfl
        have hKc := hK.sub (tys' := [(cS, .int)]) [0] rfl
        have hFc := va_free (wc := [(zo14irriiiiiirriirrrrlriiii m0 th aS aI im (nI a) (nI p_108) (nI E) 1 4 aB aT se dn aG aO aN aD bv aY rn kd nu tv), (zaI aS cS 901 fS9_105)]) hD hS hA [0, 1] rfl
        refine va_callv (va_runV (As := [.int 41]) (rest := []) ⟨hx, hb, hml, hown, hts⟩ (c_must l dC dI m0 aS aI aB aT aG aO aN aD aY th im (nI a) (nI p_108) (nI E) 1 4 se dn rn kd nu tv bv cS fS9_105 a p_108 E 41 H.size (by omega) (by omega) (by omega) (Or.inr rfl) (by decide)) (cwV 1 hts gX12_factor_X12_must rfl rfl rfl hd_yX12_must ⟨Nat.le_of_ble_eq_true rfl, Nat.le_of_ble_eq_true rfl⟩) ⟨fun a U g mk q => by obtain ⟨q0, q1, qP, qK, qD⟩ := q; exact ⟨q0, mvz g mk a q1, mvP g mk a qP, mvK g mk a qK, qD⟩, va_recv hK hP (ci := 14) (q := (RX12, TX12, 23)) (q0 := 0) rfl rfl, fun U hU hW => ⟨rfl, by rw [hU], by rw [hU]; exact hPc, va_K.moved hW.alike hKc, hDc.weaken (fun _ _ _ _ => trivial)⟩⟩ rfl rfl hl.1 rfl (lv_room (Nat.le_of_ble_eq_true rfl)) dX12_factor_98 ⟨Nat.le_of_ble_eq_true rfl, Nat.le_of_ble_eq_true rfl⟩) hS (fun q _ h => hFc q h) hFc (fun u tC H1 locs htC hvm hw_118 hB hz1 hk1 hS => ?_)
        obtain ⟨sp9_119, wg9_120⟩ := u
        try dsimp only at hw_118 hB
        obtain ⟨hP1, hK1, hD1⟩ := hB
        rw [htC] at hP1
        have hK1 := va_K.moved hvm.symm hK1
        obtain ⟨hP, hD⟩ := va_join (wr := []) (w1 := [(zo14irriiiiiirriirrrrlriiii m0 th aS aI im (nI a) sp9_119 (nI E) wg9_120 4 aB aT se dn aG aO aN aD bv aY rn kd nu tv), (zaI aS cS 901 fS9_105)]) hP hD [0, 1] [] rfl rfl (by decide) (by decide) hk1 hFc hP1 hD1
        have hK := (hK.sub (tys' := []) [] rfl).app hK1
        generalize H1 = H at hP hS ⊢
        have hP : va_P (dC, dI) vwCl [(zo14irriiiiiirriirrrrlriiii m0 th aS aI im (nI a) sp9_119 (nI E) wg9_120 4 aB aT se dn aG aO aN aD bv aY rn kd nu tv), (zaI aS cS 901 fS9_105)] H := hP
        have hD : va_D A [(zo14irriiiiiirriirrrrlriiii m0 th aS aI im (nI a) sp9_119 (nI E) wg9_120 4 aB aT se dn aG aO aN aD bv aY rn kd nu tv), (zaI aS cS 901 fS9_105)] := hD
        have hK : va_K (dC, dI) vwCl [(cS, .int)] s := hK
        obtain ⟨rfl, rfl⟩ : _ ∧ _ := by rcases hw_118 with ⟨q, q2, _⟩ | ⟨_, q, _⟩; exact ⟨q, q2⟩; exact absurd q (by decide)
        refine lv_aload_n hx hb dX12_factor_101 rfl (lv_at hl 1 rfl) ?_
        refine lv_dup hx hb dX12_factor_102 rfl ?_
        refine va_get (D := (dC, dI)) (ci := 14) (v := .int 4) (C := RX12) (T := TX12) (N := 23) hx hb hts kc_factor3_0 hown hK hP 0 rfl rfl 8 (by decide) (hts (.fieldLink RX12 89 "MistHeapsModel" "open" "I") kc_factor3_2) (fun _ h9 => h9) rfl dX12_factor_103 ?_
        refine lv_iconst (v := 1) hx hb dX12_factor_106 (by decide) ?_
        refine lv_isub hx hb dX12_factor_107 ?_
        refine qi_as (y := 3) (by decide) ?_
        refine va_put (D := (dC, dI)) (ci := 14) (v := .int 3) (ty := .int) (C := RX12) (T := TX12) (N := 23) hx hb hts kc_factor3_0 tyX12 tyX12_ok nmX12 hown hK hP hD hS 0 rfl rfl 8 (by decide) (hts (.fieldLink RX12 89 "MistHeapsModel" "open" "I") kc_factor3_2) (fun _ h9 => h9) rfl (by decide +kernel) rfl rfl (Nat.le_of_ble_eq_true rfl) dX12_factor_108 (fun H locs hP hD hS => ?_)
        have hP : va_P (dC, dI) vwCl [(zo14irriiiiiirriirrrrlriiii m0 th aS aI im (nI a) (nI p_108) (nI E) 1 3 aB aT se dn aG aO aN aD bv aY rn kd nu tv), (zaI aS cS 901 fS9_105)] H := hP
        have hD : va_D A [(zo14irriiiiiirriirrrrlriiii m0 th aS aI im (nI a) (nI p_108) (nI E) 1 3 aB aT se dn aG aO aN aD bv aY rn kd nu tv), (zaI aS cS 901 fS9_105)] := hD
        rw [hQ]
        have hP9 := hP.sub (ws' := [(zo14irriiiiiirriirrrrlriiii m0 th aS aI im (nI a) (nI p_108) (nI E) 1 3 aB aT se dn aG aO aN aD bv aY rn kd nu tv), (zaI aS cS 901 fS9_105)]) [0, 1] rfl
        have hD9 := hD.sub (ws' := [(zo14irriiiiiirriirrrrlriiii m0 th aS aI im (nI a) (nI p_108) (nI E) 1 3 aB aT se dn aG aO aN aD bv aY rn kd nu tv), (zaI aS cS 901 fS9_105)]) [0, 1] (by decide) rfl
        have hK9 := hK.sub (tys' := [(cS, .int)]) [0] rfl
        exact W.vret hx hb hr (fun tQ htQ hWQ => ⟨⟨(fS9_105, (nI p_108), 1), rfl, ⟨p_108, rfl, by omega, by omega, (PF.rf).tr hF_113, Or.inl ⟨rfl, pf_b0 (l := 1) hs eP_110⟩⟩, by rw [htQ]; exact hP9, va_K.moved hWQ.alike hK9, hD9⟩, hS.F htQ⟩) hS.2.2 dX12_factor_111
      · skip
        have k5 := hI_115.2.2.2.2.1
        have hqL_109 : (K ++ L_109).length = K.length + L_109.length := List.length_append
        refine lv_aload_n hx hb dX12_factor_95 rfl (lv_at hl 1 rfl) ?_
        refine lv_bipush (v := 41) hx hb dX12_factor_96 (by decide) ?_
        have hPc := hP.sub (ws' := [(zo14irriiiiiirriirrrrlriiii m0 th aS aI im (nI a) (nI p_108) (nI E) 0 4 aB aT se dn aG aO aN aD bv aY rn kd nu tv), (zaI aS cS 901 fS9_105)]) [0, 1] rfl
        have hDc := hD.sub (ws' := [(zo14irriiiiiirriirrrrlriiii m0 th aS aI im (nI a) (nI p_108) (nI E) 0 4 aB aT se dn aG aO aN aD bv aY rn kd nu tv), (zaI aS cS 901 fS9_105)]) [0, 1] (by decide) rfl
        have hKc := hK.sub (tys' := [(cS, .int)]) [0] rfl
        have hFc := va_free (wc := [(zo14irriiiiiirriirrrrlriiii m0 th aS aI im (nI a) (nI p_108) (nI E) 0 4 aB aT se dn aG aO aN aD bv aY rn kd nu tv), (zaI aS cS 901 fS9_105)]) hD hS hA [0, 1] rfl
        refine va_callv (va_runV (As := [.int 41]) (rest := []) ⟨hx, hb, hml, hown, hts⟩ (c_must l dC dI m0 aS aI aB aT aG aO aN aD aY th im (nI a) (nI p_108) (nI E) 0 4 se dn rn kd nu tv bv cS fS9_105 a p_108 E 41 H.size (by omega) (by omega) (by omega) (Or.inl rfl) (by decide)) (cwV 1 hts gX12_factor_X12_must rfl rfl rfl hd_yX12_must ⟨Nat.le_of_ble_eq_true rfl, Nat.le_of_ble_eq_true rfl⟩) ⟨fun a U g mk q => by obtain ⟨q0, q1, qP, qK, qD⟩ := q; exact ⟨q0, mvz g mk a q1, mvP g mk a qP, mvK g mk a qK, qD⟩, va_recv hK hP (ci := 14) (q := (RX12, TX12, 23)) (q0 := 0) rfl rfl, fun U hU hW => ⟨rfl, by rw [hU], by rw [hU]; exact hPc, va_K.moved hW.alike hKc, hDc.weaken (fun _ _ _ _ => trivial)⟩⟩ rfl rfl hl.1 rfl (lv_room (Nat.le_of_ble_eq_true rfl)) dX12_factor_98 ⟨Nat.le_of_ble_eq_true rfl, Nat.le_of_ble_eq_true rfl⟩) hS (fun q _ h => hFc q h) hFc (fun u tC H1 locs htC hvm hw_122 hB hz1 hk1 hS => ?_)
        obtain ⟨sp9_123, wg9_124⟩ := u
        try dsimp only at hw_122 hB
        obtain ⟨hP1, hK1, hD1⟩ := hB
        rw [htC] at hP1
        have hK1 := va_K.moved hvm.symm hK1
        obtain ⟨hP, hD⟩ := va_join (wr := []) (w1 := [(zo14irriiiiiirriirrrrlriiii m0 th aS aI im (nI a) sp9_123 (nI E) wg9_124 4 aB aT se dn aG aO aN aD bv aY rn kd nu tv), (zaI aS cS 901 fS9_105)]) hP hD [0, 1] [] rfl rfl (by decide) (by decide) hk1 hFc hP1 hD1
        have hK := (hK.sub (tys' := []) [] rfl).app hK1
        generalize H1 = H at hP hS ⊢
        have hP : va_P (dC, dI) vwCl [(zo14irriiiiiirriirrrrlriiii m0 th aS aI im (nI a) sp9_123 (nI E) wg9_124 4 aB aT se dn aG aO aN aD bv aY rn kd nu tv), (zaI aS cS 901 fS9_105)] H := hP
        have hD : va_D A [(zo14irriiiiiirriirrrrlriiii m0 th aS aI im (nI a) sp9_123 (nI E) wg9_124 4 aB aT se dn aG aO aN aD bv aY rn kd nu tv), (zaI aS cS 901 fS9_105)] := hD
        have hK : va_K (dC, dI) vwCl [(cS, .int)] s := hK
        rcases hw_122 with ⟨rfl, rfl, h_125⟩ | ⟨rfl, _, h_125, h_126, rfl⟩
        · skip
          have hn41 : ¬ ss (p_108) = 41 := fun z => h_125 rfl ((((TP_PF gT gE ((PF.rf).tr hF_113))).eq (c := 41) (by omega) (by omega)).mpr z)
          refine lv_aload_n hx hb dX12_factor_101 rfl (lv_at hl 1 rfl) ?_
          refine lv_dup hx hb dX12_factor_102 rfl ?_
          refine va_get (D := (dC, dI)) (ci := 14) (v := .int 4) (C := RX12) (T := TX12) (N := 23) hx hb hts kc_factor3_0 hown hK hP 0 rfl rfl 8 (by decide) (hts (.fieldLink RX12 89 "MistHeapsModel" "open" "I") kc_factor3_2) (fun _ h9 => h9) rfl dX12_factor_103 ?_
          refine lv_iconst (v := 1) hx hb dX12_factor_106 (by decide) ?_
          refine lv_isub hx hb dX12_factor_107 ?_
          refine qi_as (y := 3) (by decide) ?_
          refine va_put (D := (dC, dI)) (ci := 14) (v := .int 3) (ty := .int) (C := RX12) (T := TX12) (N := 23) hx hb hts kc_factor3_0 tyX12 tyX12_ok nmX12 hown hK hP hD hS 0 rfl rfl 8 (by decide) (hts (.fieldLink RX12 89 "MistHeapsModel" "open" "I") kc_factor3_2) (fun _ h9 => h9) rfl (by decide +kernel) rfl rfl (Nat.le_of_ble_eq_true rfl) dX12_factor_108 (fun H locs hP hD hS => ?_)
          have hP : va_P (dC, dI) vwCl [(zo14irriiiiiirriirrrrlriiii m0 th aS aI im (nI a) (nI p_108) (nI E) 1 3 aB aT se dn aG aO aN aD bv aY rn kd nu tv), (zaI aS cS 901 fS9_105)] H := hP
          have hD : va_D A [(zo14irriiiiiirriirrrrlriiii m0 th aS aI im (nI a) (nI p_108) (nI E) 1 3 aB aT se dn aG aO aN aD bv aY rn kd nu tv), (zaI aS cS 901 fS9_105)] := hD
          rw [hQ]
          have hP9 := hP.sub (ws' := [(zo14irriiiiiirriirrrrlriiii m0 th aS aI im (nI a) (nI p_108) (nI E) 1 3 aB aT se dn aG aO aN aD bv aY rn kd nu tv), (zaI aS cS 901 fS9_105)]) [0, 1] rfl
          have hD9 := hD.sub (ws' := [(zo14irriiiiiirriirrrrlriiii m0 th aS aI im (nI a) (nI p_108) (nI E) 1 3 aB aT se dn aG aO aN aD bv aY rn kd nu tv), (zaI aS cS 901 fS9_105)]) [0, 1] (by decide) rfl
          have hK9 := hK.sub (tys' := [(cS, .int)]) [0] rfl
          exact W.vret hx hb hr (fun tQ htQ hWQ => ⟨⟨(fS9_105, (nI p_108), 1), rfl, ⟨p_108, rfl, by omega, by omega, (PF.rf).tr hF_113, Or.inl ⟨rfl, pf_b1 (l := 1) hs eP_110 hn41⟩⟩, by rw [htQ]; exact hP9, va_K.moved hWQ.alike hK9, hD9⟩, hS.F htQ⟩) hS.2.2 dX12_factor_111
        · skip
          have hs41 : ss (p_108) = 41 := (((TP_PF gT gE ((PF.rf).tr hF_113))).eq (c := 41) (by omega) (by omega)).mp h_125
          refine lv_aload_n hx hb dX12_factor_101 rfl (lv_at hl 1 rfl) ?_
          refine lv_dup hx hb dX12_factor_102 rfl ?_
          refine va_get (D := (dC, dI)) (ci := 14) (v := .int 4) (C := RX12) (T := TX12) (N := 23) hx hb hts kc_factor3_0 hown hK hP 0 rfl rfl 8 (by decide) (hts (.fieldLink RX12 89 "MistHeapsModel" "open" "I") kc_factor3_2) (fun _ h9 => h9) rfl dX12_factor_103 ?_
          refine lv_iconst (v := 1) hx hb dX12_factor_106 (by decide) ?_
          refine lv_isub hx hb dX12_factor_107 ?_
          refine qi_as (y := 3) (by decide) ?_
          refine va_put (D := (dC, dI)) (ci := 14) (v := .int 3) (ty := .int) (C := RX12) (T := TX12) (N := 23) hx hb hts kc_factor3_0 tyX12 tyX12_ok nmX12 hown hK hP hD hS 0 rfl rfl 8 (by decide) (hts (.fieldLink RX12 89 "MistHeapsModel" "open" "I") kc_factor3_2) (fun _ h9 => h9) rfl (by decide +kernel) rfl rfl (Nat.le_of_ble_eq_true rfl) dX12_factor_108 (fun H locs hP hD hS => ?_)
          have hP : va_P (dC, dI) vwCl [(zo14irriiiiiirriirrrrlriiii m0 th aS aI im (nI a) (nI (p_108 + 1)) (nI E) 0 3 aB aT se dn aG aO aN aD bv aY rn kd nu tv), (zaI aS cS 901 fS9_105)] H := hP
          have hD : va_D A [(zo14irriiiiiirriirrrrlriiii m0 th aS aI im (nI a) (nI (p_108 + 1)) (nI E) 0 3 aB aT se dn aG aO aN aD bv aY rn kd nu tv), (zaI aS cS 901 fS9_105)] := hD
          rw [hQ]
          have hP9 := hP.sub (ws' := [(zo14irriiiiiirriirrrrlriiii m0 th aS aI im (nI a) (nI (p_108 + 1)) (nI E) 0 3 aB aT se dn aG aO aN aD bv aY rn kd nu tv), (zaI aS cS 901 fS9_105)]) [0, 1] rfl
          have hD9 := hD.sub (ws' := [(zo14irriiiiiirriirrrrlriiii m0 th aS aI im (nI a) (nI (p_108 + 1)) (nI E) 0 3 aB aT se dn aG aO aN aD bv aY rn kd nu tv), (zaI aS cS 901 fS9_105)]) [0, 1] (by decide) rfl
          have hK9 := hK.sub (tys' := [(cS, .int)]) [0] rfl
          exact W.vret hx hb hr (fun tQ htQ hWQ => ⟨⟨(fS9_105, (nI (p_108 + 1)), 0), rfl, ⟨p_108 + 1, rfl, by omega, by omega, (PF.rf).tr hF_113, Or.inr ⟨rfl, L_109, pf_b2 (l := 1) hs eP_110 hs41, by omega, (hI_115).mono (by omega) (by omega), by (try simp only [List.length_append, List.length_cons, List.length_nil]); omega⟩⟩, by rw [htQ]; exact hP9, va_K.moved hWQ.alike hK9, hD9⟩, hS.F htQ⟩) hS.2.2 dX12_factor_111

theorem kc_every3_0 : ∀ w ∈ wsX120, w ∈ wsX12_every := fun w h => List.mem_cons_of_mem _ (gin_wsX120 w h)
theorem kc_every3_1 : (.fieldLink RX12 65 "MistHeapsModel" "isWrong" "Z" : Cond) ∈ wsX12_every := kc_of 1147 rfl rfl rfl
theorem kc_every3_2 : (.fieldLink RX12 59 "MistHeapsModel" "spot" "I" : Cond) ∈ wsX12_every := kc_of 1145 rfl rfl rfl
set_option maxHeartbeats 4000000 in
set_option maxRecDepth 100000 in
theorem c_every3 (l : Launch) (dC : Nat → ClassId) (dI : Nat → Nat → Nat) (sK sV : Nat → Nat) (m0 aS aI aB aT aG aO aN aD aY : Nat) (th im ac sp en wg op se dn rn kd nu tv : Int32) (bv : Int64) (cS : ClassId) (fS : Nat → Int32) (a p0 E : Nat) (K : List Nat) (d : Nat) (ss : Nat → Nat) (sz : Nat) (gI : PI fS a K d p0 E) (gT : TP fS E ss) : Met l yX12_every wsX12_every ({ frames := 12, cells := 0, slots := 0, locals := 259 } : Room) (va_Pc [.ref m0] (fun U => U.heap.size = sz ∧ va_P (dC, dI) vwCl [(zo14irriiiiiirriirrrrlriiii m0 th aS aI im (nI a) (nI p0) (nI E) 0 3 aB aT se dn aG aO aN aD bv aY rn kd nu tv), (zaI aS cS 901 fS)] U.heap ∧ va_K (dC, dI) vwCl [(cS, .int)] U ∧ va_D (fun _ => True) [(zo14irriiiiiirriirrrrlriiii m0 th aS aI im (nI a) (nI p0) (nI E) 0 3 aB aT se dn aG aO aN aD bv aY rn kd nu tv), (zaI aS cS 901 fS)] ∧ Gs sK sV (va_A [(zo14irriiiiiirriirrrrlriiii m0 th aS aI im (nI a) (nI p0) (nI E) 0 3 aB aT se dn aG aO aN aD bv aY rn kd nu tv), (zaI aS cS 901 fS)] sz) U)) (va_Qv (fun (u : (Nat → Int32) × (Int32) × (Int32)) => match u with | (fS9, sp9, wg9) => ∃ p9 : Nat, sp9 = nI p9 ∧ p0 ≤ p9 ∧ p9 ≤ E ∧ PF a fS fS9 ∧ ((wg9 = 1 ∧ pEv ss (pFac ss 2) p0 = (none, p9)) ∨ (wg9 = 0 ∧ ∃ L : List Nat, pEv ss (pFac ss 2) p0 = (some L, p9) ∧ p0 + 3 ≤ p9 ∧ PI fS9 a (K ++ L) (d + 1) p9 E ∧ L.length + p0 ≤ p9))) (fun (u : (Nat → Int32) × (Int32) × (Int32)) (t : State) => match u with | (fS9, sp9, wg9) => va_P (dC, dI) vwCl [(zo14irriiiiiirriirrrrlriiii m0 th aS aI im (nI a) sp9 (nI E) wg9 3 aB aT se dn aG aO aN aD bv aY rn kd nu tv), (zaI aS cS 901 fS9)] t.heap ∧ va_K (dC, dI) vwCl [(cS, .int)] t ∧ va_D (va_A [(zo14irriiiiiirriirrrrlriiii m0 th aS aI im (nI a) (nI p0) (nI E) 0 3 aB aT se dn aG aO aN aD bv aY rn kd nu tv), (zaI aS cS 901 fS)] sz) [(zo14irriiiiiirriirrrrlriiii m0 th aS aI im (nI a) sp9 (nI E) wg9 3 aB aT se dn aG aO aN aD bv aY rn kd nu tv), (zaI aS cS 901 fS9)]) (va_A [(zo14irriiiiiirriirrrrlriiii m0 th aS aI im (nI a) (nI p0) (nI E) 0 3 aB aT se dn aG aO aN aD bv aY rn kd nu tv), (zaI aS cS 901 fS)] sz)) 0 0 (va_A [(zo14irriiiiiirriirrrrlriiii m0 th aS aI im (nI a) (nI p0) (nI E) 0 3 aB aT se dn aG aO aN aD bv aY rn kd nu tv), (zaI aS cS 901 fS)] sz) := by
  refine met_ofQ (cc := cX12_every) (maxL := 1) (ret := none) (by decide) rfl ?_
  intro p e s m args below meth c s₁ Q B hml hv hQ
  obtain ⟨rfl, hsz, hP, hK, hD0, hE⟩ := hv
  have hx := B.exec
  have hb := B.bytes
  have hr := B.returns
  have hts := atoms_spec (ws := wsX12_every) B.pre
  have hown : s.vm.findClass RX12 = some m.cls := findClass_of_methodNamed B.named
  have hlocks := B.notSynchronized
  subst hsz
  have hD := hD0.self (sz := s.heap.size)
  generalize hAe : va_A [(zo14irriiiiiirriirrrrlriiii m0 th aS aI im (nI a) (nI p0) (nI E) 0 3 aB aT se dn aG aO aN aD bv aY rn kd nu tv), (zaI aS cS 901 fS)] s.heap.size = A at hD hQ hE ⊢
  have hA : ∀ q : Nat, s.heap.size ≤ q → A q := fun q h => by rw [← hAe]; exact Or.inr h
  have hS : va_S A s.heap s.heap [] := va_S.rf
  have hl := lv_entry [.ref m0] (n := 1) (Nat.le_of_ble_eq_true rfl)
  rw [lg_entry_eq]
  generalize (lg_sl [.ref m0] ++ List.replicate (1 - (lg_sl [.ref m0]).length) Slot.unset).toArray = ls at hl ⊢
  generalize hag : ([.ref m0] : List Value).toArray = args at hts hQ ⊢
  have hl : lv_has ls 1 [(0, .ref m0)] := hl
  obtain ⟨H, hH⟩ : ∃ H : Heap, H = s.heap := ⟨_, rfl⟩
  rw [← hH] at hP
  rw [← hH]
  have hS : va_S A s.heap H [] := by rw [hH]; exact hS
  obtain ⟨locs, hlo⟩ : ∃ L : List Loc, L = [] := ⟨_, rfl⟩
  rw [← hlo] at hS
  rw [← hlo]
  clear hH hlo
  obtain ⟨ga, gp, gE, zk, gkp, gd, gs, gcd⟩ := id gI
  refine lv_aload_n hx hb dX12_every_0 rfl (lv_at hl 0 rfl) ?_
  have hPc := hP.sub (ws' := [(zo14irriiiiiirriirrrrlriiii m0 th aS aI im (nI a) (nI p0) (nI E) 0 3 aB aT se dn aG aO aN aD bv aY rn kd nu tv), (zaI aS cS 901 fS)]) [0, 1] rfl
  have hDc := hD.sub (ws' := [(zo14irriiiiiirriirrrrlriiii m0 th aS aI im (nI a) (nI p0) (nI E) 0 3 aB aT se dn aG aO aN aD bv aY rn kd nu tv), (zaI aS cS 901 fS)]) [0, 1] (by decide) rfl
  have hKc := hK.sub (tys' := [(cS, .int)]) [0] rfl
  have hFc := va_free (wc := [(zo14irriiiiiirriirrrrlriiii m0 th aS aI im (nI a) (nI p0) (nI E) 0 3 aB aT se dn aG aO aN aD bv aY rn kd nu tv), (zaI aS cS 901 fS)]) hD hS hA [0, 1] rfl
  refine va_callv (va_runV (As := []) (rest := []) ⟨hx, hb, hml, hown, hts⟩ (c_factor3 l dC dI sK sV m0 aS aI aB aT aG aO aN aD aY th im (nI a) (nI p0) (nI E) 0 3 se dn rn kd nu tv bv cS fS a p0 E K d ss H.size ((gI).mono (by omega) (by omega)) (gT)) (cwV 0 hts gX12_every_X12_factor rfl rfl rfl hd_yX12_factor ⟨Nat.le_of_ble_eq_true rfl, Nat.le_of_ble_eq_true rfl⟩) ⟨fun a U g mk q => by obtain ⟨q0, q1, qP, qK, qD, qhE⟩ := q; exact ⟨q0, mvz g mk a q1, mvP g mk a qP, mvK g mk a qK, qD, qhE.mv g mk a⟩, va_recv hK hP (ci := 14) (q := (RX12, TX12, 23)) (q0 := 0) rfl rfl, fun U hU hW => ⟨rfl, by rw [hU], by rw [hU]; exact hPc, va_K.moved hW.alike hKc, hDc.weaken (fun _ _ _ _ => trivial), hE.call hS hU hW (fun q h => hFc q h)⟩⟩ rfl rfl hl.1 rfl (lv_room (Nat.le_of_ble_eq_true rfl)) dX12_every_1 ⟨Nat.le_of_ble_eq_true rfl, Nat.le_of_ble_eq_true rfl⟩) hS (fun q _ h => hFc q h) hFc (fun u tC H1 locs htC hvm hw_2 hB hz1 hk1 hS => ?_)
  obtain ⟨fS9_3, sp9_4, wg9_5⟩ := u
  try dsimp only at hw_2 hB
  obtain ⟨hP1, hK1, hD1⟩ := hB
  rw [htC] at hP1
  have hK1 := va_K.moved hvm.symm hK1
  obtain ⟨hP, hD⟩ := va_join (wr := []) (w1 := [(zo14irriiiiiirriirrrrlriiii m0 th aS aI im (nI a) sp9_4 (nI E) wg9_5 3 aB aT se dn aG aO aN aD bv aY rn kd nu tv), (zaI aS cS 901 fS9_3)]) hP hD [0, 1] [] rfl rfl (by decide) (by decide) hk1 hFc hP1 hD1
  have hK := (hK.sub (tys' := []) [] rfl).app hK1
  generalize H1 = H at hP hS ⊢
  have hP : va_P (dC, dI) vwCl [(zo14irriiiiiirriirrrrlriiii m0 th aS aI im (nI a) sp9_4 (nI E) wg9_5 3 aB aT se dn aG aO aN aD bv aY rn kd nu tv), (zaI aS cS 901 fS9_3)] H := hP
  have hD : va_D A [(zo14irriiiiiirriirrrrlriiii m0 th aS aI im (nI a) sp9_4 (nI E) wg9_5 3 aB aT se dn aG aO aN aD bv aY rn kd nu tv), (zaI aS cS 901 fS9_3)] := hD
  have hK : va_K (dC, dI) vwCl [(cS, .int)] s := hK
  obtain ⟨p_6, rfl, h_9, h_10, hF_11, q9⟩ := hw_2
  rcases q9 with ⟨rfl, eP_8⟩ | ⟨rfl, L_7, eP_8, h_12, hI_13, h_14⟩
  · skip
    have L4 : ∀ (nF : Nat) (p1 : Nat) (L1 : List Nat) (m1 : Nat) (w1 : Int32) (f1 : Nat → Int32), E - p1 < nF → (p0 ≤ p1 ∧ p1 ≤ E) → (PF a fS f1) → ((w1 = 1 ∧ pEv ss (pFac ss 2) p0 = (none, p1)) ∨ (w1 = 0 ∧ pEv ss (pFac ss 2) p0 = pSep ss 38 1802 (pFac ss 2) m1 (some L1, p1) ∧ 101 ≤ m1 + p1 ∧ p0 + 3 ≤ p1 ∧ PI f1 a (K ++ L1) (d + 1) p1 E ∧ L1.length + p0 ≤ p1)) → ∀ (H : Heap) (locs : List Loc), va_K (dC, dI) vwCl [(cS, .int)] s → va_P (dC, dI) vwCl [(zo14irriiiiiirriirrrrlriiii m0 th aS aI im (nI a) (nI p1) (nI E) w1 3 aB aT se dn aG aO aN aD bv aY rn kd nu tv), (zaI aS cS 901 f1)] H → va_D A [(zo14irriiiiiirriirrrrlriiii m0 th aS aI im (nI a) (nI p1) (nI E) w1 3 aB aT se dn aG aO aN aD bv aY rn kd nu tv), (zaI aS cS 901 f1)] → va_S A s.heap H locs → ∀ (ls : Array Slot), lv_has ls 1 [(0, .ref m0)] → W p l e ({ frames := 12, cells := 0, slots := 0, locals := 259 } : Room) s m args below meth c H locs 0 0 Q (F0 m 4 ls []) := by
      intro nF
      induction nF with
      | zero => intro p1 L1 m1 w1 f1 hm; exact absurd hm (Nat.not_lt_zero _)
      | succ nF ih4 =>
        intro p1 L1 m1 w1 f1 hm h1 hF hw1 H locs hK hP hD hS ls hl
        obtain ⟨h1a, h1b⟩ := h1
        rcases hw1 with ⟨rfl, hE9⟩ | ⟨rfl, hE9, hm9, h3, hI, h4⟩
        · skip
          refine lv_aload_n hx hb dX12_every_4 rfl (lv_at hl 0 rfl) ?_
          refine va_get (D := (dC, dI)) (ci := 14) (v := .int 1) (C := RX12) (T := TX12) (N := 23) hx hb hts kc_every3_0 hown hK hP 0 rfl rfl 7 (by decide) (hts (.fieldLink RX12 65 "MistHeapsModel" "isWrong" "Z") kc_every3_1) (fun _ h9 => h9) rfl dX12_every_5 ?_
          refine lv_if_ne (tgt := 43) hx hb dX12_every_8 (by decide) (fun _ => ?_) (fun c_15 => absurd c_15 (by decide))
          rw [hQ]
          have hP9 := hP.sub (ws' := [(zo14irriiiiiirriirrrrlriiii m0 th aS aI im (nI a) (nI p1) (nI E) 1 3 aB aT se dn aG aO aN aD bv aY rn kd nu tv), (zaI aS cS 901 f1)]) [0, 1] rfl
          have hD9 := hD.sub (ws' := [(zo14irriiiiiirriirrrrlriiii m0 th aS aI im (nI a) (nI p1) (nI E) 1 3 aB aT se dn aG aO aN aD bv aY rn kd nu tv), (zaI aS cS 901 f1)]) [0, 1] (by decide) rfl
          have hK9 := hK.sub (tys' := [(cS, .int)]) [0] rfl
          exact W.vret hx hb hr (fun tQ htQ hWQ => ⟨⟨(f1, (nI p1), 1), rfl, ⟨p1, rfl, by omega, by omega, hF, Or.inl ⟨rfl, hE9⟩⟩, by rw [htQ]; exact hP9, va_K.moved hWQ.alike hK9, hD9⟩, hS.F htQ⟩) hS.2.2 dX12_every_43
        · skip
          have k5 := hI.2.2.2.2.1
          have hq1 : (K ++ L1).length = K.length + L1.length := List.length_append
          refine lv_aload_n hx hb dX12_every_4 rfl (lv_at hl 0 rfl) ?_
          refine va_get (D := (dC, dI)) (ci := 14) (v := .int 0) (C := RX12) (T := TX12) (N := 23) hx hb hts kc_every3_0 hown hK hP 0 rfl rfl 7 (by decide) (hts (.fieldLink RX12 65 "MistHeapsModel" "isWrong" "Z") kc_every3_1) (fun _ h9 => h9) rfl dX12_every_5 ?_
          refine lv_if_ne (tgt := 43) hx hb dX12_every_8 (by decide) (fun c_16 => absurd c_16 (by decide)) (fun _ => ?_)
          refine lv_aload_n hx hb dX12_every_11 rfl (lv_at hl 0 rfl) ?_
          have hPc := hP.sub (ws' := [(zo14irriiiiiirriirrrrlriiii m0 th aS aI im (nI a) (nI p1) (nI E) 0 3 aB aT se dn aG aO aN aD bv aY rn kd nu tv), (zaI aS cS 901 f1)]) [0, 1] rfl
          have hKc := hK.sub (tys' := [(cS, .int)]) [0] rfl
          refine vp_callSi (va_runV (As := []) (rest := []) ⟨hx, hb, hml, hown, hts⟩ (c_here l dC dI m0 aS aI aB aT aG aO aN aD aY th im (nI a) (nI p1) (nI E) 0 3 se dn rn kd nu tv bv cS f1 a p1 E (by omega) (by omega) (by omega)) (cwV 0 hts gX12_every_X12_here rfl rfl rfl hd_yX12_here ⟨Nat.le_of_ble_eq_true rfl, Nat.le_of_ble_eq_true rfl⟩) ⟨fun a U g mk q => by obtain ⟨q0, qP, qK⟩ := q; exact ⟨q0, mvP g mk a qP, mvK g mk a qK⟩, va_recv hK hP (ci := 14) (q := (RX12, TX12, 23)) (q0 := 0) rfl rfl, fun U hU hW => ⟨rfl, by rw [hU]; exact hPc, va_K.moved hW.alike hKc⟩⟩ rfl rfl hl.1 rfl (lv_room (Nat.le_of_ble_eq_true rfl)) dX12_every_12 ⟨Nat.le_of_ble_eq_true rfl, Nat.le_of_ble_eq_true rfl⟩).run (fun r_17 hw_18 => ?_)
          refine lv_bipush (v := 38) hx hb dX12_every_15 (by decide) ?_
          refine lv_icmp_ne (tgt := 43) hx hb dX12_every_17 (by decide) (fun c_19 => ?_) (fun c_19 => ?_)
          · skip
            have hn9 : ¬ ss p1 = 38 := fun z => c_19 (by rw [hw_18]; exact ((TP_PF gT gE hF).eq (c := 38) (by omega) (by omega)).mpr z)
            rw [hQ]
            have hP9 := hP.sub (ws' := [(zo14irriiiiiirriirrrrlriiii m0 th aS aI im (nI a) (nI p1) (nI E) 0 3 aB aT se dn aG aO aN aD bv aY rn kd nu tv), (zaI aS cS 901 f1)]) [0, 1] rfl
            have hD9 := hD.sub (ws' := [(zo14irriiiiiirriirrrrlriiii m0 th aS aI im (nI a) (nI p1) (nI E) 0 3 aB aT se dn aG aO aN aD bv aY rn kd nu tv), (zaI aS cS 901 f1)]) [0, 1] (by decide) rfl
            have hK9 := hK.sub (tys' := [(cS, .int)]) [0] rfl
            exact W.vret hx hb hr (fun tQ htQ hWQ => ⟨⟨(f1, (nI p1), 0), rfl, ⟨p1, rfl, by omega, by omega, hF, Or.inr ⟨rfl, L1, hE9.trans (ps_end hn9), by omega, hI, by (try simp only [List.length_append, List.length_cons, List.length_nil]); omega⟩⟩, by rw [htQ]; exact hP9, va_K.moved hWQ.alike hK9, hD9⟩, hS.F htQ⟩) hS.2.2 dX12_every_43
          · skip
            have hs9 : ss p1 = 38 := ((TP_PF gT gE hF).eq (c := 38) (by omega) (by omega)).mp (by rw [← hw_18, c_19]; rfl)
            have hlt : p1 < E := Nat.lt_of_not_le (fun z => by have := gT.2.1 p1 z; omega)
            obtain ⟨m2, rfl⟩ : ∃ q : Nat, m1 = q + 1 := ⟨m1 - 1, by omega⟩
            refine lv_aload_n hx hb dX12_every_20 rfl (lv_at hl 0 rfl) ?_
            refine lv_dup hx hb dX12_every_21 rfl ?_
            refine va_get (D := (dC, dI)) (ci := 14) (v := .int (nI p1)) (C := RX12) (T := TX12) (N := 23) hx hb hts kc_every3_0 hown hK hP 0 rfl rfl 5 (by decide) (hts (.fieldLink RX12 59 "MistHeapsModel" "spot" "I") kc_every3_2) (fun _ h9 => h9) rfl dX12_every_22 ?_
            refine lv_iconst (v := 1) hx hb dX12_every_25 (by decide) ?_
            refine lv_iadd hx hb dX12_every_26 ?_
            refine qi_as (y := nI (p1 + 1)) (nI_add p1 1) ?_
            refine va_put (D := (dC, dI)) (ci := 14) (v := .int (nI (p1 + 1))) (ty := .int) (C := RX12) (T := TX12) (N := 23) hx hb hts kc_every3_0 tyX12 tyX12_ok nmX12 hown hK hP hD hS 0 rfl rfl 5 (by decide) (hts (.fieldLink RX12 59 "MistHeapsModel" "spot" "I") kc_every3_2) (fun _ h9 => h9) rfl (by decide +kernel) rfl rfl (Nat.le_of_ble_eq_true rfl) dX12_every_27 (fun H locs hP hD hS => ?_)
            have hP : va_P (dC, dI) vwCl [(zo14irriiiiiirriirrrrlriiii m0 th aS aI im (nI a) (nI (p1 + 1)) (nI E) 0 3 aB aT se dn aG aO aN aD bv aY rn kd nu tv), (zaI aS cS 901 f1)] H := hP
            have hD : va_D A [(zo14irriiiiiirriirrrrlriiii m0 th aS aI im (nI a) (nI (p1 + 1)) (nI E) 0 3 aB aT se dn aG aO aN aD bv aY rn kd nu tv), (zaI aS cS 901 f1)] := hD
            refine lv_aload_n hx hb dX12_every_30 rfl (lv_at hl 0 rfl) ?_
            have hPc := hP.sub (ws' := [(zo14irriiiiiirriirrrrlriiii m0 th aS aI im (nI a) (nI (p1 + 1)) (nI E) 0 3 aB aT se dn aG aO aN aD bv aY rn kd nu tv), (zaI aS cS 901 f1)]) [0, 1] rfl
            have hDc := hD.sub (ws' := [(zo14irriiiiiirriirrrrlriiii m0 th aS aI im (nI a) (nI (p1 + 1)) (nI E) 0 3 aB aT se dn aG aO aN aD bv aY rn kd nu tv), (zaI aS cS 901 f1)]) [0, 1] (by decide) rfl
            have hKc := hK.sub (tys' := [(cS, .int)]) [0] rfl
            have hFc := va_free (wc := [(zo14irriiiiiirriirrrrlriiii m0 th aS aI im (nI a) (nI (p1 + 1)) (nI E) 0 3 aB aT se dn aG aO aN aD bv aY rn kd nu tv), (zaI aS cS 901 f1)]) hD hS hA [0, 1] rfl
            refine va_callv (va_runV (As := []) (rest := []) ⟨hx, hb, hml, hown, hts⟩ (c_factor3 l dC dI sK sV m0 aS aI aB aT aG aO aN aD aY th im (nI a) (nI (p1 + 1)) (nI E) 0 3 se dn rn kd nu tv bv cS f1 a (p1 + 1) E (K ++ L1) (d + 1) ss H.size ((hI).mono (by omega) (by omega)) ((TP_PF gT gE (hF)))) (cwV 0 hts gX12_every_X12_factor rfl rfl rfl hd_yX12_factor ⟨Nat.le_of_ble_eq_true rfl, Nat.le_of_ble_eq_true rfl⟩) ⟨fun a U g mk q => by obtain ⟨q0, q1, qP, qK, qD, qhE⟩ := q; exact ⟨q0, mvz g mk a q1, mvP g mk a qP, mvK g mk a qK, qD, qhE.mv g mk a⟩, va_recv hK hP (ci := 14) (q := (RX12, TX12, 23)) (q0 := 0) rfl rfl, fun U hU hW => ⟨rfl, by rw [hU], by rw [hU]; exact hPc, va_K.moved hW.alike hKc, hDc.weaken (fun _ _ _ _ => trivial), hE.call hS hU hW (fun q h => hFc q h)⟩⟩ rfl rfl hl.1 rfl (lv_room (Nat.le_of_ble_eq_true rfl)) dX12_every_31 ⟨Nat.le_of_ble_eq_true rfl, Nat.le_of_ble_eq_true rfl⟩) hS (fun q _ h => hFc q h) hFc (fun u tC H1 locs htC hvm hw_21 hB hz1 hk1 hS => ?_)
            obtain ⟨fS9_22, sp9_23, wg9_24⟩ := u
            try dsimp only at hw_21 hB
            obtain ⟨hP1, hK1, hD1⟩ := hB
            rw [htC] at hP1
            have hK1 := va_K.moved hvm.symm hK1
            obtain ⟨hP, hD⟩ := va_join (wr := []) (w1 := [(zo14irriiiiiirriirrrrlriiii m0 th aS aI im (nI a) sp9_23 (nI E) wg9_24 3 aB aT se dn aG aO aN aD bv aY rn kd nu tv), (zaI aS cS 901 fS9_22)]) hP hD [0, 1] [] rfl rfl (by decide) (by decide) hk1 hFc hP1 hD1
            have hK := (hK.sub (tys' := []) [] rfl).app hK1
            generalize H1 = H at hP hS ⊢
            have hP : va_P (dC, dI) vwCl [(zo14irriiiiiirriirrrrlriiii m0 th aS aI im (nI a) sp9_23 (nI E) wg9_24 3 aB aT se dn aG aO aN aD bv aY rn kd nu tv), (zaI aS cS 901 fS9_22)] H := hP
            have hD : va_D A [(zo14irriiiiiirriirrrrlriiii m0 th aS aI im (nI a) sp9_23 (nI E) wg9_24 3 aB aT se dn aG aO aN aD bv aY rn kd nu tv), (zaI aS cS 901 fS9_22)] := hD
            have hK : va_K (dC, dI) vwCl [(cS, .int)] s := hK
            obtain ⟨p_25, rfl, h_28, h_29, hF_30, q9⟩ := hw_21
            rcases q9 with ⟨rfl, eP_27⟩ | ⟨rfl, L_26, eP_27, h_31, hI_32, h_33⟩
            · skip
              refine lv_aload_n hx hb dX12_every_34 rfl (lv_at hl 0 rfl) ?_
              refine lv_bipush (v := (-2)) hx hb dX12_every_35 (by decide) ?_
              have hPc := hP.sub (ws' := [(zo14irriiiiiirriirrrrlriiii m0 th aS aI im (nI a) (nI p_25) (nI E) 1 3 aB aT se dn aG aO aN aD bv aY rn kd nu tv)]) [0] rfl
              have hKc := hK.sub (tys' := []) [] rfl
              refine va_csv (va_runV (As := [.int (-2)]) (rest := []) ⟨hx, hb, hml, hown, hts⟩ (c_emitsW l dC dI m0 aS aI aB aT aG aO aN aD aY th im (nI a) (nI p_25) (nI E) 1 3 se dn rn kd nu tv bv (-2)) (cwV 1 hts gX12_every_X12_emits rfl rfl rfl hd_yX12_emits ⟨Nat.le_of_ble_eq_true rfl, Nat.le_of_ble_eq_true rfl⟩) ⟨fun a U g mk q => by obtain ⟨q0, qP, qK⟩ := q; exact ⟨q0, mvP g mk a qP, mvK g mk a qK⟩, va_recv hK hP (ci := 14) (q := (RX12, TX12, 23)) (q0 := 0) rfl rfl, fun U hU hW => ⟨rfl, by rw [hU]; exact hPc, va_K.moved hW.alike hKc⟩⟩ rfl rfl hl.1 rfl (lv_room (Nat.le_of_ble_eq_true rfl)) dX12_every_37 ⟨Nat.le_of_ble_eq_true rfl, Nat.le_of_ble_eq_true rfl⟩).run (fun hw_35 => ?_)
              refine lv_goto (tgt := 4) hx hb dX12_every_40 (by decide) ?_
              exact ih4 (p_25) ([]) (0) (1) (fS9_22) (by omega) (by omega) ((hF).tr hF_30) (Or.inl ⟨rfl, hE9.trans (ps_bad hs9 eP_27)⟩) _ _ (hK.sub [0] rfl) (hP.sub [0, 1] rfl) (hD.sub [0, 1] (by decide) rfl) hS ls (lv_sub hl [0] rfl)
            · skip
              have k5 := hI_32.2.2.2.2.1
              have hqL_26 : ((K ++ L1) ++ L_26).length = (K ++ L1).length + L_26.length := List.length_append
              refine lv_aload_n hx hb dX12_every_34 rfl (lv_at hl 0 rfl) ?_
              refine lv_bipush (v := (-2)) hx hb dX12_every_35 (by decide) ?_
              have hPc := hP.sub (ws' := [(zo14irriiiiiirriirrrrlriiii m0 th aS aI im (nI a) (nI p_25) (nI E) 0 3 aB aT se dn aG aO aN aD bv aY rn kd nu tv), (zaI aS cS 901 fS9_22)]) [0, 1] rfl
              have hDc := hD.sub (ws' := [(zo14irriiiiiirriirrrrlriiii m0 th aS aI im (nI a) (nI p_25) (nI E) 0 3 aB aT se dn aG aO aN aD bv aY rn kd nu tv), (zaI aS cS 901 fS9_22)]) [0, 1] (by decide) rfl
              have hKc := hK.sub (tys' := [(cS, .int)]) [0] rfl
              have hFc := va_free (wc := [(zo14irriiiiiirriirrrrlriiii m0 th aS aI im (nI a) (nI p_25) (nI E) 0 3 aB aT se dn aG aO aN aD bv aY rn kd nu tv), (zaI aS cS 901 fS9_22)]) hD hS hA [0, 1] rfl
              refine va_callv (va_runV (As := [.int (-2)]) (rest := []) ⟨hx, hb, hml, hown, hts⟩ (c_emits l dC dI m0 aS aI aB aT aG aO aN aD aY th im (nI a) (nI p_25) (nI E) 0 3 se dn rn kd nu tv bv cS fS9_22 a ((K ++ L1) ++ L_26).length (-2) H.size (ga) ((hI_32).2.2.2.1) (by have := (hI_32).2.2.2.2.1; omega)) (cwV 1 hts gX12_every_X12_emits rfl rfl rfl hd_yX12_emits ⟨Nat.le_of_ble_eq_true rfl, Nat.le_of_ble_eq_true rfl⟩) ⟨fun a U g mk q => by obtain ⟨q0, q1, qP, qK, qD⟩ := q; exact ⟨q0, mvz g mk a q1, mvP g mk a qP, mvK g mk a qK, qD⟩, va_recv hK hP (ci := 14) (q := (RX12, TX12, 23)) (q0 := 0) rfl rfl, fun U hU hW => ⟨rfl, by rw [hU], by rw [hU]; exact hPc, va_K.moved hW.alike hKc, hDc.weaken (fun _ _ _ _ => trivial)⟩⟩ rfl rfl hl.1 rfl (lv_room (Nat.le_of_ble_eq_true rfl)) dX12_every_37 ⟨Nat.le_of_ble_eq_true rfl, Nat.le_of_ble_eq_true rfl⟩) hS (fun q _ h => hFc q h) hFc (fun u tC H1 locs htC hvm hw_37 hB hz1 hk1 hS => ?_)
              obtain ⟨fS9_38, rfl⟩ : ∃ z, z = u := ⟨_, rfl⟩
              try dsimp only at hw_37 hB
              obtain ⟨hP1, hK1, hD1⟩ := hB
              rw [htC] at hP1
              have hK1 := va_K.moved hvm.symm hK1
              obtain ⟨hP, hD⟩ := va_join (wr := []) (w1 := [(zo14irriiiiiirriirrrrlriiii m0 th aS aI im (nI a) (nI p_25) (nI E) 0 3 aB aT se dn aG aO aN aD bv aY rn kd nu tv), (zaI aS cS 901 fS9_38)]) hP hD [0, 1] [] rfl rfl (by decide) (by decide) hk1 hFc hP1 hD1
              have hK := (hK.sub (tys' := []) [] rfl).app hK1
              generalize H1 = H at hP hS ⊢
              have hP : va_P (dC, dI) vwCl [(zo14irriiiiiirriirrrrlriiii m0 th aS aI im (nI a) (nI p_25) (nI E) 0 3 aB aT se dn aG aO aN aD bv aY rn kd nu tv), (zaI aS cS 901 fS9_38)] H := hP
              have hD : va_D A [(zo14irriiiiiirriirrrrlriiii m0 th aS aI im (nI a) (nI p_25) (nI E) 0 3 aB aT se dn aG aO aN aD bv aY rn kd nu tv), (zaI aS cS 901 fS9_38)] := hD
              have hK : va_K (dC, dI) vwCl [(cS, .int)] s := hK
              obtain rfl : fS9_38 = emt fS9_22 a ((K ++ L1) ++ L_26).length (-2) := by rcases hw_37 with ⟨q, _⟩ | ⟨_, q⟩; exact absurd rfl q; exact q
              have hI_39 : PI (emt fS9_22 a ((K ++ L1) ++ L_26).length (-2)) a (((K ++ L1) ++ L_26) ++ [1802]) (((d + 1) + 1) - 1) p_25 E := PI.em (t := 1802) ((hI_32).mono (by omega) (by omega)) (by omega) (by omega) (stepd_both (by omega)) (by decide)
              have hF_40 : PF a fS (emt fS9_22 a ((K ++ L1) ++ L_26).length (-2)) := ((hF).tr hF_30).tr (PF_emt (k := ((K ++ L1) ++ L_26).length) (x := (-2)) ga (by have := (hI_32).2.2.2.2.1; omega))
              have hKhI_39 : (((K ++ L1) ++ L_26) ++ [1802]).length = ((K ++ L1) ++ L_26).length + 1 := by rw [List.length_append]; rfl
              refine lv_goto (tgt := 4) hx hb dX12_every_40 (by decide) ?_
              exact ih4 (p_25) (L1 ++ (L_26 ++ [1802])) (m2) (0) (emt fS9_22 a ((K ++ L1) ++ L_26).length (-2)) (by omega) (by omega) (hF_40) (Or.inr ⟨rfl, hE9.trans (ps_go hs9 eP_27), by omega, by omega, PI.as (PI.as hI_39), by simp only [List.length_append, List.length_cons, List.length_nil]; omega⟩) _ _ (hK.sub [0] rfl) (hP.sub [0, 1] rfl) (hD.sub [0, 1] (by decide) rfl) hS ls (lv_sub hl [0] rfl)
    exact L4 _ (p_6) ([]) (0) (1) (fS9_3) (Nat.lt_succ_self _) (by omega) ((PF.rf).tr hF_11) (Or.inl ⟨rfl, pEv_n eP_8⟩) _ _ (hK.sub [0] rfl) (hP.sub [0, 1] rfl) (hD.sub [0, 1] (by decide) rfl) hS ls (lv_sub hl [0] rfl)
  · skip
    have k5 := hI_13.2.2.2.2.1
    have hqL_7 : (K ++ L_7).length = K.length + L_7.length := List.length_append
    have L4 : ∀ (nF : Nat) (p1 : Nat) (L1 : List Nat) (m1 : Nat) (w1 : Int32) (f1 : Nat → Int32), E - p1 < nF → (p0 ≤ p1 ∧ p1 ≤ E) → (PF a fS f1) → ((w1 = 1 ∧ pEv ss (pFac ss 2) p0 = (none, p1)) ∨ (w1 = 0 ∧ pEv ss (pFac ss 2) p0 = pSep ss 38 1802 (pFac ss 2) m1 (some L1, p1) ∧ 101 ≤ m1 + p1 ∧ p0 + 3 ≤ p1 ∧ PI f1 a (K ++ L1) (d + 1) p1 E ∧ L1.length + p0 ≤ p1)) → ∀ (H : Heap) (locs : List Loc), va_K (dC, dI) vwCl [(cS, .int)] s → va_P (dC, dI) vwCl [(zo14irriiiiiirriirrrrlriiii m0 th aS aI im (nI a) (nI p1) (nI E) w1 3 aB aT se dn aG aO aN aD bv aY rn kd nu tv), (zaI aS cS 901 f1)] H → va_D A [(zo14irriiiiiirriirrrrlriiii m0 th aS aI im (nI a) (nI p1) (nI E) w1 3 aB aT se dn aG aO aN aD bv aY rn kd nu tv), (zaI aS cS 901 f1)] → va_S A s.heap H locs → ∀ (ls : Array Slot), lv_has ls 1 [(0, .ref m0)] → W p l e ({ frames := 12, cells := 0, slots := 0, locals := 259 } : Room) s m args below meth c H locs 0 0 Q (F0 m 4 ls []) := by
      intro nF
      induction nF with
      | zero => intro p1 L1 m1 w1 f1 hm; exact absurd hm (Nat.not_lt_zero _)
      | succ nF ih4 =>
        intro p1 L1 m1 w1 f1 hm h1 hF hw1 H locs hK hP hD hS ls hl
        obtain ⟨h1a, h1b⟩ := h1
        rcases hw1 with ⟨rfl, hE9⟩ | ⟨rfl, hE9, hm9, h3, hI, h4⟩
        · skip
          refine lv_aload_n hx hb dX12_every_4 rfl (lv_at hl 0 rfl) ?_
          refine va_get (D := (dC, dI)) (ci := 14) (v := .int 1) (C := RX12) (T := TX12) (N := 23) hx hb hts kc_every3_0 hown hK hP 0 rfl rfl 7 (by decide) (hts (.fieldLink RX12 65 "MistHeapsModel" "isWrong" "Z") kc_every3_1) (fun _ h9 => h9) rfl dX12_every_5 ?_
          refine lv_if_ne (tgt := 43) hx hb dX12_every_8 (by decide) (fun _ => ?_) (fun c_41 => absurd c_41 (by decide))
          rw [hQ]
          have hP9 := hP.sub (ws' := [(zo14irriiiiiirriirrrrlriiii m0 th aS aI im (nI a) (nI p1) (nI E) 1 3 aB aT se dn aG aO aN aD bv aY rn kd nu tv), (zaI aS cS 901 f1)]) [0, 1] rfl
          have hD9 := hD.sub (ws' := [(zo14irriiiiiirriirrrrlriiii m0 th aS aI im (nI a) (nI p1) (nI E) 1 3 aB aT se dn aG aO aN aD bv aY rn kd nu tv), (zaI aS cS 901 f1)]) [0, 1] (by decide) rfl
          have hK9 := hK.sub (tys' := [(cS, .int)]) [0] rfl
          exact W.vret hx hb hr (fun tQ htQ hWQ => ⟨⟨(f1, (nI p1), 1), rfl, ⟨p1, rfl, by omega, by omega, hF, Or.inl ⟨rfl, hE9⟩⟩, by rw [htQ]; exact hP9, va_K.moved hWQ.alike hK9, hD9⟩, hS.F htQ⟩) hS.2.2 dX12_every_43
        · skip
          have k5 := hI.2.2.2.2.1
          have hq1 : (K ++ L1).length = K.length + L1.length := List.length_append
          refine lv_aload_n hx hb dX12_every_4 rfl (lv_at hl 0 rfl) ?_
          refine va_get (D := (dC, dI)) (ci := 14) (v := .int 0) (C := RX12) (T := TX12) (N := 23) hx hb hts kc_every3_0 hown hK hP 0 rfl rfl 7 (by decide) (hts (.fieldLink RX12 65 "MistHeapsModel" "isWrong" "Z") kc_every3_1) (fun _ h9 => h9) rfl dX12_every_5 ?_
          refine lv_if_ne (tgt := 43) hx hb dX12_every_8 (by decide) (fun c_42 => absurd c_42 (by decide)) (fun _ => ?_)
          refine lv_aload_n hx hb dX12_every_11 rfl (lv_at hl 0 rfl) ?_
          have hPc := hP.sub (ws' := [(zo14irriiiiiirriirrrrlriiii m0 th aS aI im (nI a) (nI p1) (nI E) 0 3 aB aT se dn aG aO aN aD bv aY rn kd nu tv), (zaI aS cS 901 f1)]) [0, 1] rfl
          have hKc := hK.sub (tys' := [(cS, .int)]) [0] rfl
          refine vp_callSi (va_runV (As := []) (rest := []) ⟨hx, hb, hml, hown, hts⟩ (c_here l dC dI m0 aS aI aB aT aG aO aN aD aY th im (nI a) (nI p1) (nI E) 0 3 se dn rn kd nu tv bv cS f1 a p1 E (by omega) (by omega) (by omega)) (cwV 0 hts gX12_every_X12_here rfl rfl rfl hd_yX12_here ⟨Nat.le_of_ble_eq_true rfl, Nat.le_of_ble_eq_true rfl⟩) ⟨fun a U g mk q => by obtain ⟨q0, qP, qK⟩ := q; exact ⟨q0, mvP g mk a qP, mvK g mk a qK⟩, va_recv hK hP (ci := 14) (q := (RX12, TX12, 23)) (q0 := 0) rfl rfl, fun U hU hW => ⟨rfl, by rw [hU]; exact hPc, va_K.moved hW.alike hKc⟩⟩ rfl rfl hl.1 rfl (lv_room (Nat.le_of_ble_eq_true rfl)) dX12_every_12 ⟨Nat.le_of_ble_eq_true rfl, Nat.le_of_ble_eq_true rfl⟩).run (fun r_43 hw_44 => ?_)
          refine lv_bipush (v := 38) hx hb dX12_every_15 (by decide) ?_
          refine lv_icmp_ne (tgt := 43) hx hb dX12_every_17 (by decide) (fun c_45 => ?_) (fun c_45 => ?_)
          · skip
            have hn9 : ¬ ss p1 = 38 := fun z => c_45 (by rw [hw_44]; exact ((TP_PF gT gE hF).eq (c := 38) (by omega) (by omega)).mpr z)
            rw [hQ]
            have hP9 := hP.sub (ws' := [(zo14irriiiiiirriirrrrlriiii m0 th aS aI im (nI a) (nI p1) (nI E) 0 3 aB aT se dn aG aO aN aD bv aY rn kd nu tv), (zaI aS cS 901 f1)]) [0, 1] rfl
            have hD9 := hD.sub (ws' := [(zo14irriiiiiirriirrrrlriiii m0 th aS aI im (nI a) (nI p1) (nI E) 0 3 aB aT se dn aG aO aN aD bv aY rn kd nu tv), (zaI aS cS 901 f1)]) [0, 1] (by decide) rfl
            have hK9 := hK.sub (tys' := [(cS, .int)]) [0] rfl
            exact W.vret hx hb hr (fun tQ htQ hWQ => ⟨⟨(f1, (nI p1), 0), rfl, ⟨p1, rfl, by omega, by omega, hF, Or.inr ⟨rfl, L1, hE9.trans (ps_end hn9), by omega, hI, by (try simp only [List.length_append, List.length_cons, List.length_nil]); omega⟩⟩, by rw [htQ]; exact hP9, va_K.moved hWQ.alike hK9, hD9⟩, hS.F htQ⟩) hS.2.2 dX12_every_43
          · skip
            have hs9 : ss p1 = 38 := ((TP_PF gT gE hF).eq (c := 38) (by omega) (by omega)).mp (by rw [← hw_44, c_45]; rfl)
            have hlt : p1 < E := Nat.lt_of_not_le (fun z => by have := gT.2.1 p1 z; omega)
            obtain ⟨m2, rfl⟩ : ∃ q : Nat, m1 = q + 1 := ⟨m1 - 1, by omega⟩
            refine lv_aload_n hx hb dX12_every_20 rfl (lv_at hl 0 rfl) ?_
            refine lv_dup hx hb dX12_every_21 rfl ?_
            refine va_get (D := (dC, dI)) (ci := 14) (v := .int (nI p1)) (C := RX12) (T := TX12) (N := 23) hx hb hts kc_every3_0 hown hK hP 0 rfl rfl 5 (by decide) (hts (.fieldLink RX12 59 "MistHeapsModel" "spot" "I") kc_every3_2) (fun _ h9 => h9) rfl dX12_every_22 ?_
            refine lv_iconst (v := 1) hx hb dX12_every_25 (by decide) ?_
            refine lv_iadd hx hb dX12_every_26 ?_
            refine qi_as (y := nI (p1 + 1)) (nI_add p1 1) ?_
            refine va_put (D := (dC, dI)) (ci := 14) (v := .int (nI (p1 + 1))) (ty := .int) (C := RX12) (T := TX12) (N := 23) hx hb hts kc_every3_0 tyX12 tyX12_ok nmX12 hown hK hP hD hS 0 rfl rfl 5 (by decide) (hts (.fieldLink RX12 59 "MistHeapsModel" "spot" "I") kc_every3_2) (fun _ h9 => h9) rfl (by decide +kernel) rfl rfl (Nat.le_of_ble_eq_true rfl) dX12_every_27 (fun H locs hP hD hS => ?_)
            have hP : va_P (dC, dI) vwCl [(zo14irriiiiiirriirrrrlriiii m0 th aS aI im (nI a) (nI (p1 + 1)) (nI E) 0 3 aB aT se dn aG aO aN aD bv aY rn kd nu tv), (zaI aS cS 901 f1)] H := hP
            have hD : va_D A [(zo14irriiiiiirriirrrrlriiii m0 th aS aI im (nI a) (nI (p1 + 1)) (nI E) 0 3 aB aT se dn aG aO aN aD bv aY rn kd nu tv), (zaI aS cS 901 f1)] := hD
            refine lv_aload_n hx hb dX12_every_30 rfl (lv_at hl 0 rfl) ?_
            have hPc := hP.sub (ws' := [(zo14irriiiiiirriirrrrlriiii m0 th aS aI im (nI a) (nI (p1 + 1)) (nI E) 0 3 aB aT se dn aG aO aN aD bv aY rn kd nu tv), (zaI aS cS 901 f1)]) [0, 1] rfl
            have hDc := hD.sub (ws' := [(zo14irriiiiiirriirrrrlriiii m0 th aS aI im (nI a) (nI (p1 + 1)) (nI E) 0 3 aB aT se dn aG aO aN aD bv aY rn kd nu tv), (zaI aS cS 901 f1)]) [0, 1] (by decide) rfl
            have hKc := hK.sub (tys' := [(cS, .int)]) [0] rfl
            have hFc := va_free (wc := [(zo14irriiiiiirriirrrrlriiii m0 th aS aI im (nI a) (nI (p1 + 1)) (nI E) 0 3 aB aT se dn aG aO aN aD bv aY rn kd nu tv), (zaI aS cS 901 f1)]) hD hS hA [0, 1] rfl
            refine va_callv (va_runV (As := []) (rest := []) ⟨hx, hb, hml, hown, hts⟩ (c_factor3 l dC dI sK sV m0 aS aI aB aT aG aO aN aD aY th im (nI a) (nI (p1 + 1)) (nI E) 0 3 se dn rn kd nu tv bv cS f1 a (p1 + 1) E (K ++ L1) (d + 1) ss H.size ((hI).mono (by omega) (by omega)) ((TP_PF gT gE (hF)))) (cwV 0 hts gX12_every_X12_factor rfl rfl rfl hd_yX12_factor ⟨Nat.le_of_ble_eq_true rfl, Nat.le_of_ble_eq_true rfl⟩) ⟨fun a U g mk q => by obtain ⟨q0, q1, qP, qK, qD, qhE⟩ := q; exact ⟨q0, mvz g mk a q1, mvP g mk a qP, mvK g mk a qK, qD, qhE.mv g mk a⟩, va_recv hK hP (ci := 14) (q := (RX12, TX12, 23)) (q0 := 0) rfl rfl, fun U hU hW => ⟨rfl, by rw [hU], by rw [hU]; exact hPc, va_K.moved hW.alike hKc, hDc.weaken (fun _ _ _ _ => trivial), hE.call hS hU hW (fun q h => hFc q h)⟩⟩ rfl rfl hl.1 rfl (lv_room (Nat.le_of_ble_eq_true rfl)) dX12_every_31 ⟨Nat.le_of_ble_eq_true rfl, Nat.le_of_ble_eq_true rfl⟩) hS (fun q _ h => hFc q h) hFc (fun u tC H1 locs htC hvm hw_47 hB hz1 hk1 hS => ?_)
            obtain ⟨fS9_48, sp9_49, wg9_50⟩ := u
            try dsimp only at hw_47 hB
            obtain ⟨hP1, hK1, hD1⟩ := hB
            rw [htC] at hP1
            have hK1 := va_K.moved hvm.symm hK1
            obtain ⟨hP, hD⟩ := va_join (wr := []) (w1 := [(zo14irriiiiiirriirrrrlriiii m0 th aS aI im (nI a) sp9_49 (nI E) wg9_50 3 aB aT se dn aG aO aN aD bv aY rn kd nu tv), (zaI aS cS 901 fS9_48)]) hP hD [0, 1] [] rfl rfl (by decide) (by decide) hk1 hFc hP1 hD1
            have hK := (hK.sub (tys' := []) [] rfl).app hK1
            generalize H1 = H at hP hS ⊢
            have hP : va_P (dC, dI) vwCl [(zo14irriiiiiirriirrrrlriiii m0 th aS aI im (nI a) sp9_49 (nI E) wg9_50 3 aB aT se dn aG aO aN aD bv aY rn kd nu tv), (zaI aS cS 901 fS9_48)] H := hP
            have hD : va_D A [(zo14irriiiiiirriirrrrlriiii m0 th aS aI im (nI a) sp9_49 (nI E) wg9_50 3 aB aT se dn aG aO aN aD bv aY rn kd nu tv), (zaI aS cS 901 fS9_48)] := hD
            have hK : va_K (dC, dI) vwCl [(cS, .int)] s := hK
            obtain ⟨p_51, rfl, h_54, h_55, hF_56, q9⟩ := hw_47
            rcases q9 with ⟨rfl, eP_53⟩ | ⟨rfl, L_52, eP_53, h_57, hI_58, h_59⟩
            · skip
              refine lv_aload_n hx hb dX12_every_34 rfl (lv_at hl 0 rfl) ?_
              refine lv_bipush (v := (-2)) hx hb dX12_every_35 (by decide) ?_
              have hPc := hP.sub (ws' := [(zo14irriiiiiirriirrrrlriiii m0 th aS aI im (nI a) (nI p_51) (nI E) 1 3 aB aT se dn aG aO aN aD bv aY rn kd nu tv)]) [0] rfl
              have hKc := hK.sub (tys' := []) [] rfl
              refine va_csv (va_runV (As := [.int (-2)]) (rest := []) ⟨hx, hb, hml, hown, hts⟩ (c_emitsW l dC dI m0 aS aI aB aT aG aO aN aD aY th im (nI a) (nI p_51) (nI E) 1 3 se dn rn kd nu tv bv (-2)) (cwV 1 hts gX12_every_X12_emits rfl rfl rfl hd_yX12_emits ⟨Nat.le_of_ble_eq_true rfl, Nat.le_of_ble_eq_true rfl⟩) ⟨fun a U g mk q => by obtain ⟨q0, qP, qK⟩ := q; exact ⟨q0, mvP g mk a qP, mvK g mk a qK⟩, va_recv hK hP (ci := 14) (q := (RX12, TX12, 23)) (q0 := 0) rfl rfl, fun U hU hW => ⟨rfl, by rw [hU]; exact hPc, va_K.moved hW.alike hKc⟩⟩ rfl rfl hl.1 rfl (lv_room (Nat.le_of_ble_eq_true rfl)) dX12_every_37 ⟨Nat.le_of_ble_eq_true rfl, Nat.le_of_ble_eq_true rfl⟩).run (fun hw_61 => ?_)
              refine lv_goto (tgt := 4) hx hb dX12_every_40 (by decide) ?_
              exact ih4 (p_51) ([]) (0) (1) (fS9_48) (by omega) (by omega) ((hF).tr hF_56) (Or.inl ⟨rfl, hE9.trans (ps_bad hs9 eP_53)⟩) _ _ (hK.sub [0] rfl) (hP.sub [0, 1] rfl) (hD.sub [0, 1] (by decide) rfl) hS ls (lv_sub hl [0] rfl)
            · skip
              have k5 := hI_58.2.2.2.2.1
              have hqL_52 : ((K ++ L1) ++ L_52).length = (K ++ L1).length + L_52.length := List.length_append
              refine lv_aload_n hx hb dX12_every_34 rfl (lv_at hl 0 rfl) ?_
              refine lv_bipush (v := (-2)) hx hb dX12_every_35 (by decide) ?_
              have hPc := hP.sub (ws' := [(zo14irriiiiiirriirrrrlriiii m0 th aS aI im (nI a) (nI p_51) (nI E) 0 3 aB aT se dn aG aO aN aD bv aY rn kd nu tv), (zaI aS cS 901 fS9_48)]) [0, 1] rfl
              have hDc := hD.sub (ws' := [(zo14irriiiiiirriirrrrlriiii m0 th aS aI im (nI a) (nI p_51) (nI E) 0 3 aB aT se dn aG aO aN aD bv aY rn kd nu tv), (zaI aS cS 901 fS9_48)]) [0, 1] (by decide) rfl
              have hKc := hK.sub (tys' := [(cS, .int)]) [0] rfl
              have hFc := va_free (wc := [(zo14irriiiiiirriirrrrlriiii m0 th aS aI im (nI a) (nI p_51) (nI E) 0 3 aB aT se dn aG aO aN aD bv aY rn kd nu tv), (zaI aS cS 901 fS9_48)]) hD hS hA [0, 1] rfl
              refine va_callv (va_runV (As := [.int (-2)]) (rest := []) ⟨hx, hb, hml, hown, hts⟩ (c_emits l dC dI m0 aS aI aB aT aG aO aN aD aY th im (nI a) (nI p_51) (nI E) 0 3 se dn rn kd nu tv bv cS fS9_48 a ((K ++ L1) ++ L_52).length (-2) H.size (ga) ((hI_58).2.2.2.1) (by have := (hI_58).2.2.2.2.1; omega)) (cwV 1 hts gX12_every_X12_emits rfl rfl rfl hd_yX12_emits ⟨Nat.le_of_ble_eq_true rfl, Nat.le_of_ble_eq_true rfl⟩) ⟨fun a U g mk q => by obtain ⟨q0, q1, qP, qK, qD⟩ := q; exact ⟨q0, mvz g mk a q1, mvP g mk a qP, mvK g mk a qK, qD⟩, va_recv hK hP (ci := 14) (q := (RX12, TX12, 23)) (q0 := 0) rfl rfl, fun U hU hW => ⟨rfl, by rw [hU], by rw [hU]; exact hPc, va_K.moved hW.alike hKc, hDc.weaken (fun _ _ _ _ => trivial)⟩⟩ rfl rfl hl.1 rfl (lv_room (Nat.le_of_ble_eq_true rfl)) dX12_every_37 ⟨Nat.le_of_ble_eq_true rfl, Nat.le_of_ble_eq_true rfl⟩) hS (fun q _ h => hFc q h) hFc (fun u tC H1 locs htC hvm hw_63 hB hz1 hk1 hS => ?_)
              obtain ⟨fS9_64, rfl⟩ : ∃ z, z = u := ⟨_, rfl⟩
              try dsimp only at hw_63 hB
              obtain ⟨hP1, hK1, hD1⟩ := hB
              rw [htC] at hP1
              have hK1 := va_K.moved hvm.symm hK1
              obtain ⟨hP, hD⟩ := va_join (wr := []) (w1 := [(zo14irriiiiiirriirrrrlriiii m0 th aS aI im (nI a) (nI p_51) (nI E) 0 3 aB aT se dn aG aO aN aD bv aY rn kd nu tv), (zaI aS cS 901 fS9_64)]) hP hD [0, 1] [] rfl rfl (by decide) (by decide) hk1 hFc hP1 hD1
              have hK := (hK.sub (tys' := []) [] rfl).app hK1
              generalize H1 = H at hP hS ⊢
              have hP : va_P (dC, dI) vwCl [(zo14irriiiiiirriirrrrlriiii m0 th aS aI im (nI a) (nI p_51) (nI E) 0 3 aB aT se dn aG aO aN aD bv aY rn kd nu tv), (zaI aS cS 901 fS9_64)] H := hP
              have hD : va_D A [(zo14irriiiiiirriirrrrlriiii m0 th aS aI im (nI a) (nI p_51) (nI E) 0 3 aB aT se dn aG aO aN aD bv aY rn kd nu tv), (zaI aS cS 901 fS9_64)] := hD
              have hK : va_K (dC, dI) vwCl [(cS, .int)] s := hK
              obtain rfl : fS9_64 = emt fS9_48 a ((K ++ L1) ++ L_52).length (-2) := by rcases hw_63 with ⟨q, _⟩ | ⟨_, q⟩; exact absurd rfl q; exact q
              have hI_65 : PI (emt fS9_48 a ((K ++ L1) ++ L_52).length (-2)) a (((K ++ L1) ++ L_52) ++ [1802]) (((d + 1) + 1) - 1) p_51 E := PI.em (t := 1802) ((hI_58).mono (by omega) (by omega)) (by omega) (by omega) (stepd_both (by omega)) (by decide)
              have hF_66 : PF a fS (emt fS9_48 a ((K ++ L1) ++ L_52).length (-2)) := ((hF).tr hF_56).tr (PF_emt (k := ((K ++ L1) ++ L_52).length) (x := (-2)) ga (by have := (hI_58).2.2.2.2.1; omega))
              have hKhI_65 : (((K ++ L1) ++ L_52) ++ [1802]).length = ((K ++ L1) ++ L_52).length + 1 := by rw [List.length_append]; rfl
              refine lv_goto (tgt := 4) hx hb dX12_every_40 (by decide) ?_
              exact ih4 (p_51) (L1 ++ (L_52 ++ [1802])) (m2) (0) (emt fS9_48 a ((K ++ L1) ++ L_52).length (-2)) (by omega) (by omega) (hF_66) (Or.inr ⟨rfl, hE9.trans (ps_go hs9 eP_53), by omega, by omega, PI.as (PI.as hI_65), by simp only [List.length_append, List.length_cons, List.length_nil]; omega⟩) _ _ (hK.sub [0] rfl) (hP.sub [0, 1] rfl) (hD.sub [0, 1] (by decide) rfl) hS ls (lv_sub hl [0] rfl)
    exact L4 _ (p_6) (L_7) (101) (0) (fS9_3) (Nat.lt_succ_self _) (by omega) ((PF.rf).tr hF_11) (Or.inr ⟨rfl, pEv_s eP_8, by omega, by omega, hI_13, by omega⟩) _ _ (hK.sub [0] rfl) (hP.sub [0, 1] rfl) (hD.sub [0, 1] (by decide) rfl) hS ls (lv_sub hl [0] rfl)

theorem kc_some3_0 : ∀ w ∈ wsX120, w ∈ wsX12_some := fun w h => List.mem_cons_of_mem _ (gin_wsX120 w h)
theorem kc_some3_1 : (.fieldLink RX12 65 "MistHeapsModel" "isWrong" "Z" : Cond) ∈ wsX12_some := kc_of 1147 rfl rfl rfl
theorem kc_some3_2 : (.fieldLink RX12 59 "MistHeapsModel" "spot" "I" : Cond) ∈ wsX12_some := kc_of 1145 rfl rfl rfl
set_option maxHeartbeats 4000000 in
set_option maxRecDepth 100000 in
theorem c_some3 (l : Launch) (dC : Nat → ClassId) (dI : Nat → Nat → Nat) (sK sV : Nat → Nat) (m0 aS aI aB aT aG aO aN aD aY : Nat) (th im ac sp en wg op se dn rn kd nu tv : Int32) (bv : Int64) (cS : ClassId) (fS : Nat → Int32) (a p0 E : Nat) (K : List Nat) (d : Nat) (ss : Nat → Nat) (sz : Nat) (gI : PI fS a K d p0 E) (gT : TP fS E ss) : Met l yX12_some wsX12_some ({ frames := 13, cells := 0, slots := 0, locals := 279 } : Room) (va_Pc [.ref m0] (fun U => U.heap.size = sz ∧ va_P (dC, dI) vwCl [(zo14irriiiiiirriirrrrlriiii m0 th aS aI im (nI a) (nI p0) (nI E) 0 3 aB aT se dn aG aO aN aD bv aY rn kd nu tv), (zaI aS cS 901 fS)] U.heap ∧ va_K (dC, dI) vwCl [(cS, .int)] U ∧ va_D (fun _ => True) [(zo14irriiiiiirriirrrrlriiii m0 th aS aI im (nI a) (nI p0) (nI E) 0 3 aB aT se dn aG aO aN aD bv aY rn kd nu tv), (zaI aS cS 901 fS)] ∧ Gs sK sV (va_A [(zo14irriiiiiirriirrrrlriiii m0 th aS aI im (nI a) (nI p0) (nI E) 0 3 aB aT se dn aG aO aN aD bv aY rn kd nu tv), (zaI aS cS 901 fS)] sz) U)) (va_Qv (fun (u : (Nat → Int32) × (Int32) × (Int32)) => match u with | (fS9, sp9, wg9) => ∃ p9 : Nat, sp9 = nI p9 ∧ p0 ≤ p9 ∧ p9 ≤ E ∧ PF a fS fS9 ∧ ((wg9 = 1 ∧ pSm ss (pFac ss 2) p0 = (none, p9)) ∨ (wg9 = 0 ∧ ∃ L : List Nat, pSm ss (pFac ss 2) p0 = (some L, p9) ∧ p0 + 3 ≤ p9 ∧ PI fS9 a (K ++ L) (d + 1) p9 E ∧ L.length + p0 ≤ p9))) (fun (u : (Nat → Int32) × (Int32) × (Int32)) (t : State) => match u with | (fS9, sp9, wg9) => va_P (dC, dI) vwCl [(zo14irriiiiiirriirrrrlriiii m0 th aS aI im (nI a) sp9 (nI E) wg9 3 aB aT se dn aG aO aN aD bv aY rn kd nu tv), (zaI aS cS 901 fS9)] t.heap ∧ va_K (dC, dI) vwCl [(cS, .int)] t ∧ va_D (va_A [(zo14irriiiiiirriirrrrlriiii m0 th aS aI im (nI a) (nI p0) (nI E) 0 3 aB aT se dn aG aO aN aD bv aY rn kd nu tv), (zaI aS cS 901 fS)] sz) [(zo14irriiiiiirriirrrrlriiii m0 th aS aI im (nI a) sp9 (nI E) wg9 3 aB aT se dn aG aO aN aD bv aY rn kd nu tv), (zaI aS cS 901 fS9)]) (va_A [(zo14irriiiiiirriirrrrlriiii m0 th aS aI im (nI a) (nI p0) (nI E) 0 3 aB aT se dn aG aO aN aD bv aY rn kd nu tv), (zaI aS cS 901 fS)] sz)) 0 0 (va_A [(zo14irriiiiiirriirrrrlriiii m0 th aS aI im (nI a) (nI p0) (nI E) 0 3 aB aT se dn aG aO aN aD bv aY rn kd nu tv), (zaI aS cS 901 fS)] sz) := by
  refine met_ofQ (cc := cX12_some) (maxL := 1) (ret := none) (by decide) rfl ?_
  intro p e s m args below meth c s₁ Q B hml hv hQ
  obtain ⟨rfl, hsz, hP, hK, hD0, hE⟩ := hv
  have hx := B.exec
  have hb := B.bytes
  have hr := B.returns
  have hts := atoms_spec (ws := wsX12_some) B.pre
  have hown : s.vm.findClass RX12 = some m.cls := findClass_of_methodNamed B.named
  have hlocks := B.notSynchronized
  subst hsz
  have hD := hD0.self (sz := s.heap.size)
  generalize hAe : va_A [(zo14irriiiiiirriirrrrlriiii m0 th aS aI im (nI a) (nI p0) (nI E) 0 3 aB aT se dn aG aO aN aD bv aY rn kd nu tv), (zaI aS cS 901 fS)] s.heap.size = A at hD hQ hE ⊢
  have hA : ∀ q : Nat, s.heap.size ≤ q → A q := fun q h => by rw [← hAe]; exact Or.inr h
  have hS : va_S A s.heap s.heap [] := va_S.rf
  have hl := lv_entry [.ref m0] (n := 1) (Nat.le_of_ble_eq_true rfl)
  rw [lg_entry_eq]
  generalize (lg_sl [.ref m0] ++ List.replicate (1 - (lg_sl [.ref m0]).length) Slot.unset).toArray = ls at hl ⊢
  generalize hag : ([.ref m0] : List Value).toArray = args at hts hQ ⊢
  have hl : lv_has ls 1 [(0, .ref m0)] := hl
  obtain ⟨H, hH⟩ : ∃ H : Heap, H = s.heap := ⟨_, rfl⟩
  rw [← hH] at hP
  rw [← hH]
  have hS : va_S A s.heap H [] := by rw [hH]; exact hS
  obtain ⟨locs, hlo⟩ : ∃ L : List Loc, L = [] := ⟨_, rfl⟩
  rw [← hlo] at hS
  rw [← hlo]
  clear hH hlo
  obtain ⟨ga, gp, gE, zk, gkp, gd, gs, gcd⟩ := id gI
  refine lv_aload_n hx hb dX12_some_0 rfl (lv_at hl 0 rfl) ?_
  have hPc := hP.sub (ws' := [(zo14irriiiiiirriirrrrlriiii m0 th aS aI im (nI a) (nI p0) (nI E) 0 3 aB aT se dn aG aO aN aD bv aY rn kd nu tv), (zaI aS cS 901 fS)]) [0, 1] rfl
  have hDc := hD.sub (ws' := [(zo14irriiiiiirriirrrrlriiii m0 th aS aI im (nI a) (nI p0) (nI E) 0 3 aB aT se dn aG aO aN aD bv aY rn kd nu tv), (zaI aS cS 901 fS)]) [0, 1] (by decide) rfl
  have hKc := hK.sub (tys' := [(cS, .int)]) [0] rfl
  have hFc := va_free (wc := [(zo14irriiiiiirriirrrrlriiii m0 th aS aI im (nI a) (nI p0) (nI E) 0 3 aB aT se dn aG aO aN aD bv aY rn kd nu tv), (zaI aS cS 901 fS)]) hD hS hA [0, 1] rfl
  refine va_callv (va_runV (As := []) (rest := []) ⟨hx, hb, hml, hown, hts⟩ (c_every3 l dC dI sK sV m0 aS aI aB aT aG aO aN aD aY th im (nI a) (nI p0) (nI E) 0 3 se dn rn kd nu tv bv cS fS a p0 E K d ss H.size ((gI).mono (by omega) (by omega)) (gT)) (cwV 0 hts gX12_some_X12_every rfl rfl rfl hd_yX12_every ⟨Nat.le_of_ble_eq_true rfl, Nat.le_of_ble_eq_true rfl⟩) ⟨fun a U g mk q => by obtain ⟨q0, q1, qP, qK, qD, qhE⟩ := q; exact ⟨q0, mvz g mk a q1, mvP g mk a qP, mvK g mk a qK, qD, qhE.mv g mk a⟩, va_recv hK hP (ci := 14) (q := (RX12, TX12, 23)) (q0 := 0) rfl rfl, fun U hU hW => ⟨rfl, by rw [hU], by rw [hU]; exact hPc, va_K.moved hW.alike hKc, hDc.weaken (fun _ _ _ _ => trivial), hE.call hS hU hW (fun q h => hFc q h)⟩⟩ rfl rfl hl.1 rfl (lv_room (Nat.le_of_ble_eq_true rfl)) dX12_some_1 ⟨Nat.le_of_ble_eq_true rfl, Nat.le_of_ble_eq_true rfl⟩) hS (fun q _ h => hFc q h) hFc (fun u tC H1 locs htC hvm hw_2 hB hz1 hk1 hS => ?_)
  obtain ⟨fS9_3, sp9_4, wg9_5⟩ := u
  try dsimp only at hw_2 hB
  obtain ⟨hP1, hK1, hD1⟩ := hB
  rw [htC] at hP1
  have hK1 := va_K.moved hvm.symm hK1
  obtain ⟨hP, hD⟩ := va_join (wr := []) (w1 := [(zo14irriiiiiirriirrrrlriiii m0 th aS aI im (nI a) sp9_4 (nI E) wg9_5 3 aB aT se dn aG aO aN aD bv aY rn kd nu tv), (zaI aS cS 901 fS9_3)]) hP hD [0, 1] [] rfl rfl (by decide) (by decide) hk1 hFc hP1 hD1
  have hK := (hK.sub (tys' := []) [] rfl).app hK1
  generalize H1 = H at hP hS ⊢
  have hP : va_P (dC, dI) vwCl [(zo14irriiiiiirriirrrrlriiii m0 th aS aI im (nI a) sp9_4 (nI E) wg9_5 3 aB aT se dn aG aO aN aD bv aY rn kd nu tv), (zaI aS cS 901 fS9_3)] H := hP
  have hD : va_D A [(zo14irriiiiiirriirrrrlriiii m0 th aS aI im (nI a) sp9_4 (nI E) wg9_5 3 aB aT se dn aG aO aN aD bv aY rn kd nu tv), (zaI aS cS 901 fS9_3)] := hD
  have hK : va_K (dC, dI) vwCl [(cS, .int)] s := hK
  obtain ⟨p_6, rfl, h_9, h_10, hF_11, q9⟩ := hw_2
  rcases q9 with ⟨rfl, eP_8⟩ | ⟨rfl, L_7, eP_8, h_12, hI_13, h_14⟩
  · skip
    have L4 : ∀ (nF : Nat) (p1 : Nat) (L1 : List Nat) (m1 : Nat) (w1 : Int32) (f1 : Nat → Int32), E - p1 < nF → (p0 ≤ p1 ∧ p1 ≤ E) → (PF a fS f1) → ((w1 = 1 ∧ pSm ss (pFac ss 2) p0 = (none, p1)) ∨ (w1 = 0 ∧ pSm ss (pFac ss 2) p0 = pSep ss 124 1803 (pEv ss (pFac ss 2)) m1 (some L1, p1) ∧ 101 ≤ m1 + p1 ∧ p0 + 3 ≤ p1 ∧ PI f1 a (K ++ L1) (d + 1) p1 E ∧ L1.length + p0 ≤ p1)) → ∀ (H : Heap) (locs : List Loc), va_K (dC, dI) vwCl [(cS, .int)] s → va_P (dC, dI) vwCl [(zo14irriiiiiirriirrrrlriiii m0 th aS aI im (nI a) (nI p1) (nI E) w1 3 aB aT se dn aG aO aN aD bv aY rn kd nu tv), (zaI aS cS 901 f1)] H → va_D A [(zo14irriiiiiirriirrrrlriiii m0 th aS aI im (nI a) (nI p1) (nI E) w1 3 aB aT se dn aG aO aN aD bv aY rn kd nu tv), (zaI aS cS 901 f1)] → va_S A s.heap H locs → ∀ (ls : Array Slot), lv_has ls 1 [(0, .ref m0)] → W p l e ({ frames := 13, cells := 0, slots := 0, locals := 279 } : Room) s m args below meth c H locs 0 0 Q (F0 m 4 ls []) := by
      intro nF
      induction nF with
      | zero => intro p1 L1 m1 w1 f1 hm; exact absurd hm (Nat.not_lt_zero _)
      | succ nF ih4 =>
        intro p1 L1 m1 w1 f1 hm h1 hF hw1 H locs hK hP hD hS ls hl
        obtain ⟨h1a, h1b⟩ := h1
        rcases hw1 with ⟨rfl, hE9⟩ | ⟨rfl, hE9, hm9, h3, hI, h4⟩
        · skip
          refine lv_aload_n hx hb dX12_some_4 rfl (lv_at hl 0 rfl) ?_
          refine va_get (D := (dC, dI)) (ci := 14) (v := .int 1) (C := RX12) (T := TX12) (N := 23) hx hb hts kc_some3_0 hown hK hP 0 rfl rfl 7 (by decide) (hts (.fieldLink RX12 65 "MistHeapsModel" "isWrong" "Z") kc_some3_1) (fun _ h9 => h9) rfl dX12_some_5 ?_
          refine lv_if_ne (tgt := 43) hx hb dX12_some_8 (by decide) (fun _ => ?_) (fun c_15 => absurd c_15 (by decide))
          rw [hQ]
          have hP9 := hP.sub (ws' := [(zo14irriiiiiirriirrrrlriiii m0 th aS aI im (nI a) (nI p1) (nI E) 1 3 aB aT se dn aG aO aN aD bv aY rn kd nu tv), (zaI aS cS 901 f1)]) [0, 1] rfl
          have hD9 := hD.sub (ws' := [(zo14irriiiiiirriirrrrlriiii m0 th aS aI im (nI a) (nI p1) (nI E) 1 3 aB aT se dn aG aO aN aD bv aY rn kd nu tv), (zaI aS cS 901 f1)]) [0, 1] (by decide) rfl
          have hK9 := hK.sub (tys' := [(cS, .int)]) [0] rfl
          exact W.vret hx hb hr (fun tQ htQ hWQ => ⟨⟨(f1, (nI p1), 1), rfl, ⟨p1, rfl, by omega, by omega, hF, Or.inl ⟨rfl, hE9⟩⟩, by rw [htQ]; exact hP9, va_K.moved hWQ.alike hK9, hD9⟩, hS.F htQ⟩) hS.2.2 dX12_some_43
        · skip
          have k5 := hI.2.2.2.2.1
          have hq1 : (K ++ L1).length = K.length + L1.length := List.length_append
          refine lv_aload_n hx hb dX12_some_4 rfl (lv_at hl 0 rfl) ?_
          refine va_get (D := (dC, dI)) (ci := 14) (v := .int 0) (C := RX12) (T := TX12) (N := 23) hx hb hts kc_some3_0 hown hK hP 0 rfl rfl 7 (by decide) (hts (.fieldLink RX12 65 "MistHeapsModel" "isWrong" "Z") kc_some3_1) (fun _ h9 => h9) rfl dX12_some_5 ?_
          refine lv_if_ne (tgt := 43) hx hb dX12_some_8 (by decide) (fun c_16 => absurd c_16 (by decide)) (fun _ => ?_)
          refine lv_aload_n hx hb dX12_some_11 rfl (lv_at hl 0 rfl) ?_
          have hPc := hP.sub (ws' := [(zo14irriiiiiirriirrrrlriiii m0 th aS aI im (nI a) (nI p1) (nI E) 0 3 aB aT se dn aG aO aN aD bv aY rn kd nu tv), (zaI aS cS 901 f1)]) [0, 1] rfl
          have hKc := hK.sub (tys' := [(cS, .int)]) [0] rfl
          refine vp_callSi (va_runV (As := []) (rest := []) ⟨hx, hb, hml, hown, hts⟩ (c_here l dC dI m0 aS aI aB aT aG aO aN aD aY th im (nI a) (nI p1) (nI E) 0 3 se dn rn kd nu tv bv cS f1 a p1 E (by omega) (by omega) (by omega)) (cwV 0 hts gX12_some_X12_here rfl rfl rfl hd_yX12_here ⟨Nat.le_of_ble_eq_true rfl, Nat.le_of_ble_eq_true rfl⟩) ⟨fun a U g mk q => by obtain ⟨q0, qP, qK⟩ := q; exact ⟨q0, mvP g mk a qP, mvK g mk a qK⟩, va_recv hK hP (ci := 14) (q := (RX12, TX12, 23)) (q0 := 0) rfl rfl, fun U hU hW => ⟨rfl, by rw [hU]; exact hPc, va_K.moved hW.alike hKc⟩⟩ rfl rfl hl.1 rfl (lv_room (Nat.le_of_ble_eq_true rfl)) dX12_some_12 ⟨Nat.le_of_ble_eq_true rfl, Nat.le_of_ble_eq_true rfl⟩).run (fun r_17 hw_18 => ?_)
          refine lv_bipush (v := 124) hx hb dX12_some_15 (by decide) ?_
          refine lv_icmp_ne (tgt := 43) hx hb dX12_some_17 (by decide) (fun c_19 => ?_) (fun c_19 => ?_)
          · skip
            have hn9 : ¬ ss p1 = 124 := fun z => c_19 (by rw [hw_18]; exact ((TP_PF gT gE hF).eq (c := 124) (by omega) (by omega)).mpr z)
            rw [hQ]
            have hP9 := hP.sub (ws' := [(zo14irriiiiiirriirrrrlriiii m0 th aS aI im (nI a) (nI p1) (nI E) 0 3 aB aT se dn aG aO aN aD bv aY rn kd nu tv), (zaI aS cS 901 f1)]) [0, 1] rfl
            have hD9 := hD.sub (ws' := [(zo14irriiiiiirriirrrrlriiii m0 th aS aI im (nI a) (nI p1) (nI E) 0 3 aB aT se dn aG aO aN aD bv aY rn kd nu tv), (zaI aS cS 901 f1)]) [0, 1] (by decide) rfl
            have hK9 := hK.sub (tys' := [(cS, .int)]) [0] rfl
            exact W.vret hx hb hr (fun tQ htQ hWQ => ⟨⟨(f1, (nI p1), 0), rfl, ⟨p1, rfl, by omega, by omega, hF, Or.inr ⟨rfl, L1, hE9.trans (ps_end hn9), by omega, hI, by (try simp only [List.length_append, List.length_cons, List.length_nil]); omega⟩⟩, by rw [htQ]; exact hP9, va_K.moved hWQ.alike hK9, hD9⟩, hS.F htQ⟩) hS.2.2 dX12_some_43
          · skip
            have hs9 : ss p1 = 124 := ((TP_PF gT gE hF).eq (c := 124) (by omega) (by omega)).mp (by rw [← hw_18, c_19]; rfl)
            have hlt : p1 < E := Nat.lt_of_not_le (fun z => by have := gT.2.1 p1 z; omega)
            obtain ⟨m2, rfl⟩ : ∃ q : Nat, m1 = q + 1 := ⟨m1 - 1, by omega⟩
            refine lv_aload_n hx hb dX12_some_20 rfl (lv_at hl 0 rfl) ?_
            refine lv_dup hx hb dX12_some_21 rfl ?_
            refine va_get (D := (dC, dI)) (ci := 14) (v := .int (nI p1)) (C := RX12) (T := TX12) (N := 23) hx hb hts kc_some3_0 hown hK hP 0 rfl rfl 5 (by decide) (hts (.fieldLink RX12 59 "MistHeapsModel" "spot" "I") kc_some3_2) (fun _ h9 => h9) rfl dX12_some_22 ?_
            refine lv_iconst (v := 1) hx hb dX12_some_25 (by decide) ?_
            refine lv_iadd hx hb dX12_some_26 ?_
            refine qi_as (y := nI (p1 + 1)) (nI_add p1 1) ?_
            refine va_put (D := (dC, dI)) (ci := 14) (v := .int (nI (p1 + 1))) (ty := .int) (C := RX12) (T := TX12) (N := 23) hx hb hts kc_some3_0 tyX12 tyX12_ok nmX12 hown hK hP hD hS 0 rfl rfl 5 (by decide) (hts (.fieldLink RX12 59 "MistHeapsModel" "spot" "I") kc_some3_2) (fun _ h9 => h9) rfl (by decide +kernel) rfl rfl (Nat.le_of_ble_eq_true rfl) dX12_some_27 (fun H locs hP hD hS => ?_)
            have hP : va_P (dC, dI) vwCl [(zo14irriiiiiirriirrrrlriiii m0 th aS aI im (nI a) (nI (p1 + 1)) (nI E) 0 3 aB aT se dn aG aO aN aD bv aY rn kd nu tv), (zaI aS cS 901 f1)] H := hP
            have hD : va_D A [(zo14irriiiiiirriirrrrlriiii m0 th aS aI im (nI a) (nI (p1 + 1)) (nI E) 0 3 aB aT se dn aG aO aN aD bv aY rn kd nu tv), (zaI aS cS 901 f1)] := hD
            refine lv_aload_n hx hb dX12_some_30 rfl (lv_at hl 0 rfl) ?_
            have hPc := hP.sub (ws' := [(zo14irriiiiiirriirrrrlriiii m0 th aS aI im (nI a) (nI (p1 + 1)) (nI E) 0 3 aB aT se dn aG aO aN aD bv aY rn kd nu tv), (zaI aS cS 901 f1)]) [0, 1] rfl
            have hDc := hD.sub (ws' := [(zo14irriiiiiirriirrrrlriiii m0 th aS aI im (nI a) (nI (p1 + 1)) (nI E) 0 3 aB aT se dn aG aO aN aD bv aY rn kd nu tv), (zaI aS cS 901 f1)]) [0, 1] (by decide) rfl
            have hKc := hK.sub (tys' := [(cS, .int)]) [0] rfl
            have hFc := va_free (wc := [(zo14irriiiiiirriirrrrlriiii m0 th aS aI im (nI a) (nI (p1 + 1)) (nI E) 0 3 aB aT se dn aG aO aN aD bv aY rn kd nu tv), (zaI aS cS 901 f1)]) hD hS hA [0, 1] rfl
            refine va_callv (va_runV (As := []) (rest := []) ⟨hx, hb, hml, hown, hts⟩ (c_every3 l dC dI sK sV m0 aS aI aB aT aG aO aN aD aY th im (nI a) (nI (p1 + 1)) (nI E) 0 3 se dn rn kd nu tv bv cS f1 a (p1 + 1) E (K ++ L1) (d + 1) ss H.size ((hI).mono (by omega) (by omega)) ((TP_PF gT gE (hF)))) (cwV 0 hts gX12_some_X12_every rfl rfl rfl hd_yX12_every ⟨Nat.le_of_ble_eq_true rfl, Nat.le_of_ble_eq_true rfl⟩) ⟨fun a U g mk q => by obtain ⟨q0, q1, qP, qK, qD, qhE⟩ := q; exact ⟨q0, mvz g mk a q1, mvP g mk a qP, mvK g mk a qK, qD, qhE.mv g mk a⟩, va_recv hK hP (ci := 14) (q := (RX12, TX12, 23)) (q0 := 0) rfl rfl, fun U hU hW => ⟨rfl, by rw [hU], by rw [hU]; exact hPc, va_K.moved hW.alike hKc, hDc.weaken (fun _ _ _ _ => trivial), hE.call hS hU hW (fun q h => hFc q h)⟩⟩ rfl rfl hl.1 rfl (lv_room (Nat.le_of_ble_eq_true rfl)) dX12_some_31 ⟨Nat.le_of_ble_eq_true rfl, Nat.le_of_ble_eq_true rfl⟩) hS (fun q _ h => hFc q h) hFc (fun u tC H1 locs htC hvm hw_21 hB hz1 hk1 hS => ?_)
            obtain ⟨fS9_22, sp9_23, wg9_24⟩ := u
            try dsimp only at hw_21 hB
            obtain ⟨hP1, hK1, hD1⟩ := hB
            rw [htC] at hP1
            have hK1 := va_K.moved hvm.symm hK1
            obtain ⟨hP, hD⟩ := va_join (wr := []) (w1 := [(zo14irriiiiiirriirrrrlriiii m0 th aS aI im (nI a) sp9_23 (nI E) wg9_24 3 aB aT se dn aG aO aN aD bv aY rn kd nu tv), (zaI aS cS 901 fS9_22)]) hP hD [0, 1] [] rfl rfl (by decide) (by decide) hk1 hFc hP1 hD1
            have hK := (hK.sub (tys' := []) [] rfl).app hK1
            generalize H1 = H at hP hS ⊢
            have hP : va_P (dC, dI) vwCl [(zo14irriiiiiirriirrrrlriiii m0 th aS aI im (nI a) sp9_23 (nI E) wg9_24 3 aB aT se dn aG aO aN aD bv aY rn kd nu tv), (zaI aS cS 901 fS9_22)] H := hP
            have hD : va_D A [(zo14irriiiiiirriirrrrlriiii m0 th aS aI im (nI a) sp9_23 (nI E) wg9_24 3 aB aT se dn aG aO aN aD bv aY rn kd nu tv), (zaI aS cS 901 fS9_22)] := hD
            have hK : va_K (dC, dI) vwCl [(cS, .int)] s := hK
            obtain ⟨p_25, rfl, h_28, h_29, hF_30, q9⟩ := hw_21
            rcases q9 with ⟨rfl, eP_27⟩ | ⟨rfl, L_26, eP_27, h_31, hI_32, h_33⟩
            · skip
              refine lv_aload_n hx hb dX12_some_34 rfl (lv_at hl 0 rfl) ?_
              refine lv_bipush (v := (-3)) hx hb dX12_some_35 (by decide) ?_
              have hPc := hP.sub (ws' := [(zo14irriiiiiirriirrrrlriiii m0 th aS aI im (nI a) (nI p_25) (nI E) 1 3 aB aT se dn aG aO aN aD bv aY rn kd nu tv)]) [0] rfl
              have hKc := hK.sub (tys' := []) [] rfl
              refine va_csv (va_runV (As := [.int (-3)]) (rest := []) ⟨hx, hb, hml, hown, hts⟩ (c_emitsW l dC dI m0 aS aI aB aT aG aO aN aD aY th im (nI a) (nI p_25) (nI E) 1 3 se dn rn kd nu tv bv (-3)) (cwV 1 hts gX12_some_X12_emits rfl rfl rfl hd_yX12_emits ⟨Nat.le_of_ble_eq_true rfl, Nat.le_of_ble_eq_true rfl⟩) ⟨fun a U g mk q => by obtain ⟨q0, qP, qK⟩ := q; exact ⟨q0, mvP g mk a qP, mvK g mk a qK⟩, va_recv hK hP (ci := 14) (q := (RX12, TX12, 23)) (q0 := 0) rfl rfl, fun U hU hW => ⟨rfl, by rw [hU]; exact hPc, va_K.moved hW.alike hKc⟩⟩ rfl rfl hl.1 rfl (lv_room (Nat.le_of_ble_eq_true rfl)) dX12_some_37 ⟨Nat.le_of_ble_eq_true rfl, Nat.le_of_ble_eq_true rfl⟩).run (fun hw_35 => ?_)
              refine lv_goto (tgt := 4) hx hb dX12_some_40 (by decide) ?_
              exact ih4 (p_25) ([]) (0) (1) (fS9_22) (by omega) (by omega) ((hF).tr hF_30) (Or.inl ⟨rfl, hE9.trans (ps_bad hs9 eP_27)⟩) _ _ (hK.sub [0] rfl) (hP.sub [0, 1] rfl) (hD.sub [0, 1] (by decide) rfl) hS ls (lv_sub hl [0] rfl)
            · skip
              have k5 := hI_32.2.2.2.2.1
              have hqL_26 : ((K ++ L1) ++ L_26).length = (K ++ L1).length + L_26.length := List.length_append
              refine lv_aload_n hx hb dX12_some_34 rfl (lv_at hl 0 rfl) ?_
              refine lv_bipush (v := (-3)) hx hb dX12_some_35 (by decide) ?_
              have hPc := hP.sub (ws' := [(zo14irriiiiiirriirrrrlriiii m0 th aS aI im (nI a) (nI p_25) (nI E) 0 3 aB aT se dn aG aO aN aD bv aY rn kd nu tv), (zaI aS cS 901 fS9_22)]) [0, 1] rfl
              have hDc := hD.sub (ws' := [(zo14irriiiiiirriirrrrlriiii m0 th aS aI im (nI a) (nI p_25) (nI E) 0 3 aB aT se dn aG aO aN aD bv aY rn kd nu tv), (zaI aS cS 901 fS9_22)]) [0, 1] (by decide) rfl
              have hKc := hK.sub (tys' := [(cS, .int)]) [0] rfl
              have hFc := va_free (wc := [(zo14irriiiiiirriirrrrlriiii m0 th aS aI im (nI a) (nI p_25) (nI E) 0 3 aB aT se dn aG aO aN aD bv aY rn kd nu tv), (zaI aS cS 901 fS9_22)]) hD hS hA [0, 1] rfl
              refine va_callv (va_runV (As := [.int (-3)]) (rest := []) ⟨hx, hb, hml, hown, hts⟩ (c_emits l dC dI m0 aS aI aB aT aG aO aN aD aY th im (nI a) (nI p_25) (nI E) 0 3 se dn rn kd nu tv bv cS fS9_22 a ((K ++ L1) ++ L_26).length (-3) H.size (ga) ((hI_32).2.2.2.1) (by have := (hI_32).2.2.2.2.1; omega)) (cwV 1 hts gX12_some_X12_emits rfl rfl rfl hd_yX12_emits ⟨Nat.le_of_ble_eq_true rfl, Nat.le_of_ble_eq_true rfl⟩) ⟨fun a U g mk q => by obtain ⟨q0, q1, qP, qK, qD⟩ := q; exact ⟨q0, mvz g mk a q1, mvP g mk a qP, mvK g mk a qK, qD⟩, va_recv hK hP (ci := 14) (q := (RX12, TX12, 23)) (q0 := 0) rfl rfl, fun U hU hW => ⟨rfl, by rw [hU], by rw [hU]; exact hPc, va_K.moved hW.alike hKc, hDc.weaken (fun _ _ _ _ => trivial)⟩⟩ rfl rfl hl.1 rfl (lv_room (Nat.le_of_ble_eq_true rfl)) dX12_some_37 ⟨Nat.le_of_ble_eq_true rfl, Nat.le_of_ble_eq_true rfl⟩) hS (fun q _ h => hFc q h) hFc (fun u tC H1 locs htC hvm hw_37 hB hz1 hk1 hS => ?_)
              obtain ⟨fS9_38, rfl⟩ : ∃ z, z = u := ⟨_, rfl⟩
              try dsimp only at hw_37 hB
              obtain ⟨hP1, hK1, hD1⟩ := hB
              rw [htC] at hP1
              have hK1 := va_K.moved hvm.symm hK1
              obtain ⟨hP, hD⟩ := va_join (wr := []) (w1 := [(zo14irriiiiiirriirrrrlriiii m0 th aS aI im (nI a) (nI p_25) (nI E) 0 3 aB aT se dn aG aO aN aD bv aY rn kd nu tv), (zaI aS cS 901 fS9_38)]) hP hD [0, 1] [] rfl rfl (by decide) (by decide) hk1 hFc hP1 hD1
              have hK := (hK.sub (tys' := []) [] rfl).app hK1
              generalize H1 = H at hP hS ⊢
              have hP : va_P (dC, dI) vwCl [(zo14irriiiiiirriirrrrlriiii m0 th aS aI im (nI a) (nI p_25) (nI E) 0 3 aB aT se dn aG aO aN aD bv aY rn kd nu tv), (zaI aS cS 901 fS9_38)] H := hP
              have hD : va_D A [(zo14irriiiiiirriirrrrlriiii m0 th aS aI im (nI a) (nI p_25) (nI E) 0 3 aB aT se dn aG aO aN aD bv aY rn kd nu tv), (zaI aS cS 901 fS9_38)] := hD
              have hK : va_K (dC, dI) vwCl [(cS, .int)] s := hK
              obtain rfl : fS9_38 = emt fS9_22 a ((K ++ L1) ++ L_26).length (-3) := by rcases hw_37 with ⟨q, _⟩ | ⟨_, q⟩; exact absurd rfl q; exact q
              have hI_39 : PI (emt fS9_22 a ((K ++ L1) ++ L_26).length (-3)) a (((K ++ L1) ++ L_26) ++ [1803]) (((d + 1) + 1) - 1) p_25 E := PI.em (t := 1803) ((hI_32).mono (by omega) (by omega)) (by omega) (by omega) (stepd_either (by omega)) (by decide)
              have hF_40 : PF a fS (emt fS9_22 a ((K ++ L1) ++ L_26).length (-3)) := ((hF).tr hF_30).tr (PF_emt (k := ((K ++ L1) ++ L_26).length) (x := (-3)) ga (by have := (hI_32).2.2.2.2.1; omega))
              have hKhI_39 : (((K ++ L1) ++ L_26) ++ [1803]).length = ((K ++ L1) ++ L_26).length + 1 := by rw [List.length_append]; rfl
              refine lv_goto (tgt := 4) hx hb dX12_some_40 (by decide) ?_
              exact ih4 (p_25) (L1 ++ (L_26 ++ [1803])) (m2) (0) (emt fS9_22 a ((K ++ L1) ++ L_26).length (-3)) (by omega) (by omega) (hF_40) (Or.inr ⟨rfl, hE9.trans (ps_go hs9 eP_27), by omega, by omega, PI.as (PI.as hI_39), by simp only [List.length_append, List.length_cons, List.length_nil]; omega⟩) _ _ (hK.sub [0] rfl) (hP.sub [0, 1] rfl) (hD.sub [0, 1] (by decide) rfl) hS ls (lv_sub hl [0] rfl)
    exact L4 _ (p_6) ([]) (0) (1) (fS9_3) (Nat.lt_succ_self _) (by omega) ((PF.rf).tr hF_11) (Or.inl ⟨rfl, pSm_n eP_8⟩) _ _ (hK.sub [0] rfl) (hP.sub [0, 1] rfl) (hD.sub [0, 1] (by decide) rfl) hS ls (lv_sub hl [0] rfl)
  · skip
    have k5 := hI_13.2.2.2.2.1
    have hqL_7 : (K ++ L_7).length = K.length + L_7.length := List.length_append
    have L4 : ∀ (nF : Nat) (p1 : Nat) (L1 : List Nat) (m1 : Nat) (w1 : Int32) (f1 : Nat → Int32), E - p1 < nF → (p0 ≤ p1 ∧ p1 ≤ E) → (PF a fS f1) → ((w1 = 1 ∧ pSm ss (pFac ss 2) p0 = (none, p1)) ∨ (w1 = 0 ∧ pSm ss (pFac ss 2) p0 = pSep ss 124 1803 (pEv ss (pFac ss 2)) m1 (some L1, p1) ∧ 101 ≤ m1 + p1 ∧ p0 + 3 ≤ p1 ∧ PI f1 a (K ++ L1) (d + 1) p1 E ∧ L1.length + p0 ≤ p1)) → ∀ (H : Heap) (locs : List Loc), va_K (dC, dI) vwCl [(cS, .int)] s → va_P (dC, dI) vwCl [(zo14irriiiiiirriirrrrlriiii m0 th aS aI im (nI a) (nI p1) (nI E) w1 3 aB aT se dn aG aO aN aD bv aY rn kd nu tv), (zaI aS cS 901 f1)] H → va_D A [(zo14irriiiiiirriirrrrlriiii m0 th aS aI im (nI a) (nI p1) (nI E) w1 3 aB aT se dn aG aO aN aD bv aY rn kd nu tv), (zaI aS cS 901 f1)] → va_S A s.heap H locs → ∀ (ls : Array Slot), lv_has ls 1 [(0, .ref m0)] → W p l e ({ frames := 13, cells := 0, slots := 0, locals := 279 } : Room) s m args below meth c H locs 0 0 Q (F0 m 4 ls []) := by
      intro nF
      induction nF with
      | zero => intro p1 L1 m1 w1 f1 hm; exact absurd hm (Nat.not_lt_zero _)
      | succ nF ih4 =>
        intro p1 L1 m1 w1 f1 hm h1 hF hw1 H locs hK hP hD hS ls hl
        obtain ⟨h1a, h1b⟩ := h1
        rcases hw1 with ⟨rfl, hE9⟩ | ⟨rfl, hE9, hm9, h3, hI, h4⟩
        · skip
          refine lv_aload_n hx hb dX12_some_4 rfl (lv_at hl 0 rfl) ?_
          refine va_get (D := (dC, dI)) (ci := 14) (v := .int 1) (C := RX12) (T := TX12) (N := 23) hx hb hts kc_some3_0 hown hK hP 0 rfl rfl 7 (by decide) (hts (.fieldLink RX12 65 "MistHeapsModel" "isWrong" "Z") kc_some3_1) (fun _ h9 => h9) rfl dX12_some_5 ?_
          refine lv_if_ne (tgt := 43) hx hb dX12_some_8 (by decide) (fun _ => ?_) (fun c_41 => absurd c_41 (by decide))
          rw [hQ]
          have hP9 := hP.sub (ws' := [(zo14irriiiiiirriirrrrlriiii m0 th aS aI im (nI a) (nI p1) (nI E) 1 3 aB aT se dn aG aO aN aD bv aY rn kd nu tv), (zaI aS cS 901 f1)]) [0, 1] rfl
          have hD9 := hD.sub (ws' := [(zo14irriiiiiirriirrrrlriiii m0 th aS aI im (nI a) (nI p1) (nI E) 1 3 aB aT se dn aG aO aN aD bv aY rn kd nu tv), (zaI aS cS 901 f1)]) [0, 1] (by decide) rfl
          have hK9 := hK.sub (tys' := [(cS, .int)]) [0] rfl
          exact W.vret hx hb hr (fun tQ htQ hWQ => ⟨⟨(f1, (nI p1), 1), rfl, ⟨p1, rfl, by omega, by omega, hF, Or.inl ⟨rfl, hE9⟩⟩, by rw [htQ]; exact hP9, va_K.moved hWQ.alike hK9, hD9⟩, hS.F htQ⟩) hS.2.2 dX12_some_43
        · skip
          have k5 := hI.2.2.2.2.1
          have hq1 : (K ++ L1).length = K.length + L1.length := List.length_append
          refine lv_aload_n hx hb dX12_some_4 rfl (lv_at hl 0 rfl) ?_
          refine va_get (D := (dC, dI)) (ci := 14) (v := .int 0) (C := RX12) (T := TX12) (N := 23) hx hb hts kc_some3_0 hown hK hP 0 rfl rfl 7 (by decide) (hts (.fieldLink RX12 65 "MistHeapsModel" "isWrong" "Z") kc_some3_1) (fun _ h9 => h9) rfl dX12_some_5 ?_
          refine lv_if_ne (tgt := 43) hx hb dX12_some_8 (by decide) (fun c_42 => absurd c_42 (by decide)) (fun _ => ?_)
          refine lv_aload_n hx hb dX12_some_11 rfl (lv_at hl 0 rfl) ?_
          have hPc := hP.sub (ws' := [(zo14irriiiiiirriirrrrlriiii m0 th aS aI im (nI a) (nI p1) (nI E) 0 3 aB aT se dn aG aO aN aD bv aY rn kd nu tv), (zaI aS cS 901 f1)]) [0, 1] rfl
          have hKc := hK.sub (tys' := [(cS, .int)]) [0] rfl
          refine vp_callSi (va_runV (As := []) (rest := []) ⟨hx, hb, hml, hown, hts⟩ (c_here l dC dI m0 aS aI aB aT aG aO aN aD aY th im (nI a) (nI p1) (nI E) 0 3 se dn rn kd nu tv bv cS f1 a p1 E (by omega) (by omega) (by omega)) (cwV 0 hts gX12_some_X12_here rfl rfl rfl hd_yX12_here ⟨Nat.le_of_ble_eq_true rfl, Nat.le_of_ble_eq_true rfl⟩) ⟨fun a U g mk q => by obtain ⟨q0, qP, qK⟩ := q; exact ⟨q0, mvP g mk a qP, mvK g mk a qK⟩, va_recv hK hP (ci := 14) (q := (RX12, TX12, 23)) (q0 := 0) rfl rfl, fun U hU hW => ⟨rfl, by rw [hU]; exact hPc, va_K.moved hW.alike hKc⟩⟩ rfl rfl hl.1 rfl (lv_room (Nat.le_of_ble_eq_true rfl)) dX12_some_12 ⟨Nat.le_of_ble_eq_true rfl, Nat.le_of_ble_eq_true rfl⟩).run (fun r_43 hw_44 => ?_)
          refine lv_bipush (v := 124) hx hb dX12_some_15 (by decide) ?_
          refine lv_icmp_ne (tgt := 43) hx hb dX12_some_17 (by decide) (fun c_45 => ?_) (fun c_45 => ?_)
          · skip
            have hn9 : ¬ ss p1 = 124 := fun z => c_45 (by rw [hw_44]; exact ((TP_PF gT gE hF).eq (c := 124) (by omega) (by omega)).mpr z)
            rw [hQ]
            have hP9 := hP.sub (ws' := [(zo14irriiiiiirriirrrrlriiii m0 th aS aI im (nI a) (nI p1) (nI E) 0 3 aB aT se dn aG aO aN aD bv aY rn kd nu tv), (zaI aS cS 901 f1)]) [0, 1] rfl
            have hD9 := hD.sub (ws' := [(zo14irriiiiiirriirrrrlriiii m0 th aS aI im (nI a) (nI p1) (nI E) 0 3 aB aT se dn aG aO aN aD bv aY rn kd nu tv), (zaI aS cS 901 f1)]) [0, 1] (by decide) rfl
            have hK9 := hK.sub (tys' := [(cS, .int)]) [0] rfl
            exact W.vret hx hb hr (fun tQ htQ hWQ => ⟨⟨(f1, (nI p1), 0), rfl, ⟨p1, rfl, by omega, by omega, hF, Or.inr ⟨rfl, L1, hE9.trans (ps_end hn9), by omega, hI, by (try simp only [List.length_append, List.length_cons, List.length_nil]); omega⟩⟩, by rw [htQ]; exact hP9, va_K.moved hWQ.alike hK9, hD9⟩, hS.F htQ⟩) hS.2.2 dX12_some_43
          · skip
            have hs9 : ss p1 = 124 := ((TP_PF gT gE hF).eq (c := 124) (by omega) (by omega)).mp (by rw [← hw_44, c_45]; rfl)
            have hlt : p1 < E := Nat.lt_of_not_le (fun z => by have := gT.2.1 p1 z; omega)
            obtain ⟨m2, rfl⟩ : ∃ q : Nat, m1 = q + 1 := ⟨m1 - 1, by omega⟩
            refine lv_aload_n hx hb dX12_some_20 rfl (lv_at hl 0 rfl) ?_
            refine lv_dup hx hb dX12_some_21 rfl ?_
            refine va_get (D := (dC, dI)) (ci := 14) (v := .int (nI p1)) (C := RX12) (T := TX12) (N := 23) hx hb hts kc_some3_0 hown hK hP 0 rfl rfl 5 (by decide) (hts (.fieldLink RX12 59 "MistHeapsModel" "spot" "I") kc_some3_2) (fun _ h9 => h9) rfl dX12_some_22 ?_
            refine lv_iconst (v := 1) hx hb dX12_some_25 (by decide) ?_
            refine lv_iadd hx hb dX12_some_26 ?_
            refine qi_as (y := nI (p1 + 1)) (nI_add p1 1) ?_
            refine va_put (D := (dC, dI)) (ci := 14) (v := .int (nI (p1 + 1))) (ty := .int) (C := RX12) (T := TX12) (N := 23) hx hb hts kc_some3_0 tyX12 tyX12_ok nmX12 hown hK hP hD hS 0 rfl rfl 5 (by decide) (hts (.fieldLink RX12 59 "MistHeapsModel" "spot" "I") kc_some3_2) (fun _ h9 => h9) rfl (by decide +kernel) rfl rfl (Nat.le_of_ble_eq_true rfl) dX12_some_27 (fun H locs hP hD hS => ?_)
            have hP : va_P (dC, dI) vwCl [(zo14irriiiiiirriirrrrlriiii m0 th aS aI im (nI a) (nI (p1 + 1)) (nI E) 0 3 aB aT se dn aG aO aN aD bv aY rn kd nu tv), (zaI aS cS 901 f1)] H := hP
            have hD : va_D A [(zo14irriiiiiirriirrrrlriiii m0 th aS aI im (nI a) (nI (p1 + 1)) (nI E) 0 3 aB aT se dn aG aO aN aD bv aY rn kd nu tv), (zaI aS cS 901 f1)] := hD
            refine lv_aload_n hx hb dX12_some_30 rfl (lv_at hl 0 rfl) ?_
            have hPc := hP.sub (ws' := [(zo14irriiiiiirriirrrrlriiii m0 th aS aI im (nI a) (nI (p1 + 1)) (nI E) 0 3 aB aT se dn aG aO aN aD bv aY rn kd nu tv), (zaI aS cS 901 f1)]) [0, 1] rfl
            have hDc := hD.sub (ws' := [(zo14irriiiiiirriirrrrlriiii m0 th aS aI im (nI a) (nI (p1 + 1)) (nI E) 0 3 aB aT se dn aG aO aN aD bv aY rn kd nu tv), (zaI aS cS 901 f1)]) [0, 1] (by decide) rfl
            have hKc := hK.sub (tys' := [(cS, .int)]) [0] rfl
            have hFc := va_free (wc := [(zo14irriiiiiirriirrrrlriiii m0 th aS aI im (nI a) (nI (p1 + 1)) (nI E) 0 3 aB aT se dn aG aO aN aD bv aY rn kd nu tv), (zaI aS cS 901 f1)]) hD hS hA [0, 1] rfl
            refine va_callv (va_runV (As := []) (rest := []) ⟨hx, hb, hml, hown, hts⟩ (c_every3 l dC dI sK sV m0 aS aI aB aT aG aO aN aD aY th im (nI a) (nI (p1 + 1)) (nI E) 0 3 se dn rn kd nu tv bv cS f1 a (p1 + 1) E (K ++ L1) (d + 1) ss H.size ((hI).mono (by omega) (by omega)) ((TP_PF gT gE (hF)))) (cwV 0 hts gX12_some_X12_every rfl rfl rfl hd_yX12_every ⟨Nat.le_of_ble_eq_true rfl, Nat.le_of_ble_eq_true rfl⟩) ⟨fun a U g mk q => by obtain ⟨q0, q1, qP, qK, qD, qhE⟩ := q; exact ⟨q0, mvz g mk a q1, mvP g mk a qP, mvK g mk a qK, qD, qhE.mv g mk a⟩, va_recv hK hP (ci := 14) (q := (RX12, TX12, 23)) (q0 := 0) rfl rfl, fun U hU hW => ⟨rfl, by rw [hU], by rw [hU]; exact hPc, va_K.moved hW.alike hKc, hDc.weaken (fun _ _ _ _ => trivial), hE.call hS hU hW (fun q h => hFc q h)⟩⟩ rfl rfl hl.1 rfl (lv_room (Nat.le_of_ble_eq_true rfl)) dX12_some_31 ⟨Nat.le_of_ble_eq_true rfl, Nat.le_of_ble_eq_true rfl⟩) hS (fun q _ h => hFc q h) hFc (fun u tC H1 locs htC hvm hw_47 hB hz1 hk1 hS => ?_)
            obtain ⟨fS9_48, sp9_49, wg9_50⟩ := u
            try dsimp only at hw_47 hB
            obtain ⟨hP1, hK1, hD1⟩ := hB
            rw [htC] at hP1
            have hK1 := va_K.moved hvm.symm hK1
            obtain ⟨hP, hD⟩ := va_join (wr := []) (w1 := [(zo14irriiiiiirriirrrrlriiii m0 th aS aI im (nI a) sp9_49 (nI E) wg9_50 3 aB aT se dn aG aO aN aD bv aY rn kd nu tv), (zaI aS cS 901 fS9_48)]) hP hD [0, 1] [] rfl rfl (by decide) (by decide) hk1 hFc hP1 hD1
            have hK := (hK.sub (tys' := []) [] rfl).app hK1
            generalize H1 = H at hP hS ⊢
            have hP : va_P (dC, dI) vwCl [(zo14irriiiiiirriirrrrlriiii m0 th aS aI im (nI a) sp9_49 (nI E) wg9_50 3 aB aT se dn aG aO aN aD bv aY rn kd nu tv), (zaI aS cS 901 fS9_48)] H := hP
            have hD : va_D A [(zo14irriiiiiirriirrrrlriiii m0 th aS aI im (nI a) sp9_49 (nI E) wg9_50 3 aB aT se dn aG aO aN aD bv aY rn kd nu tv), (zaI aS cS 901 fS9_48)] := hD
            have hK : va_K (dC, dI) vwCl [(cS, .int)] s := hK
            obtain ⟨p_51, rfl, h_54, h_55, hF_56, q9⟩ := hw_47
            rcases q9 with ⟨rfl, eP_53⟩ | ⟨rfl, L_52, eP_53, h_57, hI_58, h_59⟩
            · skip
              refine lv_aload_n hx hb dX12_some_34 rfl (lv_at hl 0 rfl) ?_
              refine lv_bipush (v := (-3)) hx hb dX12_some_35 (by decide) ?_
              have hPc := hP.sub (ws' := [(zo14irriiiiiirriirrrrlriiii m0 th aS aI im (nI a) (nI p_51) (nI E) 1 3 aB aT se dn aG aO aN aD bv aY rn kd nu tv)]) [0] rfl
              have hKc := hK.sub (tys' := []) [] rfl
              refine va_csv (va_runV (As := [.int (-3)]) (rest := []) ⟨hx, hb, hml, hown, hts⟩ (c_emitsW l dC dI m0 aS aI aB aT aG aO aN aD aY th im (nI a) (nI p_51) (nI E) 1 3 se dn rn kd nu tv bv (-3)) (cwV 1 hts gX12_some_X12_emits rfl rfl rfl hd_yX12_emits ⟨Nat.le_of_ble_eq_true rfl, Nat.le_of_ble_eq_true rfl⟩) ⟨fun a U g mk q => by obtain ⟨q0, qP, qK⟩ := q; exact ⟨q0, mvP g mk a qP, mvK g mk a qK⟩, va_recv hK hP (ci := 14) (q := (RX12, TX12, 23)) (q0 := 0) rfl rfl, fun U hU hW => ⟨rfl, by rw [hU]; exact hPc, va_K.moved hW.alike hKc⟩⟩ rfl rfl hl.1 rfl (lv_room (Nat.le_of_ble_eq_true rfl)) dX12_some_37 ⟨Nat.le_of_ble_eq_true rfl, Nat.le_of_ble_eq_true rfl⟩).run (fun hw_61 => ?_)
              refine lv_goto (tgt := 4) hx hb dX12_some_40 (by decide) ?_
              exact ih4 (p_51) ([]) (0) (1) (fS9_48) (by omega) (by omega) ((hF).tr hF_56) (Or.inl ⟨rfl, hE9.trans (ps_bad hs9 eP_53)⟩) _ _ (hK.sub [0] rfl) (hP.sub [0, 1] rfl) (hD.sub [0, 1] (by decide) rfl) hS ls (lv_sub hl [0] rfl)
            · skip
              have k5 := hI_58.2.2.2.2.1
              have hqL_52 : ((K ++ L1) ++ L_52).length = (K ++ L1).length + L_52.length := List.length_append
              refine lv_aload_n hx hb dX12_some_34 rfl (lv_at hl 0 rfl) ?_
              refine lv_bipush (v := (-3)) hx hb dX12_some_35 (by decide) ?_
              have hPc := hP.sub (ws' := [(zo14irriiiiiirriirrrrlriiii m0 th aS aI im (nI a) (nI p_51) (nI E) 0 3 aB aT se dn aG aO aN aD bv aY rn kd nu tv), (zaI aS cS 901 fS9_48)]) [0, 1] rfl
              have hDc := hD.sub (ws' := [(zo14irriiiiiirriirrrrlriiii m0 th aS aI im (nI a) (nI p_51) (nI E) 0 3 aB aT se dn aG aO aN aD bv aY rn kd nu tv), (zaI aS cS 901 fS9_48)]) [0, 1] (by decide) rfl
              have hKc := hK.sub (tys' := [(cS, .int)]) [0] rfl
              have hFc := va_free (wc := [(zo14irriiiiiirriirrrrlriiii m0 th aS aI im (nI a) (nI p_51) (nI E) 0 3 aB aT se dn aG aO aN aD bv aY rn kd nu tv), (zaI aS cS 901 fS9_48)]) hD hS hA [0, 1] rfl
              refine va_callv (va_runV (As := [.int (-3)]) (rest := []) ⟨hx, hb, hml, hown, hts⟩ (c_emits l dC dI m0 aS aI aB aT aG aO aN aD aY th im (nI a) (nI p_51) (nI E) 0 3 se dn rn kd nu tv bv cS fS9_48 a ((K ++ L1) ++ L_52).length (-3) H.size (ga) ((hI_58).2.2.2.1) (by have := (hI_58).2.2.2.2.1; omega)) (cwV 1 hts gX12_some_X12_emits rfl rfl rfl hd_yX12_emits ⟨Nat.le_of_ble_eq_true rfl, Nat.le_of_ble_eq_true rfl⟩) ⟨fun a U g mk q => by obtain ⟨q0, q1, qP, qK, qD⟩ := q; exact ⟨q0, mvz g mk a q1, mvP g mk a qP, mvK g mk a qK, qD⟩, va_recv hK hP (ci := 14) (q := (RX12, TX12, 23)) (q0 := 0) rfl rfl, fun U hU hW => ⟨rfl, by rw [hU], by rw [hU]; exact hPc, va_K.moved hW.alike hKc, hDc.weaken (fun _ _ _ _ => trivial)⟩⟩ rfl rfl hl.1 rfl (lv_room (Nat.le_of_ble_eq_true rfl)) dX12_some_37 ⟨Nat.le_of_ble_eq_true rfl, Nat.le_of_ble_eq_true rfl⟩) hS (fun q _ h => hFc q h) hFc (fun u tC H1 locs htC hvm hw_63 hB hz1 hk1 hS => ?_)
              obtain ⟨fS9_64, rfl⟩ : ∃ z, z = u := ⟨_, rfl⟩
              try dsimp only at hw_63 hB
              obtain ⟨hP1, hK1, hD1⟩ := hB
              rw [htC] at hP1
              have hK1 := va_K.moved hvm.symm hK1
              obtain ⟨hP, hD⟩ := va_join (wr := []) (w1 := [(zo14irriiiiiirriirrrrlriiii m0 th aS aI im (nI a) (nI p_51) (nI E) 0 3 aB aT se dn aG aO aN aD bv aY rn kd nu tv), (zaI aS cS 901 fS9_64)]) hP hD [0, 1] [] rfl rfl (by decide) (by decide) hk1 hFc hP1 hD1
              have hK := (hK.sub (tys' := []) [] rfl).app hK1
              generalize H1 = H at hP hS ⊢
              have hP : va_P (dC, dI) vwCl [(zo14irriiiiiirriirrrrlriiii m0 th aS aI im (nI a) (nI p_51) (nI E) 0 3 aB aT se dn aG aO aN aD bv aY rn kd nu tv), (zaI aS cS 901 fS9_64)] H := hP
              have hD : va_D A [(zo14irriiiiiirriirrrrlriiii m0 th aS aI im (nI a) (nI p_51) (nI E) 0 3 aB aT se dn aG aO aN aD bv aY rn kd nu tv), (zaI aS cS 901 fS9_64)] := hD
              have hK : va_K (dC, dI) vwCl [(cS, .int)] s := hK
              obtain rfl : fS9_64 = emt fS9_48 a ((K ++ L1) ++ L_52).length (-3) := by rcases hw_63 with ⟨q, _⟩ | ⟨_, q⟩; exact absurd rfl q; exact q
              have hI_65 : PI (emt fS9_48 a ((K ++ L1) ++ L_52).length (-3)) a (((K ++ L1) ++ L_52) ++ [1803]) (((d + 1) + 1) - 1) p_51 E := PI.em (t := 1803) ((hI_58).mono (by omega) (by omega)) (by omega) (by omega) (stepd_either (by omega)) (by decide)
              have hF_66 : PF a fS (emt fS9_48 a ((K ++ L1) ++ L_52).length (-3)) := ((hF).tr hF_56).tr (PF_emt (k := ((K ++ L1) ++ L_52).length) (x := (-3)) ga (by have := (hI_58).2.2.2.2.1; omega))
              have hKhI_65 : (((K ++ L1) ++ L_52) ++ [1803]).length = ((K ++ L1) ++ L_52).length + 1 := by rw [List.length_append]; rfl
              refine lv_goto (tgt := 4) hx hb dX12_some_40 (by decide) ?_
              exact ih4 (p_51) (L1 ++ (L_52 ++ [1803])) (m2) (0) (emt fS9_48 a ((K ++ L1) ++ L_52).length (-3)) (by omega) (by omega) (hF_66) (Or.inr ⟨rfl, hE9.trans (ps_go hs9 eP_53), by omega, by omega, PI.as (PI.as hI_65), by simp only [List.length_append, List.length_cons, List.length_nil]; omega⟩) _ _ (hK.sub [0] rfl) (hP.sub [0, 1] rfl) (hD.sub [0, 1] (by decide) rfl) hS ls (lv_sub hl [0] rfl)
    exact L4 _ (p_6) (L_7) (101) (0) (fS9_3) (Nat.lt_succ_self _) (by omega) ((PF.rf).tr hF_11) (Or.inr ⟨rfl, pSm_s eP_8, by omega, by omega, hI_13, by omega⟩) _ _ (hK.sub [0] rfl) (hP.sub [0, 1] rfl) (hD.sub [0, 1] (by decide) rfl) hS ls (lv_sub hl [0] rfl)
end mg12b
section mg12b

theorem kc_factor2_0 : ∀ w ∈ wsX120, w ∈ wsX12_factor := fun w h => List.mem_cons_of_mem _ (gin_wsX120 w h)
theorem kc_factor2_1 : (.fieldLink RX12 65 "MistHeapsModel" "isWrong" "Z" : Cond) ∈ wsX12_factor := kc_of 1147 rfl rfl rfl
theorem kc_factor2_2 : (.fieldLink RX12 89 "MistHeapsModel" "open" "I" : Cond) ∈ wsX12_factor := kc_of 1148 rfl rfl rfl
theorem kc_factor2_3 : (.fieldLink RX12 59 "MistHeapsModel" "spot" "I" : Cond) ∈ wsX12_factor := kc_of 1145 rfl rfl rfl
set_option maxHeartbeats 4000000 in
set_option maxRecDepth 100000 in
theorem c_factor2 (l : Launch) (dC : Nat → ClassId) (dI : Nat → Nat → Nat) (sK sV : Nat → Nat) (m0 aS aI aB aT aG aO aN aD aY : Nat) (th im ac sp en wg op se dn rn kd nu tv : Int32) (bv : Int64) (cS : ClassId) (fS : Nat → Int32) (a p0 E : Nat) (K : List Nat) (d : Nat) (ss : Nat → Nat) (sz : Nat) (gI : PI fS a K d p0 E) (gT : TP fS E ss) : Met l yX12_factor wsX12_factor ({ frames := 14, cells := 0, slots := 0, locals := 299 } : Room) (va_Pc [.ref m0] (fun U => U.heap.size = sz ∧ va_P (dC, dI) vwCl [(zo14irriiiiiirriirrrrlriiii m0 th aS aI im (nI a) (nI p0) (nI E) 0 2 aB aT se dn aG aO aN aD bv aY rn kd nu tv), (zaI aS cS 901 fS)] U.heap ∧ va_K (dC, dI) vwCl [(cS, .int)] U ∧ va_D (fun _ => True) [(zo14irriiiiiirriirrrrlriiii m0 th aS aI im (nI a) (nI p0) (nI E) 0 2 aB aT se dn aG aO aN aD bv aY rn kd nu tv), (zaI aS cS 901 fS)] ∧ Gs sK sV (va_A [(zo14irriiiiiirriirrrrlriiii m0 th aS aI im (nI a) (nI p0) (nI E) 0 2 aB aT se dn aG aO aN aD bv aY rn kd nu tv), (zaI aS cS 901 fS)] sz) U)) (va_Qv (fun (u : (Nat → Int32) × (Int32) × (Int32)) => match u with | (fS9, sp9, wg9) => ∃ p9 : Nat, sp9 = nI p9 ∧ p0 ≤ p9 ∧ p9 ≤ E ∧ PF a fS fS9 ∧ ((wg9 = 1 ∧ pFac ss 3 p0 = (none, p9)) ∨ (wg9 = 0 ∧ ∃ L : List Nat, pFac ss 3 p0 = (some L, p9) ∧ p0 + 3 ≤ p9 ∧ PI fS9 a (K ++ L) (d + 1) p9 E ∧ L.length + p0 ≤ p9))) (fun (u : (Nat → Int32) × (Int32) × (Int32)) (t : State) => match u with | (fS9, sp9, wg9) => va_P (dC, dI) vwCl [(zo14irriiiiiirriirrrrlriiii m0 th aS aI im (nI a) sp9 (nI E) wg9 2 aB aT se dn aG aO aN aD bv aY rn kd nu tv), (zaI aS cS 901 fS9)] t.heap ∧ va_K (dC, dI) vwCl [(cS, .int)] t ∧ va_D (va_A [(zo14irriiiiiirriirrrrlriiii m0 th aS aI im (nI a) (nI p0) (nI E) 0 2 aB aT se dn aG aO aN aD bv aY rn kd nu tv), (zaI aS cS 901 fS)] sz) [(zo14irriiiiiirriirrrrlriiii m0 th aS aI im (nI a) sp9 (nI E) wg9 2 aB aT se dn aG aO aN aD bv aY rn kd nu tv), (zaI aS cS 901 fS9)]) (va_A [(zo14irriiiiiirriirrrrlriiii m0 th aS aI im (nI a) (nI p0) (nI E) 0 2 aB aT se dn aG aO aN aD bv aY rn kd nu tv), (zaI aS cS 901 fS)] sz)) 0 0 (va_A [(zo14irriiiiiirriirrrrlriiii m0 th aS aI im (nI a) (nI p0) (nI E) 0 2 aB aT se dn aG aO aN aD bv aY rn kd nu tv), (zaI aS cS 901 fS)] sz) := by
  refine met_ofQ (cc := cX12_factor) (maxL := 5) (ret := none) (by decide) rfl ?_
  intro p e s m args below meth c s₁ Q B hml hv hQ
  obtain ⟨rfl, hsz, hP, hK, hD0, hE⟩ := hv
  have hx := B.exec
  have hb := B.bytes
  have hr := B.returns
  have hts := atoms_spec (ws := wsX12_factor) B.pre
  have hown : s.vm.findClass RX12 = some m.cls := findClass_of_methodNamed B.named
  have hlocks := B.notSynchronized
  subst hsz
  have hD := hD0.self (sz := s.heap.size)
  generalize hAe : va_A [(zo14irriiiiiirriirrrrlriiii m0 th aS aI im (nI a) (nI p0) (nI E) 0 2 aB aT se dn aG aO aN aD bv aY rn kd nu tv), (zaI aS cS 901 fS)] s.heap.size = A at hD hQ hE ⊢
  have hA : ∀ q : Nat, s.heap.size ≤ q → A q := fun q h => by rw [← hAe]; exact Or.inr h
  have hS : va_S A s.heap s.heap [] := va_S.rf
  have hl := lv_entry [.ref m0] (n := 5) (Nat.le_of_ble_eq_true rfl)
  rw [lg_entry_eq]
  generalize (lg_sl [.ref m0] ++ List.replicate (5 - (lg_sl [.ref m0]).length) Slot.unset).toArray = ls at hl ⊢
  generalize hag : ([.ref m0] : List Value).toArray = args at hts hQ ⊢
  have hl : lv_has ls 5 [(0, .ref m0)] := hl
  obtain ⟨H, hH⟩ : ∃ H : Heap, H = s.heap := ⟨_, rfl⟩
  rw [← hH] at hP
  rw [← hH]
  have hS : va_S A s.heap H [] := by rw [hH]; exact hS
  obtain ⟨locs, hlo⟩ : ∃ L : List Loc, L = [] := ⟨_, rfl⟩
  rw [← hlo] at hS
  rw [← hlo]
  clear hH hlo
  obtain ⟨ga, gp, gE, zk, gkp, gd, gs, gcd⟩ := id gI
  refine lv_aload_n hx hb dX12_factor_0 rfl (lv_at hl 0 rfl) ?_
  refine va_get (D := (dC, dI)) (ci := 14) (v := .int 0) (C := RX12) (T := TX12) (N := 23) hx hb hts kc_factor2_0 hown hK hP 0 rfl rfl 7 (by decide) (hts (.fieldLink RX12 65 "MistHeapsModel" "isWrong" "Z") kc_factor2_1) (fun _ h9 => h9) rfl dX12_factor_1 ?_
  refine lv_if_eq (tgt := 8) hx hb dX12_factor_4 (by decide) (fun _ => ?_) (fun c_1 => absurd c_1 (by decide))
  refine lv_aload_n hx hb dX12_factor_8 rfl (lv_at hl 0 rfl) ?_
  have hPc := hP.sub (ws' := [(zo14irriiiiiirriirrrrlriiii m0 th aS aI im (nI a) (nI p0) (nI E) 0 2 aB aT se dn aG aO aN aD bv aY rn kd nu tv), (zaI aS cS 901 fS)]) [0, 1] rfl
  have hKc := hK.sub (tys' := [(cS, .int)]) [0] rfl
  refine vp_callSi (va_runV (As := []) (rest := []) ⟨hx, hb, hml, hown, hts⟩ (c_here l dC dI m0 aS aI aB aT aG aO aN aD aY th im (nI a) (nI p0) (nI E) 0 2 se dn rn kd nu tv bv cS fS a p0 E (by omega) (by omega) (by omega)) (cwV 0 hts gX12_factor_X12_here rfl rfl rfl hd_yX12_here ⟨Nat.le_of_ble_eq_true rfl, Nat.le_of_ble_eq_true rfl⟩) ⟨fun a U g mk q => by obtain ⟨q0, qP, qK⟩ := q; exact ⟨q0, mvP g mk a qP, mvK g mk a qK⟩, va_recv hK hP (ci := 14) (q := (RX12, TX12, 23)) (q0 := 0) rfl rfl, fun U hU hW => ⟨rfl, by rw [hU]; exact hPc, va_K.moved hW.alike hKc⟩⟩ rfl rfl hl.1 rfl (lv_room (Nat.le_of_ble_eq_true rfl)) dX12_factor_9 ⟨Nat.le_of_ble_eq_true rfl, Nat.le_of_ble_eq_true rfl⟩).run (fun r_2 hw_3 => ?_)
  refine lv_istore_n (lv' := [(1, .int r_2), (0, .ref m0)]) hx hb dX12_factor_12 rfl hl (by decide) rfl (fun ls hl => ?_)
  refine lv_iload_n hx hb dX12_factor_13 rfl (lv_at hl 0 rfl) ?_
  refine lv_bipush (v := 33) hx hb dX12_factor_14 (by decide) ?_
  refine lv_icmp_eq (tgt := 25) hx hb dX12_factor_16 (by decide) (fun c_4 => ?_) (fun c_4 => ?_)
  · skip
    subst c_4
    have hs : ss p0 = 33 := (gT.eq (c := 33) (by omega) (by omega)).mp hw_3.symm
    have hlt : p0 < E := Nat.lt_of_not_le (fun z => by have := gT.2.1 p0 z; omega)
    refine lv_aload_n hx hb dX12_factor_25 rfl (lv_at hl 1 rfl) ?_
    refine lv_aload_n hx hb dX12_factor_26 rfl (lv_at hl 1 rfl) ?_
    refine va_get (D := (dC, dI)) (ci := 14) (v := .int 2) (C := RX12) (T := TX12) (N := 23) hx hb hts kc_factor2_0 hown hK hP 0 rfl rfl 8 (by decide) (hts (.fieldLink RX12 89 "MistHeapsModel" "open" "I") kc_factor2_2) (fun _ h9 => h9) rfl dX12_factor_27 ?_
    refine lv_iconst (v := 5) hx hb dX12_factor_30 (by decide) ?_
    refine lv_icmp_ne (tgt := 38) hx hb dX12_factor_31 (by decide) (fun _ => ?_) (fun c_5 => absurd c_5 (by decide))
    refine lv_iconst (v := 0) hx hb dX12_factor_38 (by decide) ?_
    refine va_put (D := (dC, dI)) (ci := 14) (v := .int 0) (ty := .boolean) (C := RX12) (T := TX12) (N := 23) hx hb hts kc_factor2_0 tyX12 tyX12_ok nmX12 hown hK hP hD hS 0 rfl rfl 7 (by decide) (hts (.fieldLink RX12 65 "MistHeapsModel" "isWrong" "Z") kc_factor2_1) (fun _ h9 => h9) rfl (by decide +kernel) rfl rfl (Nat.le_of_ble_eq_true rfl) dX12_factor_39 (fun H locs hP hD hS => ?_)
    have hP : va_P (dC, dI) vwCl [(zo14irriiiiiirriirrrrlriiii m0 th aS aI im (nI a) (nI p0) (nI E) 0 2 aB aT se dn aG aO aN aD bv aY rn kd nu tv), (zaI aS cS 901 fS)] H := hP
    have hD : va_D A [(zo14irriiiiiirriirrrrlriiii m0 th aS aI im (nI a) (nI p0) (nI E) 0 2 aB aT se dn aG aO aN aD bv aY rn kd nu tv), (zaI aS cS 901 fS)] := hD
    refine lv_aload_n hx hb dX12_factor_42 rfl (lv_at hl 1 rfl) ?_
    refine lv_dup hx hb dX12_factor_43 rfl ?_
    refine va_get (D := (dC, dI)) (ci := 14) (v := .int 2) (C := RX12) (T := TX12) (N := 23) hx hb hts kc_factor2_0 hown hK hP 0 rfl rfl 8 (by decide) (hts (.fieldLink RX12 89 "MistHeapsModel" "open" "I") kc_factor2_2) (fun _ h9 => h9) rfl dX12_factor_44 ?_
    refine lv_iconst (v := 1) hx hb dX12_factor_47 (by decide) ?_
    refine lv_iadd hx hb dX12_factor_48 ?_
    refine qi_as (y := 3) (by decide) ?_
    refine va_put (D := (dC, dI)) (ci := 14) (v := .int 3) (ty := .int) (C := RX12) (T := TX12) (N := 23) hx hb hts kc_factor2_0 tyX12 tyX12_ok nmX12 hown hK hP hD hS 0 rfl rfl 8 (by decide) (hts (.fieldLink RX12 89 "MistHeapsModel" "open" "I") kc_factor2_2) (fun _ h9 => h9) rfl (by decide +kernel) rfl rfl (Nat.le_of_ble_eq_true rfl) dX12_factor_49 (fun H locs hP hD hS => ?_)
    have hP : va_P (dC, dI) vwCl [(zo14irriiiiiirriirrrrlriiii m0 th aS aI im (nI a) (nI p0) (nI E) 0 3 aB aT se dn aG aO aN aD bv aY rn kd nu tv), (zaI aS cS 901 fS)] H := hP
    have hD : va_D A [(zo14irriiiiiirriirrrrlriiii m0 th aS aI im (nI a) (nI p0) (nI E) 0 3 aB aT se dn aG aO aN aD bv aY rn kd nu tv), (zaI aS cS 901 fS)] := hD
    refine lv_aload_n hx hb dX12_factor_52 rfl (lv_at hl 1 rfl) ?_
    refine lv_dup hx hb dX12_factor_53 rfl ?_
    refine va_get (D := (dC, dI)) (ci := 14) (v := .int (nI p0)) (C := RX12) (T := TX12) (N := 23) hx hb hts kc_factor2_0 hown hK hP 0 rfl rfl 5 (by decide) (hts (.fieldLink RX12 59 "MistHeapsModel" "spot" "I") kc_factor2_3) (fun _ h9 => h9) rfl dX12_factor_54 ?_
    refine lv_aload_n hx hb dX12_factor_57 rfl (lv_at hl 1 rfl) ?_
    refine va_get (D := (dC, dI)) (ci := 14) (v := .int 0) (C := RX12) (T := TX12) (N := 23) hx hb hts kc_factor2_0 hown hK hP 0 rfl rfl 7 (by decide) (hts (.fieldLink RX12 65 "MistHeapsModel" "isWrong" "Z") kc_factor2_1) (fun _ h9 => h9) rfl dX12_factor_58 ?_
    refine lv_if_eq (tgt := 68) hx hb dX12_factor_61 (by decide) (fun _ => ?_) (fun c_6 => absurd c_6 (by decide))
    refine lv_iconst (v := 1) hx hb dX12_factor_68 (by decide) ?_
    refine lv_iadd hx hb dX12_factor_69 ?_
    refine qi_as (y := nI (p0 + 1)) (nI_add p0 1) ?_
    refine va_put (D := (dC, dI)) (ci := 14) (v := .int (nI (p0 + 1))) (ty := .int) (C := RX12) (T := TX12) (N := 23) hx hb hts kc_factor2_0 tyX12 tyX12_ok nmX12 hown hK hP hD hS 0 rfl rfl 5 (by decide) (hts (.fieldLink RX12 59 "MistHeapsModel" "spot" "I") kc_factor2_3) (fun _ h9 => h9) rfl (by decide +kernel) rfl rfl (Nat.le_of_ble_eq_true rfl) dX12_factor_70 (fun H locs hP hD hS => ?_)
    have hP : va_P (dC, dI) vwCl [(zo14irriiiiiirriirrrrlriiii m0 th aS aI im (nI a) (nI (p0 + 1)) (nI E) 0 3 aB aT se dn aG aO aN aD bv aY rn kd nu tv), (zaI aS cS 901 fS)] H := hP
    have hD : va_D A [(zo14irriiiiiirriirrrrlriiii m0 th aS aI im (nI a) (nI (p0 + 1)) (nI E) 0 3 aB aT se dn aG aO aN aD bv aY rn kd nu tv), (zaI aS cS 901 fS)] := hD
    refine lv_iload_n hx hb dX12_factor_73 rfl (lv_at hl 0 rfl) ?_
    refine lv_bipush (v := 33) hx hb dX12_factor_74 (by decide) ?_
    refine lv_icmp_ne (tgt := 91) hx hb dX12_factor_76 (by decide) (fun c_7 => absurd c_7 (by decide)) (fun _ => ?_)
    refine lv_aload_n hx hb dX12_factor_79 rfl (lv_at hl 1 rfl) ?_
    have hPc := hP.sub (ws' := [(zo14irriiiiiirriirrrrlriiii m0 th aS aI im (nI a) (nI (p0 + 1)) (nI E) 0 3 aB aT se dn aG aO aN aD bv aY rn kd nu tv), (zaI aS cS 901 fS)]) [0, 1] rfl
    have hDc := hD.sub (ws' := [(zo14irriiiiiirriirrrrlriiii m0 th aS aI im (nI a) (nI (p0 + 1)) (nI E) 0 3 aB aT se dn aG aO aN aD bv aY rn kd nu tv), (zaI aS cS 901 fS)]) [0, 1] (by decide) rfl
    have hKc := hK.sub (tys' := [(cS, .int)]) [0] rfl
    have hFc := va_free (wc := [(zo14irriiiiiirriirrrrlriiii m0 th aS aI im (nI a) (nI (p0 + 1)) (nI E) 0 3 aB aT se dn aG aO aN aD bv aY rn kd nu tv), (zaI aS cS 901 fS)]) hD hS hA [0, 1] rfl
    refine va_callv (va_runV (As := []) (rest := []) ⟨hx, hb, hml, hown, hts⟩ (c_factor3 l dC dI sK sV m0 aS aI aB aT aG aO aN aD aY th im (nI a) (nI (p0 + 1)) (nI E) 0 3 se dn rn kd nu tv bv cS fS a (p0 + 1) E K d ss H.size ((gI).mono (by omega) (by omega)) (gT)) (cwV 0 hts gX12_factor_X12_factor rfl rfl rfl hd_yX12_factor ⟨Nat.le_of_ble_eq_true rfl, Nat.le_of_ble_eq_true rfl⟩) ⟨fun a U g mk q => by obtain ⟨q0, q1, qP, qK, qD, qhE⟩ := q; exact ⟨q0, mvz g mk a q1, mvP g mk a qP, mvK g mk a qK, qD, qhE.mv g mk a⟩, va_recv hK hP (ci := 14) (q := (RX12, TX12, 23)) (q0 := 0) rfl rfl, fun U hU hW => ⟨rfl, by rw [hU], by rw [hU]; exact hPc, va_K.moved hW.alike hKc, hDc.weaken (fun _ _ _ _ => trivial), hE.call hS hU hW (fun q h => hFc q h)⟩⟩ rfl rfl hl.1 rfl (lv_room (Nat.le_of_ble_eq_true rfl)) dX12_factor_80 ⟨Nat.le_of_ble_eq_true rfl, Nat.le_of_ble_eq_true rfl⟩) hS (fun q _ h => hFc q h) hFc (fun u tC H1 locs htC hvm hw_9 hB hz1 hk1 hS => ?_)
    obtain ⟨fS9_10, sp9_11, wg9_12⟩ := u
    try dsimp only at hw_9 hB
    obtain ⟨hP1, hK1, hD1⟩ := hB
    rw [htC] at hP1
    have hK1 := va_K.moved hvm.symm hK1
    obtain ⟨hP, hD⟩ := va_join (wr := []) (w1 := [(zo14irriiiiiirriirrrrlriiii m0 th aS aI im (nI a) sp9_11 (nI E) wg9_12 3 aB aT se dn aG aO aN aD bv aY rn kd nu tv), (zaI aS cS 901 fS9_10)]) hP hD [0, 1] [] rfl rfl (by decide) (by decide) hk1 hFc hP1 hD1
    have hK := (hK.sub (tys' := []) [] rfl).app hK1
    generalize H1 = H at hP hS ⊢
    have hP : va_P (dC, dI) vwCl [(zo14irriiiiiirriirrrrlriiii m0 th aS aI im (nI a) sp9_11 (nI E) wg9_12 3 aB aT se dn aG aO aN aD bv aY rn kd nu tv), (zaI aS cS 901 fS9_10)] H := hP
    have hD : va_D A [(zo14irriiiiiirriirrrrlriiii m0 th aS aI im (nI a) sp9_11 (nI E) wg9_12 3 aB aT se dn aG aO aN aD bv aY rn kd nu tv), (zaI aS cS 901 fS9_10)] := hD
    have hK : va_K (dC, dI) vwCl [(cS, .int)] s := hK
    obtain ⟨p_13, rfl, h_16, h_17, hF_18, q9⟩ := hw_9
    rcases q9 with ⟨rfl, eP_15⟩ | ⟨rfl, L_14, eP_15, h_19, hI_20, h_21⟩
    · skip
      refine lv_aload_n hx hb dX12_factor_83 rfl (lv_at hl 1 rfl) ?_
      refine lv_iconst (v := (-1)) hx hb dX12_factor_84 (by decide) ?_
      have hPc := hP.sub (ws' := [(zo14irriiiiiirriirrrrlriiii m0 th aS aI im (nI a) (nI p_13) (nI E) 1 3 aB aT se dn aG aO aN aD bv aY rn kd nu tv)]) [0] rfl
      have hKc := hK.sub (tys' := []) [] rfl
      refine va_csv (va_runV (As := [.int (-1)]) (rest := []) ⟨hx, hb, hml, hown, hts⟩ (c_emitsW l dC dI m0 aS aI aB aT aG aO aN aD aY th im (nI a) (nI p_13) (nI E) 1 3 se dn rn kd nu tv bv (-1)) (cwV 1 hts gX12_factor_X12_emits rfl rfl rfl hd_yX12_emits ⟨Nat.le_of_ble_eq_true rfl, Nat.le_of_ble_eq_true rfl⟩) ⟨fun a U g mk q => by obtain ⟨q0, qP, qK⟩ := q; exact ⟨q0, mvP g mk a qP, mvK g mk a qK⟩, va_recv hK hP (ci := 14) (q := (RX12, TX12, 23)) (q0 := 0) rfl rfl, fun U hU hW => ⟨rfl, by rw [hU]; exact hPc, va_K.moved hW.alike hKc⟩⟩ rfl rfl hl.1 rfl (lv_room (Nat.le_of_ble_eq_true rfl)) dX12_factor_85 ⟨Nat.le_of_ble_eq_true rfl, Nat.le_of_ble_eq_true rfl⟩).run (fun hw_23 => ?_)
      refine lv_goto (tgt := 101) hx hb dX12_factor_88 (by decide) ?_
      refine lv_aload_n hx hb dX12_factor_101 rfl (lv_at hl 1 rfl) ?_
      refine lv_dup hx hb dX12_factor_102 rfl ?_
      refine va_get (D := (dC, dI)) (ci := 14) (v := .int 3) (C := RX12) (T := TX12) (N := 23) hx hb hts kc_factor2_0 hown hK hP 0 rfl rfl 8 (by decide) (hts (.fieldLink RX12 89 "MistHeapsModel" "open" "I") kc_factor2_2) (fun _ h9 => h9) rfl dX12_factor_103 ?_
      refine lv_iconst (v := 1) hx hb dX12_factor_106 (by decide) ?_
      refine lv_isub hx hb dX12_factor_107 ?_
      refine qi_as (y := 2) (by decide) ?_
      refine va_put (D := (dC, dI)) (ci := 14) (v := .int 2) (ty := .int) (C := RX12) (T := TX12) (N := 23) hx hb hts kc_factor2_0 tyX12 tyX12_ok nmX12 hown hK hP hD hS 0 rfl rfl 8 (by decide) (hts (.fieldLink RX12 89 "MistHeapsModel" "open" "I") kc_factor2_2) (fun _ h9 => h9) rfl (by decide +kernel) rfl rfl (Nat.le_of_ble_eq_true rfl) dX12_factor_108 (fun H locs hP hD hS => ?_)
      have hP : va_P (dC, dI) vwCl [(zo14irriiiiiirriirrrrlriiii m0 th aS aI im (nI a) (nI p_13) (nI E) 1 2 aB aT se dn aG aO aN aD bv aY rn kd nu tv), (zaI aS cS 901 fS9_10)] H := hP
      have hD : va_D A [(zo14irriiiiiirriirrrrlriiii m0 th aS aI im (nI a) (nI p_13) (nI E) 1 2 aB aT se dn aG aO aN aD bv aY rn kd nu tv), (zaI aS cS 901 fS9_10)] := hD
      rw [hQ]
      have hP9 := hP.sub (ws' := [(zo14irriiiiiirriirrrrlriiii m0 th aS aI im (nI a) (nI p_13) (nI E) 1 2 aB aT se dn aG aO aN aD bv aY rn kd nu tv), (zaI aS cS 901 fS9_10)]) [0, 1] rfl
      have hD9 := hD.sub (ws' := [(zo14irriiiiiirriirrrrlriiii m0 th aS aI im (nI a) (nI p_13) (nI E) 1 2 aB aT se dn aG aO aN aD bv aY rn kd nu tv), (zaI aS cS 901 fS9_10)]) [0, 1] (by decide) rfl
      have hK9 := hK.sub (tys' := [(cS, .int)]) [0] rfl
      exact W.vret hx hb hr (fun tQ htQ hWQ => ⟨⟨(fS9_10, (nI p_13), 1), rfl, ⟨p_13, rfl, by omega, by omega, (PF.rf).tr hF_18, Or.inl ⟨rfl, pf_n0 (l := 2) hs eP_15⟩⟩, by rw [htQ]; exact hP9, va_K.moved hWQ.alike hK9, hD9⟩, hS.F htQ⟩) hS.2.2 dX12_factor_111
    · skip
      have k5 := hI_20.2.2.2.2.1
      have hqL_14 : (K ++ L_14).length = K.length + L_14.length := List.length_append
      refine lv_aload_n hx hb dX12_factor_83 rfl (lv_at hl 1 rfl) ?_
      refine lv_iconst (v := (-1)) hx hb dX12_factor_84 (by decide) ?_
      have hPc := hP.sub (ws' := [(zo14irriiiiiirriirrrrlriiii m0 th aS aI im (nI a) (nI p_13) (nI E) 0 3 aB aT se dn aG aO aN aD bv aY rn kd nu tv), (zaI aS cS 901 fS9_10)]) [0, 1] rfl
      have hDc := hD.sub (ws' := [(zo14irriiiiiirriirrrrlriiii m0 th aS aI im (nI a) (nI p_13) (nI E) 0 3 aB aT se dn aG aO aN aD bv aY rn kd nu tv), (zaI aS cS 901 fS9_10)]) [0, 1] (by decide) rfl
      have hKc := hK.sub (tys' := [(cS, .int)]) [0] rfl
      have hFc := va_free (wc := [(zo14irriiiiiirriirrrrlriiii m0 th aS aI im (nI a) (nI p_13) (nI E) 0 3 aB aT se dn aG aO aN aD bv aY rn kd nu tv), (zaI aS cS 901 fS9_10)]) hD hS hA [0, 1] rfl
      refine va_callv (va_runV (As := [.int (-1)]) (rest := []) ⟨hx, hb, hml, hown, hts⟩ (c_emits l dC dI m0 aS aI aB aT aG aO aN aD aY th im (nI a) (nI p_13) (nI E) 0 3 se dn rn kd nu tv bv cS fS9_10 a (K ++ L_14).length (-1) H.size (ga) ((hI_20).2.2.2.1) (by have := (hI_20).2.2.2.2.1; omega)) (cwV 1 hts gX12_factor_X12_emits rfl rfl rfl hd_yX12_emits ⟨Nat.le_of_ble_eq_true rfl, Nat.le_of_ble_eq_true rfl⟩) ⟨fun a U g mk q => by obtain ⟨q0, q1, qP, qK, qD⟩ := q; exact ⟨q0, mvz g mk a q1, mvP g mk a qP, mvK g mk a qK, qD⟩, va_recv hK hP (ci := 14) (q := (RX12, TX12, 23)) (q0 := 0) rfl rfl, fun U hU hW => ⟨rfl, by rw [hU], by rw [hU]; exact hPc, va_K.moved hW.alike hKc, hDc.weaken (fun _ _ _ _ => trivial)⟩⟩ rfl rfl hl.1 rfl (lv_room (Nat.le_of_ble_eq_true rfl)) dX12_factor_85 ⟨Nat.le_of_ble_eq_true rfl, Nat.le_of_ble_eq_true rfl⟩) hS (fun q _ h => hFc q h) hFc (fun u tC H1 locs htC hvm hw_25 hB hz1 hk1 hS => ?_)
      obtain ⟨fS9_26, rfl⟩ : ∃ z, z = u := ⟨_, rfl⟩
      try dsimp only at hw_25 hB
      obtain ⟨hP1, hK1, hD1⟩ := hB
      rw [htC] at hP1
      have hK1 := va_K.moved hvm.symm hK1
      obtain ⟨hP, hD⟩ := va_join (wr := []) (w1 := [(zo14irriiiiiirriirrrrlriiii m0 th aS aI im (nI a) (nI p_13) (nI E) 0 3 aB aT se dn aG aO aN aD bv aY rn kd nu tv), (zaI aS cS 901 fS9_26)]) hP hD [0, 1] [] rfl rfl (by decide) (by decide) hk1 hFc hP1 hD1
      have hK := (hK.sub (tys' := []) [] rfl).app hK1
      generalize H1 = H at hP hS ⊢
      have hP : va_P (dC, dI) vwCl [(zo14irriiiiiirriirrrrlriiii m0 th aS aI im (nI a) (nI p_13) (nI E) 0 3 aB aT se dn aG aO aN aD bv aY rn kd nu tv), (zaI aS cS 901 fS9_26)] H := hP
      have hD : va_D A [(zo14irriiiiiirriirrrrlriiii m0 th aS aI im (nI a) (nI p_13) (nI E) 0 3 aB aT se dn aG aO aN aD bv aY rn kd nu tv), (zaI aS cS 901 fS9_26)] := hD
      have hK : va_K (dC, dI) vwCl [(cS, .int)] s := hK
      obtain rfl : fS9_26 = emt fS9_10 a (K ++ L_14).length (-1) := by rcases hw_25 with ⟨q, _⟩ | ⟨_, q⟩; exact absurd rfl q; exact q
      have hI_27 : PI (emt fS9_10 a (K ++ L_14).length (-1)) a ((K ++ L_14) ++ [1801]) (d + 1) p_13 E := PI.em (t := 1801) ((hI_20).mono (by omega) (by omega)) (by omega) (by omega) (stepd_not (by omega)) (by decide)
      have hF_28 : PF a fS (emt fS9_10 a (K ++ L_14).length (-1)) := ((PF.rf).tr hF_18).tr (PF_emt (k := (K ++ L_14).length) (x := (-1)) ga (by have := (hI_20).2.2.2.2.1; omega))
      have hKhI_27 : ((K ++ L_14) ++ [1801]).length = (K ++ L_14).length + 1 := by rw [List.length_append]; rfl
      refine lv_goto (tgt := 101) hx hb dX12_factor_88 (by decide) ?_
      refine lv_aload_n hx hb dX12_factor_101 rfl (lv_at hl 1 rfl) ?_
      refine lv_dup hx hb dX12_factor_102 rfl ?_
      refine va_get (D := (dC, dI)) (ci := 14) (v := .int 3) (C := RX12) (T := TX12) (N := 23) hx hb hts kc_factor2_0 hown hK hP 0 rfl rfl 8 (by decide) (hts (.fieldLink RX12 89 "MistHeapsModel" "open" "I") kc_factor2_2) (fun _ h9 => h9) rfl dX12_factor_103 ?_
      refine lv_iconst (v := 1) hx hb dX12_factor_106 (by decide) ?_
      refine lv_isub hx hb dX12_factor_107 ?_
      refine qi_as (y := 2) (by decide) ?_
      refine va_put (D := (dC, dI)) (ci := 14) (v := .int 2) (ty := .int) (C := RX12) (T := TX12) (N := 23) hx hb hts kc_factor2_0 tyX12 tyX12_ok nmX12 hown hK hP hD hS 0 rfl rfl 8 (by decide) (hts (.fieldLink RX12 89 "MistHeapsModel" "open" "I") kc_factor2_2) (fun _ h9 => h9) rfl (by decide +kernel) rfl rfl (Nat.le_of_ble_eq_true rfl) dX12_factor_108 (fun H locs hP hD hS => ?_)
      have hP : va_P (dC, dI) vwCl [(zo14irriiiiiirriirrrrlriiii m0 th aS aI im (nI a) (nI p_13) (nI E) 0 2 aB aT se dn aG aO aN aD bv aY rn kd nu tv), (zaI aS cS 901 (emt fS9_10 a (K ++ L_14).length (-1)))] H := hP
      have hD : va_D A [(zo14irriiiiiirriirrrrlriiii m0 th aS aI im (nI a) (nI p_13) (nI E) 0 2 aB aT se dn aG aO aN aD bv aY rn kd nu tv), (zaI aS cS 901 (emt fS9_10 a (K ++ L_14).length (-1)))] := hD
      rw [hQ]
      have hP9 := hP.sub (ws' := [(zo14irriiiiiirriirrrrlriiii m0 th aS aI im (nI a) (nI p_13) (nI E) 0 2 aB aT se dn aG aO aN aD bv aY rn kd nu tv), (zaI aS cS 901 (emt fS9_10 a (K ++ L_14).length (-1)))]) [0, 1] rfl
      have hD9 := hD.sub (ws' := [(zo14irriiiiiirriirrrrlriiii m0 th aS aI im (nI a) (nI p_13) (nI E) 0 2 aB aT se dn aG aO aN aD bv aY rn kd nu tv), (zaI aS cS 901 (emt fS9_10 a (K ++ L_14).length (-1)))]) [0, 1] (by decide) rfl
      have hK9 := hK.sub (tys' := [(cS, .int)]) [0] rfl
      exact W.vret hx hb hr (fun tQ htQ hWQ => ⟨⟨((emt fS9_10 a (K ++ L_14).length (-1)), (nI p_13), 0), rfl, ⟨p_13, rfl, by omega, by omega, hF_28, Or.inr ⟨rfl, (L_14 ++ [1801]), pf_n1 (l := 2) hs eP_15, by omega, PI.as ((hI_27).mono (by omega) (by omega)), by (try simp only [List.length_append, List.length_cons, List.length_nil]); omega⟩⟩, by rw [htQ]; exact hP9, va_K.moved hWQ.alike hK9, hD9⟩, hS.F htQ⟩) hS.2.2 dX12_factor_111
  · skip
    have hn33 : ¬ ss p0 = 33 := fun z => c_4 (hw_3.trans ((gT.eq (c := 33) (by omega) (by omega)).mpr z))
    refine lv_iload_n hx hb dX12_factor_19 rfl (lv_at hl 0 rfl) ?_
    refine lv_bipush (v := 40) hx hb dX12_factor_20 (by decide) ?_
    refine lv_icmp_ne (tgt := 112) hx hb dX12_factor_22 (by decide) (fun c_29 => ?_) (fun c_29 => ?_)
    · skip
      have hn40 : ¬ ss p0 = 40 := fun z => c_29 (hw_3.trans ((gT.eq (c := 40) (by omega) (by omega)).mpr z))
      refine lv_aload_n hx hb dX12_factor_112 rfl (lv_at hl 1 rfl) ?_
      refine va_ldcS hx hb hown (show vk_R RX12 101 "hkrcms" (sK 6) s from hE.1 6 (by decide)) dX12_factor_113 ?_
      have hPc := hP.sub (ws' := [(zo14irriiiiiirriirrrrlriiii m0 th aS aI im (nI a) (nI p0) (nI E) 0 2 aB aT se dn aG aO aN aD bv aY rn kd nu tv), (zaI aS cS 901 fS)]) [0, 1] rfl
      have hDc := hD.sub (ws' := [(zo14irriiiiiirriirrrrlriiii m0 th aS aI im (nI a) (nI p0) (nI E) 0 2 aB aT se dn aG aO aN aD bv aY rn kd nu tv), (zaI aS cS 901 fS)]) [0, 1] (by decide) rfl
      have hKc := hK.sub (tys' := [(cS, .int)]) [0] rfl
      have hFc := va_free (wc := [(zo14irriiiiiirriirrrrlriiii m0 th aS aI im (nI a) (nI p0) (nI E) 0 2 aB aT se dn aG aO aN aD bv aY rn kd nu tv), (zaI aS cS 901 fS)]) hD hS hA [0, 1] rfl
      refine va_calli (va_runV (As := [.ref (sK 6)]) (rest := []) ⟨hx, hb, hml, hown, hts⟩ (c_among l dC dI sK sV m0 aS aI aB aT aG aO aN aD aY th im (nI a) (nI p0) (nI E) 0 2 se dn rn kd nu tv bv cS fS a p0 E 6 ss H.size (by omega) (by omega) (by omega) (by decide) (gT)) (cwV 1 hts gX12_factor_X12_among rfl rfl rfl hd_yX12_among ⟨Nat.le_of_ble_eq_true rfl, Nat.le_of_ble_eq_true rfl⟩) ⟨fun a U g mk q => by obtain ⟨q0, q1, qP, qK, qD, qhE⟩ := q; exact ⟨q0, mvz g mk a q1, mvP g mk a qP, mvK g mk a qK, qD, qhE.mv g mk a⟩, va_recv hK hP (ci := 14) (q := (RX12, TX12, 23)) (q0 := 0) rfl rfl, fun U hU hW => ⟨rfl, by rw [hU], by rw [hU]; exact hPc, va_K.moved hW.alike hKc, hDc.weaken (fun _ _ _ _ => trivial), hE.call hS hU hW (fun q h => hFc q h)⟩⟩ rfl rfl hl.1 rfl (lv_room (Nat.le_of_ble_eq_true rfl)) dX12_factor_115 ⟨Nat.le_of_ble_eq_true rfl, Nat.le_of_ble_eq_true rfl⟩) hS (fun q _ h => hFc q h) hFc (fun r_30 u tC H1 locs htC hvm hw_31 hB hz1 hk1 hS => ?_)
      obtain ⟨sp9_32, rfl⟩ : ∃ z, z = u := ⟨_, rfl⟩
      try dsimp only at hw_31 hB
      obtain ⟨hP1, hK1, hD1⟩ := hB
      rw [htC] at hP1
      have hK1 := va_K.moved hvm.symm hK1
      obtain ⟨hP, hD⟩ := va_join (wr := []) (w1 := [(zo14irriiiiiirriirrrrlriiii m0 th aS aI im (nI a) sp9_32 (nI E) 0 2 aB aT se dn aG aO aN aD bv aY rn kd nu tv), (zaI aS cS 901 fS)]) hP hD [0, 1] [] rfl rfl (by decide) (by decide) hk1 hFc hP1 hD1
      have hK := (hK.sub (tys' := []) [] rfl).app hK1
      generalize H1 = H at hP hS ⊢
      have hP : va_P (dC, dI) vwCl [(zo14irriiiiiirriirrrrlriiii m0 th aS aI im (nI a) sp9_32 (nI E) 0 2 aB aT se dn aG aO aN aD bv aY rn kd nu tv), (zaI aS cS 901 fS)] H := hP
      have hD : va_D A [(zo14irriiiiiirriirrrrlriiii m0 th aS aI im (nI a) sp9_32 (nI E) 0 2 aB aT se dn aG aO aN aD bv aY rn kd nu tv), (zaI aS cS 901 fS)] := hD
      have hK : va_K (dC, dI) vwCl [(cS, .int)] s := hK
      rcases hw_31 with ⟨rfl, rfl, h_36⟩ | ⟨j_33, hj_34, rfl, h_35, rfl, h_36⟩
      · skip
        have hx6 := am6_n (fun q hq => h_36 q hq)
        refine lv_istore_n (lv' := [(2, .int (-1)), (1, .int r_2), (0, .ref m0)]) hx hb dX12_factor_118 rfl hl (by decide) rfl (fun ls hl => ?_)
        refine lv_aload_n hx hb dX12_factor_119 rfl (lv_at hl 2 rfl) ?_
        refine lv_iload_n hx hb dX12_factor_120 rfl (lv_at hl 0 rfl) ?_
        refine lv_iconst (v := (-1)) hx hb dX12_factor_121 (by decide) ?_
        refine lv_icmp_ne (tgt := 129) hx hb dX12_factor_122 (by decide) (fun c_37 => absurd c_37 (by decide)) (fun _ => ?_)
        refine lv_iconst (v := 1) hx hb dX12_factor_125 (by decide) ?_
        refine lv_goto (tgt := 130) hx hb dX12_factor_126 (by decide) ?_
        refine va_put (D := (dC, dI)) (ci := 14) (v := .int 1) (ty := .boolean) (C := RX12) (T := TX12) (N := 23) hx hb hts kc_factor2_0 tyX12 tyX12_ok nmX12 hown hK hP hD hS 0 rfl rfl 7 (by decide) (hts (.fieldLink RX12 65 "MistHeapsModel" "isWrong" "Z") kc_factor2_1) (fun _ h9 => h9) rfl (by decide +kernel) rfl rfl (Nat.le_of_ble_eq_true rfl) dX12_factor_130 (fun H locs hP hD hS => ?_)
        have hP : va_P (dC, dI) vwCl [(zo14irriiiiiirriirrrrlriiii m0 th aS aI im (nI a) (nI p0) (nI E) 1 2 aB aT se dn aG aO aN aD bv aY rn kd nu tv), (zaI aS cS 901 fS)] H := hP
        have hD : va_D A [(zo14irriiiiiirriirrrrlriiii m0 th aS aI im (nI a) (nI p0) (nI E) 1 2 aB aT se dn aG aO aN aD bv aY rn kd nu tv), (zaI aS cS 901 fS)] := hD
        refine lv_aload_n hx hb dX12_factor_133 rfl (lv_at hl 2 rfl) ?_
        refine va_get (D := (dC, dI)) (ci := 14) (v := .int 1) (C := RX12) (T := TX12) (N := 23) hx hb hts kc_factor2_0 hown hK hP 0 rfl rfl 7 (by decide) (hts (.fieldLink RX12 65 "MistHeapsModel" "isWrong" "Z") kc_factor2_1) (fun _ h9 => h9) rfl dX12_factor_134 ?_
        refine lv_if_eq (tgt := 144) hx hb dX12_factor_137 (by decide) (fun c_38 => absurd c_38 (by decide)) (fun _ => ?_)
        refine lv_iconst (v := 0) hx hb dX12_factor_140 (by decide) ?_
        refine lv_goto (tgt := 150) hx hb dX12_factor_141 (by decide) ?_
        refine lv_istore_n (lv' := [(3, .int 0), (2, .int (-1)), (1, .int r_2), (0, .ref m0)]) hx hb dX12_factor_150 rfl hl (by decide) rfl (fun ls hl => ?_)
        refine lv_aload_n hx hb dX12_factor_151 rfl (lv_at hl 3 rfl) ?_
        refine lv_aload_n hx hb dX12_factor_152 rfl (lv_at hl 3 rfl) ?_
        refine va_get (D := (dC, dI)) (ci := 14) (v := .int 1) (C := RX12) (T := TX12) (N := 23) hx hb hts kc_factor2_0 hown hK hP 0 rfl rfl 7 (by decide) (hts (.fieldLink RX12 65 "MistHeapsModel" "isWrong" "Z") kc_factor2_1) (fun _ h9 => h9) rfl dX12_factor_153 ?_
        refine lv_if_ne (tgt := 164) hx hb dX12_factor_156 (by decide) (fun _ => ?_) (fun c_39 => absurd c_39 (by decide))
        refine lv_iconst (v := 1) hx hb dX12_factor_164 (by decide) ?_
        refine lv_goto (tgt := 169) hx hb dX12_factor_165 (by decide) ?_
        refine va_put (D := (dC, dI)) (ci := 14) (v := .int 1) (ty := .boolean) (C := RX12) (T := TX12) (N := 23) hx hb hts kc_factor2_0 tyX12 tyX12_ok nmX12 hown hK hP hD hS 0 rfl rfl 7 (by decide) (hts (.fieldLink RX12 65 "MistHeapsModel" "isWrong" "Z") kc_factor2_1) (fun _ h9 => h9) rfl (by decide +kernel) rfl rfl (Nat.le_of_ble_eq_true rfl) dX12_factor_169 (fun H locs hP hD hS => ?_)
        have hP : va_P (dC, dI) vwCl [(zo14irriiiiiirriirrrrlriiii m0 th aS aI im (nI a) (nI p0) (nI E) 1 2 aB aT se dn aG aO aN aD bv aY rn kd nu tv), (zaI aS cS 901 fS)] H := hP
        have hD : va_D A [(zo14irriiiiiirriirrrrlriiii m0 th aS aI im (nI a) (nI p0) (nI E) 1 2 aB aT se dn aG aO aN aD bv aY rn kd nu tv), (zaI aS cS 901 fS)] := hD
        refine lv_aload_n hx hb dX12_factor_172 rfl (lv_at hl 3 rfl) ?_
        have hPc := hP.sub (ws' := [(zo14irriiiiiirriirrrrlriiii m0 th aS aI im (nI a) (nI p0) (nI E) 1 2 aB aT se dn aG aO aN aD bv aY rn kd nu tv), (zaI aS cS 901 fS)]) [0, 1] rfl
        have hDc := hD.sub (ws' := [(zo14irriiiiiirriirrrrlriiii m0 th aS aI im (nI a) (nI p0) (nI E) 1 2 aB aT se dn aG aO aN aD bv aY rn kd nu tv), (zaI aS cS 901 fS)]) [0, 1] (by decide) rfl
        have hKc := hK.sub (tys' := [(cS, .int)]) [0] rfl
        have hFc := va_free (wc := [(zo14irriiiiiirriirrrrlriiii m0 th aS aI im (nI a) (nI p0) (nI E) 1 2 aB aT se dn aG aO aN aD bv aY rn kd nu tv), (zaI aS cS 901 fS)]) hD hS hA [0, 1] rfl
        refine va_calli (va_runV (As := []) (rest := []) ⟨hx, hb, hml, hown, hts⟩ (c_figures l dC dI m0 aS aI aB aT aG aO aN aD aY th im (nI a) (nI p0) (nI E) 1 2 se dn rn kd nu tv bv cS fS a p0 E ss H.size (by omega) (by omega) (by omega) (Or.inr rfl) (gT)) (cwV 0 hts gX12_factor_X12_figures rfl rfl rfl hd_yX12_figures ⟨Nat.le_of_ble_eq_true rfl, Nat.le_of_ble_eq_true rfl⟩) ⟨fun a U g mk q => by obtain ⟨q0, q1, qP, qK, qD⟩ := q; exact ⟨q0, mvz g mk a q1, mvP g mk a qP, mvK g mk a qK, qD⟩, va_recv hK hP (ci := 14) (q := (RX12, TX12, 23)) (q0 := 0) rfl rfl, fun U hU hW => ⟨rfl, by rw [hU], by rw [hU]; exact hPc, va_K.moved hW.alike hKc, hDc.weaken (fun _ _ _ _ => trivial)⟩⟩ rfl rfl hl.1 rfl (lv_room (Nat.le_of_ble_eq_true rfl)) dX12_factor_173 ⟨Nat.le_of_ble_eq_true rfl, Nat.le_of_ble_eq_true rfl⟩) hS (fun q _ h => hFc q h) hFc (fun r_40 u tC H1 locs htC hvm hw_41 hB hz1 hk1 hS => ?_)
        obtain ⟨sp9_42, wg9_43⟩ := u
        try dsimp only at hw_41 hB
        obtain ⟨hP1, hK1, hD1⟩ := hB
        rw [htC] at hP1
        have hK1 := va_K.moved hvm.symm hK1
        obtain ⟨hP, hD⟩ := va_join (wr := []) (w1 := [(zo14irriiiiiirriirrrrlriiii m0 th aS aI im (nI a) sp9_42 (nI E) wg9_43 2 aB aT se dn aG aO aN aD bv aY rn kd nu tv), (zaI aS cS 901 fS)]) hP hD [0, 1] [] rfl rfl (by decide) (by decide) hk1 hFc hP1 hD1
        have hK := (hK.sub (tys' := []) [] rfl).app hK1
        generalize H1 = H at hP hS ⊢
        have hP : va_P (dC, dI) vwCl [(zo14irriiiiiirriirrrrlriiii m0 th aS aI im (nI a) sp9_42 (nI E) wg9_43 2 aB aT se dn aG aO aN aD bv aY rn kd nu tv), (zaI aS cS 901 fS)] H := hP
        have hD : va_D A [(zo14irriiiiiirriirrrrlriiii m0 th aS aI im (nI a) sp9_42 (nI E) wg9_43 2 aB aT se dn aG aO aN aD bv aY rn kd nu tv), (zaI aS cS 901 fS)] := hD
        have hK : va_K (dC, dI) vwCl [(cS, .int)] s := hK
        rcases hw_41 with ⟨rfl, rfl, hN_51, v_44, h_46, rfl⟩ | ⟨rfl, h_50, v_44, p_45, h_46, h_47, h_48, rfl, rfl, hN_51⟩
        · skip
          refine lv_istore (lv' := [(4, .int (nI v_44)), (3, .int 0), (2, .int (-1)), (1, .int r_2), (0, .ref m0)]) hx hb dX12_factor_176 hl (by decide) rfl (fun ls hl => ?_)
          refine lv_aload_n hx hb dX12_factor_178 rfl (lv_at hl 4 rfl) ?_
          refine lv_iload_n hx hb dX12_factor_179 rfl (lv_at hl 2 rfl) ?_
          refine lv_bipush (v := 8) hx hb dX12_factor_180 (by decide) ?_
          refine lv_iload_n hx hb dX12_factor_182 rfl (lv_at hl 1 rfl) ?_
          refine lv_imul hx hb dX12_factor_183 ?_
          refine qi_as (y := 0) (by decide) ?_
          refine lv_iadd hx hb dX12_factor_184 ?_
          refine qi_as (y := (-1)) (by decide) ?_
          refine lv_bipush (v := 32) hx hb dX12_factor_185 (by decide) ?_
          refine lv_iload hx hb dX12_factor_187 (lv_at hl 0 rfl) ?_
          refine lv_imul hx hb dX12_factor_189 ?_
          refine qi_as (y := nI (32 * v_44)) (pk_mul 32 v_44) ?_
          refine lv_iadd hx hb dX12_factor_190 ?_
          have hPc := hP.sub (ws' := [(zo14irriiiiiirriirrrrlriiii m0 th aS aI im (nI a) (nI p0) (nI E) 1 2 aB aT se dn aG aO aN aD bv aY rn kd nu tv)]) [0] rfl
          have hKc := hK.sub (tys' := []) [] rfl
          refine va_csv (va_runV (As := [.int ((-1) + (nI (32 * v_44)))]) (rest := []) ⟨hx, hb, hml, hown, hts⟩ (c_emitsW l dC dI m0 aS aI aB aT aG aO aN aD aY th im (nI a) (nI p0) (nI E) 1 2 se dn rn kd nu tv bv ((-1) + (nI (32 * v_44)))) (cwV 1 hts gX12_factor_X12_emits rfl rfl rfl hd_yX12_emits ⟨Nat.le_of_ble_eq_true rfl, Nat.le_of_ble_eq_true rfl⟩) ⟨fun a U g mk q => by obtain ⟨q0, qP, qK⟩ := q; exact ⟨q0, mvP g mk a qP, mvK g mk a qK⟩, va_recv hK hP (ci := 14) (q := (RX12, TX12, 23)) (q0 := 0) rfl rfl, fun U hU hW => ⟨rfl, by rw [hU]; exact hPc, va_K.moved hW.alike hKc⟩⟩ rfl rfl hl.1 rfl (lv_room (Nat.le_of_ble_eq_true rfl)) dX12_factor_191 ⟨Nat.le_of_ble_eq_true rfl, Nat.le_of_ble_eq_true rfl⟩).run (fun hw_53 => ?_)
          rw [hQ]
          have hP9 := hP.sub (ws' := [(zo14irriiiiiirriirrrrlriiii m0 th aS aI im (nI a) (nI p0) (nI E) 1 2 aB aT se dn aG aO aN aD bv aY rn kd nu tv), (zaI aS cS 901 fS)]) [0, 1] rfl
          have hD9 := hD.sub (ws' := [(zo14irriiiiiirriirrrrlriiii m0 th aS aI im (nI a) (nI p0) (nI E) 1 2 aB aT se dn aG aO aN aD bv aY rn kd nu tv), (zaI aS cS 901 fS)]) [0, 1] (by decide) rfl
          have hK9 := hK.sub (tys' := [(cS, .int)]) [0] rfl
          exact W.vret hx hb hr (fun tQ htQ hWQ => ⟨⟨(fS, (nI p0), 1), rfl, ⟨p0, rfl, by omega, by omega, PF.rf, Or.inl ⟨rfl, (pf_t hn33 hn40).trans (pt_1 hx6)⟩⟩, by rw [htQ]; exact hP9, va_K.moved hWQ.alike hK9, hD9⟩, hS.F htQ⟩) hS.2.2 dX12_factor_194
        · skip
          exact absurd h_50 (by decide)
      · skip
        have hj_34 : j_33 < 6 := hj_34
        have hx6 := am6_y hj_34 h_36
        refine lv_istore_n (lv' := [(2, .int (nI j_33)), (1, .int r_2), (0, .ref m0)]) hx hb dX12_factor_118 rfl hl (by decide) rfl (fun ls hl => ?_)
        refine lv_aload_n hx hb dX12_factor_119 rfl (lv_at hl 2 rfl) ?_
        refine lv_iload_n hx hb dX12_factor_120 rfl (lv_at hl 0 rfl) ?_
        refine lv_iconst (v := (-1)) hx hb dX12_factor_121 (by decide) ?_
        refine lv_icmp_ne (tgt := 129) hx hb dX12_factor_122 (by decide) (fun c_54 => ?_) (fun c_54 => absurd c_54 (nI_nm1 (by omega)))
        refine lv_iconst (v := 0) hx hb dX12_factor_129 (by decide) ?_
        refine va_put (D := (dC, dI)) (ci := 14) (v := .int 0) (ty := .boolean) (C := RX12) (T := TX12) (N := 23) hx hb hts kc_factor2_0 tyX12 tyX12_ok nmX12 hown hK hP hD hS 0 rfl rfl 7 (by decide) (hts (.fieldLink RX12 65 "MistHeapsModel" "isWrong" "Z") kc_factor2_1) (fun _ h9 => h9) rfl (by decide +kernel) rfl rfl (Nat.le_of_ble_eq_true rfl) dX12_factor_130 (fun H locs hP hD hS => ?_)
        have hP : va_P (dC, dI) vwCl [(zo14irriiiiiirriirrrrlriiii m0 th aS aI im (nI a) (nI (p0 + 1)) (nI E) 0 2 aB aT se dn aG aO aN aD bv aY rn kd nu tv), (zaI aS cS 901 fS)] H := hP
        have hD : va_D A [(zo14irriiiiiirriirrrrlriiii m0 th aS aI im (nI a) (nI (p0 + 1)) (nI E) 0 2 aB aT se dn aG aO aN aD bv aY rn kd nu tv), (zaI aS cS 901 fS)] := hD
        refine lv_aload_n hx hb dX12_factor_133 rfl (lv_at hl 2 rfl) ?_
        refine va_get (D := (dC, dI)) (ci := 14) (v := .int 0) (C := RX12) (T := TX12) (N := 23) hx hb hts kc_factor2_0 hown hK hP 0 rfl rfl 7 (by decide) (hts (.fieldLink RX12 65 "MistHeapsModel" "isWrong" "Z") kc_factor2_1) (fun _ h9 => h9) rfl dX12_factor_134 ?_
        refine lv_if_eq (tgt := 144) hx hb dX12_factor_137 (by decide) (fun _ => ?_) (fun c_55 => absurd c_55 (by decide))
        refine lv_aload_n hx hb dX12_factor_144 rfl (lv_at hl 2 rfl) ?_
        refine va_ldcS hx hb hown (show vk_R RX12 107 "<=>" (sK 7) s from hE.1 7 (by decide)) dX12_factor_145 ?_
        have hPc := hP.sub (ws' := [(zo14irriiiiiirriirrrrlriiii m0 th aS aI im (nI a) (nI (p0 + 1)) (nI E) 0 2 aB aT se dn aG aO aN aD bv aY rn kd nu tv), (zaI aS cS 901 fS)]) [0, 1] rfl
        have hDc := hD.sub (ws' := [(zo14irriiiiiirriirrrrlriiii m0 th aS aI im (nI a) (nI (p0 + 1)) (nI E) 0 2 aB aT se dn aG aO aN aD bv aY rn kd nu tv), (zaI aS cS 901 fS)]) [0, 1] (by decide) rfl
        have hKc := hK.sub (tys' := [(cS, .int)]) [0] rfl
        have hFc := va_free (wc := [(zo14irriiiiiirriirrrrlriiii m0 th aS aI im (nI a) (nI (p0 + 1)) (nI E) 0 2 aB aT se dn aG aO aN aD bv aY rn kd nu tv), (zaI aS cS 901 fS)]) hD hS hA [0, 1] rfl
        refine va_calli (va_runV (As := [.ref (sK 7)]) (rest := []) ⟨hx, hb, hml, hown, hts⟩ (c_among l dC dI sK sV m0 aS aI aB aT aG aO aN aD aY th im (nI a) (nI (p0 + 1)) (nI E) 0 2 se dn rn kd nu tv bv cS fS a (p0 + 1) E 7 ss H.size (by omega) (by omega) (by omega) (by decide) (gT)) (cwV 1 hts gX12_factor_X12_among rfl rfl rfl hd_yX12_among ⟨Nat.le_of_ble_eq_true rfl, Nat.le_of_ble_eq_true rfl⟩) ⟨fun a U g mk q => by obtain ⟨q0, q1, qP, qK, qD, qhE⟩ := q; exact ⟨q0, mvz g mk a q1, mvP g mk a qP, mvK g mk a qK, qD, qhE.mv g mk a⟩, va_recv hK hP (ci := 14) (q := (RX12, TX12, 23)) (q0 := 0) rfl rfl, fun U hU hW => ⟨rfl, by rw [hU], by rw [hU]; exact hPc, va_K.moved hW.alike hKc, hDc.weaken (fun _ _ _ _ => trivial), hE.call hS hU hW (fun q h => hFc q h)⟩⟩ rfl rfl hl.1 rfl (lv_room (Nat.le_of_ble_eq_true rfl)) dX12_factor_147 ⟨Nat.le_of_ble_eq_true rfl, Nat.le_of_ble_eq_true rfl⟩) hS (fun q _ h => hFc q h) hFc (fun r_56 u tC H1 locs htC hvm hw_57 hB hz1 hk1 hS => ?_)
        obtain ⟨sp9_58, rfl⟩ : ∃ z, z = u := ⟨_, rfl⟩
        try dsimp only at hw_57 hB
        obtain ⟨hP1, hK1, hD1⟩ := hB
        rw [htC] at hP1
        have hK1 := va_K.moved hvm.symm hK1
        obtain ⟨hP, hD⟩ := va_join (wr := []) (w1 := [(zo14irriiiiiirriirrrrlriiii m0 th aS aI im (nI a) sp9_58 (nI E) 0 2 aB aT se dn aG aO aN aD bv aY rn kd nu tv), (zaI aS cS 901 fS)]) hP hD [0, 1] [] rfl rfl (by decide) (by decide) hk1 hFc hP1 hD1
        have hK := (hK.sub (tys' := []) [] rfl).app hK1
        generalize H1 = H at hP hS ⊢
        have hP : va_P (dC, dI) vwCl [(zo14irriiiiiirriirrrrlriiii m0 th aS aI im (nI a) sp9_58 (nI E) 0 2 aB aT se dn aG aO aN aD bv aY rn kd nu tv), (zaI aS cS 901 fS)] H := hP
        have hD : va_D A [(zo14irriiiiiirriirrrrlriiii m0 th aS aI im (nI a) sp9_58 (nI E) 0 2 aB aT se dn aG aO aN aD bv aY rn kd nu tv), (zaI aS cS 901 fS)] := hD
        have hK : va_K (dC, dI) vwCl [(cS, .int)] s := hK
        rcases hw_57 with ⟨rfl, rfl, h_62⟩ | ⟨j_59, hj_60, rfl, h_61, rfl, h_62⟩
        · skip
          have hx3 := am3_n (fun q hq => h_62 q hq)
          refine lv_istore_n (lv' := [(3, .int (-1)), (2, .int (nI j_33)), (1, .int r_2), (0, .ref m0)]) hx hb dX12_factor_150 rfl hl (by decide) rfl (fun ls hl => ?_)
          refine lv_aload_n hx hb dX12_factor_151 rfl (lv_at hl 3 rfl) ?_
          refine lv_aload_n hx hb dX12_factor_152 rfl (lv_at hl 3 rfl) ?_
          refine va_get (D := (dC, dI)) (ci := 14) (v := .int 0) (C := RX12) (T := TX12) (N := 23) hx hb hts kc_factor2_0 hown hK hP 0 rfl rfl 7 (by decide) (hts (.fieldLink RX12 65 "MistHeapsModel" "isWrong" "Z") kc_factor2_1) (fun _ h9 => h9) rfl dX12_factor_153 ?_
          refine lv_if_ne (tgt := 164) hx hb dX12_factor_156 (by decide) (fun c_63 => absurd c_63 (by decide)) (fun _ => ?_)
          refine lv_iload_n hx hb dX12_factor_159 rfl (lv_at hl 0 rfl) ?_
          refine lv_iconst (v := (-1)) hx hb dX12_factor_160 (by decide) ?_
          refine lv_icmp_ne (tgt := 168) hx hb dX12_factor_161 (by decide) (fun c_64 => absurd c_64 (by decide)) (fun _ => ?_)
          refine lv_iconst (v := 1) hx hb dX12_factor_164 (by decide) ?_
          refine lv_goto (tgt := 169) hx hb dX12_factor_165 (by decide) ?_
          refine va_put (D := (dC, dI)) (ci := 14) (v := .int 1) (ty := .boolean) (C := RX12) (T := TX12) (N := 23) hx hb hts kc_factor2_0 tyX12 tyX12_ok nmX12 hown hK hP hD hS 0 rfl rfl 7 (by decide) (hts (.fieldLink RX12 65 "MistHeapsModel" "isWrong" "Z") kc_factor2_1) (fun _ h9 => h9) rfl (by decide +kernel) rfl rfl (Nat.le_of_ble_eq_true rfl) dX12_factor_169 (fun H locs hP hD hS => ?_)
          have hP : va_P (dC, dI) vwCl [(zo14irriiiiiirriirrrrlriiii m0 th aS aI im (nI a) (nI (p0 + 1)) (nI E) 1 2 aB aT se dn aG aO aN aD bv aY rn kd nu tv), (zaI aS cS 901 fS)] H := hP
          have hD : va_D A [(zo14irriiiiiirriirrrrlriiii m0 th aS aI im (nI a) (nI (p0 + 1)) (nI E) 1 2 aB aT se dn aG aO aN aD bv aY rn kd nu tv), (zaI aS cS 901 fS)] := hD
          refine lv_aload_n hx hb dX12_factor_172 rfl (lv_at hl 3 rfl) ?_
          have hPc := hP.sub (ws' := [(zo14irriiiiiirriirrrrlriiii m0 th aS aI im (nI a) (nI (p0 + 1)) (nI E) 1 2 aB aT se dn aG aO aN aD bv aY rn kd nu tv), (zaI aS cS 901 fS)]) [0, 1] rfl
          have hDc := hD.sub (ws' := [(zo14irriiiiiirriirrrrlriiii m0 th aS aI im (nI a) (nI (p0 + 1)) (nI E) 1 2 aB aT se dn aG aO aN aD bv aY rn kd nu tv), (zaI aS cS 901 fS)]) [0, 1] (by decide) rfl
          have hKc := hK.sub (tys' := [(cS, .int)]) [0] rfl
          have hFc := va_free (wc := [(zo14irriiiiiirriirrrrlriiii m0 th aS aI im (nI a) (nI (p0 + 1)) (nI E) 1 2 aB aT se dn aG aO aN aD bv aY rn kd nu tv), (zaI aS cS 901 fS)]) hD hS hA [0, 1] rfl
          refine va_calli (va_runV (As := []) (rest := []) ⟨hx, hb, hml, hown, hts⟩ (c_figures l dC dI m0 aS aI aB aT aG aO aN aD aY th im (nI a) (nI (p0 + 1)) (nI E) 1 2 se dn rn kd nu tv bv cS fS a (p0 + 1) E ss H.size (by omega) (by omega) (by omega) (Or.inr rfl) (gT)) (cwV 0 hts gX12_factor_X12_figures rfl rfl rfl hd_yX12_figures ⟨Nat.le_of_ble_eq_true rfl, Nat.le_of_ble_eq_true rfl⟩) ⟨fun a U g mk q => by obtain ⟨q0, q1, qP, qK, qD⟩ := q; exact ⟨q0, mvz g mk a q1, mvP g mk a qP, mvK g mk a qK, qD⟩, va_recv hK hP (ci := 14) (q := (RX12, TX12, 23)) (q0 := 0) rfl rfl, fun U hU hW => ⟨rfl, by rw [hU], by rw [hU]; exact hPc, va_K.moved hW.alike hKc, hDc.weaken (fun _ _ _ _ => trivial)⟩⟩ rfl rfl hl.1 rfl (lv_room (Nat.le_of_ble_eq_true rfl)) dX12_factor_173 ⟨Nat.le_of_ble_eq_true rfl, Nat.le_of_ble_eq_true rfl⟩) hS (fun q _ h => hFc q h) hFc (fun r_65 u tC H1 locs htC hvm hw_66 hB hz1 hk1 hS => ?_)
          obtain ⟨sp9_67, wg9_68⟩ := u
          try dsimp only at hw_66 hB
          obtain ⟨hP1, hK1, hD1⟩ := hB
          rw [htC] at hP1
          have hK1 := va_K.moved hvm.symm hK1
          obtain ⟨hP, hD⟩ := va_join (wr := []) (w1 := [(zo14irriiiiiirriirrrrlriiii m0 th aS aI im (nI a) sp9_67 (nI E) wg9_68 2 aB aT se dn aG aO aN aD bv aY rn kd nu tv), (zaI aS cS 901 fS)]) hP hD [0, 1] [] rfl rfl (by decide) (by decide) hk1 hFc hP1 hD1
          have hK := (hK.sub (tys' := []) [] rfl).app hK1
          generalize H1 = H at hP hS ⊢
          have hP : va_P (dC, dI) vwCl [(zo14irriiiiiirriirrrrlriiii m0 th aS aI im (nI a) sp9_67 (nI E) wg9_68 2 aB aT se dn aG aO aN aD bv aY rn kd nu tv), (zaI aS cS 901 fS)] H := hP
          have hD : va_D A [(zo14irriiiiiirriirrrrlriiii m0 th aS aI im (nI a) sp9_67 (nI E) wg9_68 2 aB aT se dn aG aO aN aD bv aY rn kd nu tv), (zaI aS cS 901 fS)] := hD
          have hK : va_K (dC, dI) vwCl [(cS, .int)] s := hK
          rcases hw_66 with ⟨rfl, rfl, hN_76, v_69, h_71, rfl⟩ | ⟨rfl, h_75, v_69, p_70, h_71, h_72, h_73, rfl, rfl, hN_76⟩
          · skip
            refine lv_istore (lv' := [(4, .int (nI v_69)), (3, .int (-1)), (2, .int (nI j_33)), (1, .int r_2), (0, .ref m0)]) hx hb dX12_factor_176 hl (by decide) rfl (fun ls hl => ?_)
            refine lv_aload_n hx hb dX12_factor_178 rfl (lv_at hl 4 rfl) ?_
            refine lv_iload_n hx hb dX12_factor_179 rfl (lv_at hl 2 rfl) ?_
            refine lv_bipush (v := 8) hx hb dX12_factor_180 (by decide) ?_
            refine lv_iload_n hx hb dX12_factor_182 rfl (lv_at hl 1 rfl) ?_
            refine lv_imul hx hb dX12_factor_183 ?_
            refine qi_as (y := (-8)) (by decide) ?_
            refine lv_iadd hx hb dX12_factor_184 ?_
            refine lv_bipush (v := 32) hx hb dX12_factor_185 (by decide) ?_
            refine lv_iload hx hb dX12_factor_187 (lv_at hl 0 rfl) ?_
            refine lv_imul hx hb dX12_factor_189 ?_
            refine qi_as (y := nI (32 * v_69)) (pk_mul 32 v_69) ?_
            refine lv_iadd hx hb dX12_factor_190 ?_
            have hPc := hP.sub (ws' := [(zo14irriiiiiirriirrrrlriiii m0 th aS aI im (nI a) (nI (p0 + 1)) (nI E) 1 2 aB aT se dn aG aO aN aD bv aY rn kd nu tv)]) [0] rfl
            have hKc := hK.sub (tys' := []) [] rfl
            refine va_csv (va_runV (As := [.int (((nI j_33) + (-8)) + (nI (32 * v_69)))]) (rest := []) ⟨hx, hb, hml, hown, hts⟩ (c_emitsW l dC dI m0 aS aI aB aT aG aO aN aD aY th im (nI a) (nI (p0 + 1)) (nI E) 1 2 se dn rn kd nu tv bv (((nI j_33) + (-8)) + (nI (32 * v_69)))) (cwV 1 hts gX12_factor_X12_emits rfl rfl rfl hd_yX12_emits ⟨Nat.le_of_ble_eq_true rfl, Nat.le_of_ble_eq_true rfl⟩) ⟨fun a U g mk q => by obtain ⟨q0, qP, qK⟩ := q; exact ⟨q0, mvP g mk a qP, mvK g mk a qK⟩, va_recv hK hP (ci := 14) (q := (RX12, TX12, 23)) (q0 := 0) rfl rfl, fun U hU hW => ⟨rfl, by rw [hU]; exact hPc, va_K.moved hW.alike hKc⟩⟩ rfl rfl hl.1 rfl (lv_room (Nat.le_of_ble_eq_true rfl)) dX12_factor_191 ⟨Nat.le_of_ble_eq_true rfl, Nat.le_of_ble_eq_true rfl⟩).run (fun hw_78 => ?_)
            rw [hQ]
            have hP9 := hP.sub (ws' := [(zo14irriiiiiirriirrrrlriiii m0 th aS aI im (nI a) (nI (p0 + 1)) (nI E) 1 2 aB aT se dn aG aO aN aD bv aY rn kd nu tv), (zaI aS cS 901 fS)]) [0, 1] rfl
            have hD9 := hD.sub (ws' := [(zo14irriiiiiirriirrrrlriiii m0 th aS aI im (nI a) (nI (p0 + 1)) (nI E) 1 2 aB aT se dn aG aO aN aD bv aY rn kd nu tv), (zaI aS cS 901 fS)]) [0, 1] (by decide) rfl
            have hK9 := hK.sub (tys' := [(cS, .int)]) [0] rfl
            exact W.vret hx hb hr (fun tQ htQ hWQ => ⟨⟨(fS, (nI (p0 + 1)), 1), rfl, ⟨p0 + 1, rfl, by omega, by omega, PF.rf, Or.inl ⟨rfl, (pf_t hn33 hn40).trans (pt_2 hx6 hx3)⟩⟩, by rw [htQ]; exact hP9, va_K.moved hWQ.alike hK9, hD9⟩, hS.F htQ⟩) hS.2.2 dX12_factor_194
          · skip
            exact absurd h_75 (by decide)
        · skip
          have hj_60 : j_59 < 3 := hj_60
          have hx3 := am3_y hj_60 h_62
          refine lv_istore_n (lv' := [(3, .int (nI j_59)), (2, .int (nI j_33)), (1, .int r_2), (0, .ref m0)]) hx hb dX12_factor_150 rfl hl (by decide) rfl (fun ls hl => ?_)
          refine lv_aload_n hx hb dX12_factor_151 rfl (lv_at hl 3 rfl) ?_
          refine lv_aload_n hx hb dX12_factor_152 rfl (lv_at hl 3 rfl) ?_
          refine va_get (D := (dC, dI)) (ci := 14) (v := .int 0) (C := RX12) (T := TX12) (N := 23) hx hb hts kc_factor2_0 hown hK hP 0 rfl rfl 7 (by decide) (hts (.fieldLink RX12 65 "MistHeapsModel" "isWrong" "Z") kc_factor2_1) (fun _ h9 => h9) rfl dX12_factor_153 ?_
          refine lv_if_ne (tgt := 164) hx hb dX12_factor_156 (by decide) (fun c_79 => absurd c_79 (by decide)) (fun _ => ?_)
          refine lv_iload_n hx hb dX12_factor_159 rfl (lv_at hl 0 rfl) ?_
          refine lv_iconst (v := (-1)) hx hb dX12_factor_160 (by decide) ?_
          refine lv_icmp_ne (tgt := 168) hx hb dX12_factor_161 (by decide) (fun c_80 => ?_) (fun c_80 => absurd c_80 (nI_nm1 (by omega)))
          refine lv_iconst (v := 0) hx hb dX12_factor_168 (by decide) ?_
          refine va_put (D := (dC, dI)) (ci := 14) (v := .int 0) (ty := .boolean) (C := RX12) (T := TX12) (N := 23) hx hb hts kc_factor2_0 tyX12 tyX12_ok nmX12 hown hK hP hD hS 0 rfl rfl 7 (by decide) (hts (.fieldLink RX12 65 "MistHeapsModel" "isWrong" "Z") kc_factor2_1) (fun _ h9 => h9) rfl (by decide +kernel) rfl rfl (Nat.le_of_ble_eq_true rfl) dX12_factor_169 (fun H locs hP hD hS => ?_)
          have hP : va_P (dC, dI) vwCl [(zo14irriiiiiirriirrrrlriiii m0 th aS aI im (nI a) (nI ((p0 + 1) + 1)) (nI E) 0 2 aB aT se dn aG aO aN aD bv aY rn kd nu tv), (zaI aS cS 901 fS)] H := hP
          have hD : va_D A [(zo14irriiiiiirriirrrrlriiii m0 th aS aI im (nI a) (nI ((p0 + 1) + 1)) (nI E) 0 2 aB aT se dn aG aO aN aD bv aY rn kd nu tv), (zaI aS cS 901 fS)] := hD
          refine lv_aload_n hx hb dX12_factor_172 rfl (lv_at hl 3 rfl) ?_
          have hPc := hP.sub (ws' := [(zo14irriiiiiirriirrrrlriiii m0 th aS aI im (nI a) (nI ((p0 + 1) + 1)) (nI E) 0 2 aB aT se dn aG aO aN aD bv aY rn kd nu tv), (zaI aS cS 901 fS)]) [0, 1] rfl
          have hDc := hD.sub (ws' := [(zo14irriiiiiirriirrrrlriiii m0 th aS aI im (nI a) (nI ((p0 + 1) + 1)) (nI E) 0 2 aB aT se dn aG aO aN aD bv aY rn kd nu tv), (zaI aS cS 901 fS)]) [0, 1] (by decide) rfl
          have hKc := hK.sub (tys' := [(cS, .int)]) [0] rfl
          have hFc := va_free (wc := [(zo14irriiiiiirriirrrrlriiii m0 th aS aI im (nI a) (nI ((p0 + 1) + 1)) (nI E) 0 2 aB aT se dn aG aO aN aD bv aY rn kd nu tv), (zaI aS cS 901 fS)]) hD hS hA [0, 1] rfl
          refine va_calli (va_runV (As := []) (rest := []) ⟨hx, hb, hml, hown, hts⟩ (c_figures l dC dI m0 aS aI aB aT aG aO aN aD aY th im (nI a) (nI ((p0 + 1) + 1)) (nI E) 0 2 se dn rn kd nu tv bv cS fS a ((p0 + 1) + 1) E ss H.size (by omega) (by omega) (by omega) (Or.inl rfl) (gT)) (cwV 0 hts gX12_factor_X12_figures rfl rfl rfl hd_yX12_figures ⟨Nat.le_of_ble_eq_true rfl, Nat.le_of_ble_eq_true rfl⟩) ⟨fun a U g mk q => by obtain ⟨q0, q1, qP, qK, qD⟩ := q; exact ⟨q0, mvz g mk a q1, mvP g mk a qP, mvK g mk a qK, qD⟩, va_recv hK hP (ci := 14) (q := (RX12, TX12, 23)) (q0 := 0) rfl rfl, fun U hU hW => ⟨rfl, by rw [hU], by rw [hU]; exact hPc, va_K.moved hW.alike hKc, hDc.weaken (fun _ _ _ _ => trivial)⟩⟩ rfl rfl hl.1 rfl (lv_room (Nat.le_of_ble_eq_true rfl)) dX12_factor_173 ⟨Nat.le_of_ble_eq_true rfl, Nat.le_of_ble_eq_true rfl⟩) hS (fun q _ h => hFc q h) hFc (fun r_81 u tC H1 locs htC hvm hw_82 hB hz1 hk1 hS => ?_)
          obtain ⟨sp9_83, wg9_84⟩ := u
          try dsimp only at hw_82 hB
          obtain ⟨hP1, hK1, hD1⟩ := hB
          rw [htC] at hP1
          have hK1 := va_K.moved hvm.symm hK1
          obtain ⟨hP, hD⟩ := va_join (wr := []) (w1 := [(zo14irriiiiiirriirrrrlriiii m0 th aS aI im (nI a) sp9_83 (nI E) wg9_84 2 aB aT se dn aG aO aN aD bv aY rn kd nu tv), (zaI aS cS 901 fS)]) hP hD [0, 1] [] rfl rfl (by decide) (by decide) hk1 hFc hP1 hD1
          have hK := (hK.sub (tys' := []) [] rfl).app hK1
          generalize H1 = H at hP hS ⊢
          have hP : va_P (dC, dI) vwCl [(zo14irriiiiiirriirrrrlriiii m0 th aS aI im (nI a) sp9_83 (nI E) wg9_84 2 aB aT se dn aG aO aN aD bv aY rn kd nu tv), (zaI aS cS 901 fS)] H := hP
          have hD : va_D A [(zo14irriiiiiirriirrrrlriiii m0 th aS aI im (nI a) sp9_83 (nI E) wg9_84 2 aB aT se dn aG aO aN aD bv aY rn kd nu tv), (zaI aS cS 901 fS)] := hD
          have hK : va_K (dC, dI) vwCl [(cS, .int)] s := hK
          rcases hw_82 with ⟨rfl, rfl, hN_92, v_85, h_87, rfl⟩ | ⟨rfl, h_91, v_85, p_86, h_87, h_88, h_89, rfl, rfl, hN_92⟩
          · skip
            have hN := hN_92 rfl
            refine lv_istore (lv' := [(4, .int (nI v_85)), (3, .int (nI j_59)), (2, .int (nI j_33)), (1, .int r_2), (0, .ref m0)]) hx hb dX12_factor_176 hl (by decide) rfl (fun ls hl => ?_)
            refine lv_aload_n hx hb dX12_factor_178 rfl (lv_at hl 4 rfl) ?_
            refine lv_iload_n hx hb dX12_factor_179 rfl (lv_at hl 2 rfl) ?_
            refine lv_bipush (v := 8) hx hb dX12_factor_180 (by decide) ?_
            refine lv_iload_n hx hb dX12_factor_182 rfl (lv_at hl 1 rfl) ?_
            refine lv_imul hx hb dX12_factor_183 ?_
            refine qi_as (y := nI (8 * j_59)) (pk_mul 8 j_59) ?_
            refine lv_iadd hx hb dX12_factor_184 ?_
            refine qi_as (y := nI (j_33 + (8 * j_59))) (nI_add j_33 (8 * j_59)) ?_
            refine lv_bipush (v := 32) hx hb dX12_factor_185 (by decide) ?_
            refine lv_iload hx hb dX12_factor_187 (lv_at hl 0 rfl) ?_
            refine lv_imul hx hb dX12_factor_189 ?_
            refine qi_as (y := nI (32 * v_85)) (pk_mul 32 v_85) ?_
            refine lv_iadd hx hb dX12_factor_190 ?_
            refine qi_as (y := nI ((j_33 + (8 * j_59)) + (32 * v_85))) (nI_add (j_33 + (8 * j_59)) (32 * v_85)) ?_
            have hPc := hP.sub (ws' := [(zo14irriiiiiirriirrrrlriiii m0 th aS aI im (nI a) (nI ((p0 + 1) + 1)) (nI E) 1 2 aB aT se dn aG aO aN aD bv aY rn kd nu tv)]) [0] rfl
            have hKc := hK.sub (tys' := []) [] rfl
            refine va_csv (va_runV (As := [.int (nI ((j_33 + (8 * j_59)) + (32 * v_85)))]) (rest := []) ⟨hx, hb, hml, hown, hts⟩ (c_emitsW l dC dI m0 aS aI aB aT aG aO aN aD aY th im (nI a) (nI ((p0 + 1) + 1)) (nI E) 1 2 se dn rn kd nu tv bv (nI ((j_33 + (8 * j_59)) + (32 * v_85)))) (cwV 1 hts gX12_factor_X12_emits rfl rfl rfl hd_yX12_emits ⟨Nat.le_of_ble_eq_true rfl, Nat.le_of_ble_eq_true rfl⟩) ⟨fun a U g mk q => by obtain ⟨q0, qP, qK⟩ := q; exact ⟨q0, mvP g mk a qP, mvK g mk a qK⟩, va_recv hK hP (ci := 14) (q := (RX12, TX12, 23)) (q0 := 0) rfl rfl, fun U hU hW => ⟨rfl, by rw [hU]; exact hPc, va_K.moved hW.alike hKc⟩⟩ rfl rfl hl.1 rfl (lv_room (Nat.le_of_ble_eq_true rfl)) dX12_factor_191 ⟨Nat.le_of_ble_eq_true rfl, Nat.le_of_ble_eq_true rfl⟩).run (fun hw_94 => ?_)
            rw [hQ]
            have hP9 := hP.sub (ws' := [(zo14irriiiiiirriirrrrlriiii m0 th aS aI im (nI a) (nI ((p0 + 1) + 1)) (nI E) 1 2 aB aT se dn aG aO aN aD bv aY rn kd nu tv), (zaI aS cS 901 fS)]) [0, 1] rfl
            have hD9 := hD.sub (ws' := [(zo14irriiiiiirriirrrrlriiii m0 th aS aI im (nI a) (nI ((p0 + 1) + 1)) (nI E) 1 2 aB aT se dn aG aO aN aD bv aY rn kd nu tv), (zaI aS cS 901 fS)]) [0, 1] (by decide) rfl
            have hK9 := hK.sub (tys' := [(cS, .int)]) [0] rfl
            exact W.vret hx hb hr (fun tQ htQ hWQ => ⟨⟨(fS, (nI ((p0 + 1) + 1)), 1), rfl, ⟨(p0 + 1) + 1, rfl, by omega, by omega, PF.rf, Or.inl ⟨rfl, (pf_t hn33 hn40).trans (pt_3 hx6 hx3 hN)⟩⟩, by rw [htQ]; exact hP9, va_K.moved hWQ.alike hK9, hD9⟩, hS.F htQ⟩) hS.2.2 dX12_factor_194
          · skip
            have hN := hN_92
            refine lv_istore (lv' := [(4, .int (nI v_85)), (3, .int (nI j_59)), (2, .int (nI j_33)), (1, .int r_2), (0, .ref m0)]) hx hb dX12_factor_176 hl (by decide) rfl (fun ls hl => ?_)
            refine lv_aload_n hx hb dX12_factor_178 rfl (lv_at hl 4 rfl) ?_
            refine lv_iload_n hx hb dX12_factor_179 rfl (lv_at hl 2 rfl) ?_
            refine lv_bipush (v := 8) hx hb dX12_factor_180 (by decide) ?_
            refine lv_iload_n hx hb dX12_factor_182 rfl (lv_at hl 1 rfl) ?_
            refine lv_imul hx hb dX12_factor_183 ?_
            refine qi_as (y := nI (8 * j_59)) (pk_mul 8 j_59) ?_
            refine lv_iadd hx hb dX12_factor_184 ?_
            refine qi_as (y := nI (j_33 + (8 * j_59))) (nI_add j_33 (8 * j_59)) ?_
            refine lv_bipush (v := 32) hx hb dX12_factor_185 (by decide) ?_
            refine lv_iload hx hb dX12_factor_187 (lv_at hl 0 rfl) ?_
            refine lv_imul hx hb dX12_factor_189 ?_
            refine qi_as (y := nI (32 * v_85)) (pk_mul 32 v_85) ?_
            refine lv_iadd hx hb dX12_factor_190 ?_
            refine qi_as (y := nI ((j_33 + (8 * j_59)) + (32 * v_85))) (nI_add (j_33 + (8 * j_59)) (32 * v_85)) ?_
            have hPc := hP.sub (ws' := [(zo14irriiiiiirriirrrrlriiii m0 th aS aI im (nI a) (nI p_86) (nI E) 0 2 aB aT se dn aG aO aN aD bv aY rn kd nu tv), (zaI aS cS 901 fS)]) [0, 1] rfl
            have hDc := hD.sub (ws' := [(zo14irriiiiiirriirrrrlriiii m0 th aS aI im (nI a) (nI p_86) (nI E) 0 2 aB aT se dn aG aO aN aD bv aY rn kd nu tv), (zaI aS cS 901 fS)]) [0, 1] (by decide) rfl
            have hKc := hK.sub (tys' := [(cS, .int)]) [0] rfl
            have hFc := va_free (wc := [(zo14irriiiiiirriirrrrlriiii m0 th aS aI im (nI a) (nI p_86) (nI E) 0 2 aB aT se dn aG aO aN aD bv aY rn kd nu tv), (zaI aS cS 901 fS)]) hD hS hA [0, 1] rfl
            refine va_callv (va_runV (As := [.int (nI ((j_33 + (8 * j_59)) + (32 * v_85)))]) (rest := []) ⟨hx, hb, hml, hown, hts⟩ (c_emits l dC dI m0 aS aI aB aT aG aO aN aD aY th im (nI a) (nI p_86) (nI E) 0 2 se dn rn kd nu tv bv cS fS a K.length (nI ((j_33 + (8 * j_59)) + (32 * v_85))) H.size (ga) ((gI).2.2.2.1) (by have := (gI).2.2.2.2.1; omega)) (cwV 1 hts gX12_factor_X12_emits rfl rfl rfl hd_yX12_emits ⟨Nat.le_of_ble_eq_true rfl, Nat.le_of_ble_eq_true rfl⟩) ⟨fun a U g mk q => by obtain ⟨q0, q1, qP, qK, qD⟩ := q; exact ⟨q0, mvz g mk a q1, mvP g mk a qP, mvK g mk a qK, qD⟩, va_recv hK hP (ci := 14) (q := (RX12, TX12, 23)) (q0 := 0) rfl rfl, fun U hU hW => ⟨rfl, by rw [hU], by rw [hU]; exact hPc, va_K.moved hW.alike hKc, hDc.weaken (fun _ _ _ _ => trivial)⟩⟩ rfl rfl hl.1 rfl (lv_room (Nat.le_of_ble_eq_true rfl)) dX12_factor_191 ⟨Nat.le_of_ble_eq_true rfl, Nat.le_of_ble_eq_true rfl⟩) hS (fun q _ h => hFc q h) hFc (fun u tC H1 locs htC hvm hw_96 hB hz1 hk1 hS => ?_)
            obtain ⟨fS9_97, rfl⟩ : ∃ z, z = u := ⟨_, rfl⟩
            try dsimp only at hw_96 hB
            obtain ⟨hP1, hK1, hD1⟩ := hB
            rw [htC] at hP1
            have hK1 := va_K.moved hvm.symm hK1
            obtain ⟨hP, hD⟩ := va_join (wr := []) (w1 := [(zo14irriiiiiirriirrrrlriiii m0 th aS aI im (nI a) (nI p_86) (nI E) 0 2 aB aT se dn aG aO aN aD bv aY rn kd nu tv), (zaI aS cS 901 fS9_97)]) hP hD [0, 1] [] rfl rfl (by decide) (by decide) hk1 hFc hP1 hD1
            have hK := (hK.sub (tys' := []) [] rfl).app hK1
            generalize H1 = H at hP hS ⊢
            have hP : va_P (dC, dI) vwCl [(zo14irriiiiiirriirrrrlriiii m0 th aS aI im (nI a) (nI p_86) (nI E) 0 2 aB aT se dn aG aO aN aD bv aY rn kd nu tv), (zaI aS cS 901 fS9_97)] H := hP
            have hD : va_D A [(zo14irriiiiiirriirrrrlriiii m0 th aS aI im (nI a) (nI p_86) (nI E) 0 2 aB aT se dn aG aO aN aD bv aY rn kd nu tv), (zaI aS cS 901 fS9_97)] := hD
            have hK : va_K (dC, dI) vwCl [(cS, .int)] s := hK
            obtain rfl : fS9_97 = emt fS a K.length (nI ((j_33 + (8 * j_59)) + (32 * v_85))) := by rcases hw_96 with ⟨q, _⟩ | ⟨_, q⟩; exact absurd rfl q; exact q
            have hI_98 : PI (emt fS a K.length (nI ((j_33 + (8 * j_59)) + (32 * v_85)))) a (K ++ [j_33 * 300 + j_59 * 100 + v_85]) (d + 1) p_86 E := PI.em (t := j_33 * 300 + j_59 * 100 + v_85) ((gI).mono (by omega) (by omega)) (by omega) (by omega) (stepd_test (by omega) (by omega) (by omega) (by omega)) (rcd_t (by omega) (by omega) (by omega))
            have hF_99 : PF a fS (emt fS a K.length (nI ((j_33 + (8 * j_59)) + (32 * v_85)))) := (PF.rf).tr (PF_emt (k := K.length) (x := nI ((j_33 + (8 * j_59)) + (32 * v_85))) ga (by have := (gI).2.2.2.2.1; omega))
            have hKhI_98 : (K ++ [j_33 * 300 + j_59 * 100 + v_85]).length = K.length + 1 := by rw [List.length_append]; rfl
            rw [hQ]
            have hP9 := hP.sub (ws' := [(zo14irriiiiiirriirrrrlriiii m0 th aS aI im (nI a) (nI p_86) (nI E) 0 2 aB aT se dn aG aO aN aD bv aY rn kd nu tv), (zaI aS cS 901 (emt fS a K.length (nI ((j_33 + (8 * j_59)) + (32 * v_85)))))]) [0, 1] rfl
            have hD9 := hD.sub (ws' := [(zo14irriiiiiirriirrrrlriiii m0 th aS aI im (nI a) (nI p_86) (nI E) 0 2 aB aT se dn aG aO aN aD bv aY rn kd nu tv), (zaI aS cS 901 (emt fS a K.length (nI ((j_33 + (8 * j_59)) + (32 * v_85)))))]) [0, 1] (by decide) rfl
            have hK9 := hK.sub (tys' := [(cS, .int)]) [0] rfl
            exact W.vret hx hb hr (fun tQ htQ hWQ => ⟨⟨((emt fS a K.length (nI ((j_33 + (8 * j_59)) + (32 * v_85)))), (nI p_86), 0), rfl, ⟨p_86, rfl, by omega, by omega, hF_99, Or.inr ⟨rfl, [j_33 * 300 + j_59 * 100 + v_85], (pf_t hn33 hn40).trans (pt_4 hx6 hx3 hN), by omega, (hI_98).mono (by omega) (by omega), by (try simp only [List.length_append, List.length_cons, List.length_nil]); omega⟩⟩, by rw [htQ]; exact hP9, va_K.moved hWQ.alike hK9, hD9⟩, hS.F htQ⟩) hS.2.2 dX12_factor_194
    · skip
      subst c_29
      have hs : ss p0 = 40 := (gT.eq (c := 40) (by omega) (by omega)).mp hw_3.symm
      have hlt : p0 < E := Nat.lt_of_not_le (fun z => by have := gT.2.1 p0 z; omega)
      refine lv_aload_n hx hb dX12_factor_25 rfl (lv_at hl 1 rfl) ?_
      refine lv_aload_n hx hb dX12_factor_26 rfl (lv_at hl 1 rfl) ?_
      refine va_get (D := (dC, dI)) (ci := 14) (v := .int 2) (C := RX12) (T := TX12) (N := 23) hx hb hts kc_factor2_0 hown hK hP 0 rfl rfl 8 (by decide) (hts (.fieldLink RX12 89 "MistHeapsModel" "open" "I") kc_factor2_2) (fun _ h9 => h9) rfl dX12_factor_27 ?_
      refine lv_iconst (v := 5) hx hb dX12_factor_30 (by decide) ?_
      refine lv_icmp_ne (tgt := 38) hx hb dX12_factor_31 (by decide) (fun _ => ?_) (fun c_100 => absurd c_100 (by decide))
      refine lv_iconst (v := 0) hx hb dX12_factor_38 (by decide) ?_
      refine va_put (D := (dC, dI)) (ci := 14) (v := .int 0) (ty := .boolean) (C := RX12) (T := TX12) (N := 23) hx hb hts kc_factor2_0 tyX12 tyX12_ok nmX12 hown hK hP hD hS 0 rfl rfl 7 (by decide) (hts (.fieldLink RX12 65 "MistHeapsModel" "isWrong" "Z") kc_factor2_1) (fun _ h9 => h9) rfl (by decide +kernel) rfl rfl (Nat.le_of_ble_eq_true rfl) dX12_factor_39 (fun H locs hP hD hS => ?_)
      have hP : va_P (dC, dI) vwCl [(zo14irriiiiiirriirrrrlriiii m0 th aS aI im (nI a) (nI p0) (nI E) 0 2 aB aT se dn aG aO aN aD bv aY rn kd nu tv), (zaI aS cS 901 fS)] H := hP
      have hD : va_D A [(zo14irriiiiiirriirrrrlriiii m0 th aS aI im (nI a) (nI p0) (nI E) 0 2 aB aT se dn aG aO aN aD bv aY rn kd nu tv), (zaI aS cS 901 fS)] := hD
      refine lv_aload_n hx hb dX12_factor_42 rfl (lv_at hl 1 rfl) ?_
      refine lv_dup hx hb dX12_factor_43 rfl ?_
      refine va_get (D := (dC, dI)) (ci := 14) (v := .int 2) (C := RX12) (T := TX12) (N := 23) hx hb hts kc_factor2_0 hown hK hP 0 rfl rfl 8 (by decide) (hts (.fieldLink RX12 89 "MistHeapsModel" "open" "I") kc_factor2_2) (fun _ h9 => h9) rfl dX12_factor_44 ?_
      refine lv_iconst (v := 1) hx hb dX12_factor_47 (by decide) ?_
      refine lv_iadd hx hb dX12_factor_48 ?_
      refine qi_as (y := 3) (by decide) ?_
      refine va_put (D := (dC, dI)) (ci := 14) (v := .int 3) (ty := .int) (C := RX12) (T := TX12) (N := 23) hx hb hts kc_factor2_0 tyX12 tyX12_ok nmX12 hown hK hP hD hS 0 rfl rfl 8 (by decide) (hts (.fieldLink RX12 89 "MistHeapsModel" "open" "I") kc_factor2_2) (fun _ h9 => h9) rfl (by decide +kernel) rfl rfl (Nat.le_of_ble_eq_true rfl) dX12_factor_49 (fun H locs hP hD hS => ?_)
      have hP : va_P (dC, dI) vwCl [(zo14irriiiiiirriirrrrlriiii m0 th aS aI im (nI a) (nI p0) (nI E) 0 3 aB aT se dn aG aO aN aD bv aY rn kd nu tv), (zaI aS cS 901 fS)] H := hP
      have hD : va_D A [(zo14irriiiiiirriirrrrlriiii m0 th aS aI im (nI a) (nI p0) (nI E) 0 3 aB aT se dn aG aO aN aD bv aY rn kd nu tv), (zaI aS cS 901 fS)] := hD
      refine lv_aload_n hx hb dX12_factor_52 rfl (lv_at hl 1 rfl) ?_
      refine lv_dup hx hb dX12_factor_53 rfl ?_
      refine va_get (D := (dC, dI)) (ci := 14) (v := .int (nI p0)) (C := RX12) (T := TX12) (N := 23) hx hb hts kc_factor2_0 hown hK hP 0 rfl rfl 5 (by decide) (hts (.fieldLink RX12 59 "MistHeapsModel" "spot" "I") kc_factor2_3) (fun _ h9 => h9) rfl dX12_factor_54 ?_
      refine lv_aload_n hx hb dX12_factor_57 rfl (lv_at hl 1 rfl) ?_
      refine va_get (D := (dC, dI)) (ci := 14) (v := .int 0) (C := RX12) (T := TX12) (N := 23) hx hb hts kc_factor2_0 hown hK hP 0 rfl rfl 7 (by decide) (hts (.fieldLink RX12 65 "MistHeapsModel" "isWrong" "Z") kc_factor2_1) (fun _ h9 => h9) rfl dX12_factor_58 ?_
      refine lv_if_eq (tgt := 68) hx hb dX12_factor_61 (by decide) (fun _ => ?_) (fun c_101 => absurd c_101 (by decide))
      refine lv_iconst (v := 1) hx hb dX12_factor_68 (by decide) ?_
      refine lv_iadd hx hb dX12_factor_69 ?_
      refine qi_as (y := nI (p0 + 1)) (nI_add p0 1) ?_
      refine va_put (D := (dC, dI)) (ci := 14) (v := .int (nI (p0 + 1))) (ty := .int) (C := RX12) (T := TX12) (N := 23) hx hb hts kc_factor2_0 tyX12 tyX12_ok nmX12 hown hK hP hD hS 0 rfl rfl 5 (by decide) (hts (.fieldLink RX12 59 "MistHeapsModel" "spot" "I") kc_factor2_3) (fun _ h9 => h9) rfl (by decide +kernel) rfl rfl (Nat.le_of_ble_eq_true rfl) dX12_factor_70 (fun H locs hP hD hS => ?_)
      have hP : va_P (dC, dI) vwCl [(zo14irriiiiiirriirrrrlriiii m0 th aS aI im (nI a) (nI (p0 + 1)) (nI E) 0 3 aB aT se dn aG aO aN aD bv aY rn kd nu tv), (zaI aS cS 901 fS)] H := hP
      have hD : va_D A [(zo14irriiiiiirriirrrrlriiii m0 th aS aI im (nI a) (nI (p0 + 1)) (nI E) 0 3 aB aT se dn aG aO aN aD bv aY rn kd nu tv), (zaI aS cS 901 fS)] := hD
      refine lv_iload_n hx hb dX12_factor_73 rfl (lv_at hl 0 rfl) ?_
      refine lv_bipush (v := 33) hx hb dX12_factor_74 (by decide) ?_
      refine lv_icmp_ne (tgt := 91) hx hb dX12_factor_76 (by decide) (fun _ => ?_) (fun c_102 => absurd c_102 (by decide))
      refine lv_aload_n hx hb dX12_factor_91 rfl (lv_at hl 1 rfl) ?_
      have hPc := hP.sub (ws' := [(zo14irriiiiiirriirrrrlriiii m0 th aS aI im (nI a) (nI (p0 + 1)) (nI E) 0 3 aB aT se dn aG aO aN aD bv aY rn kd nu tv), (zaI aS cS 901 fS)]) [0, 1] rfl
      have hDc := hD.sub (ws' := [(zo14irriiiiiirriirrrrlriiii m0 th aS aI im (nI a) (nI (p0 + 1)) (nI E) 0 3 aB aT se dn aG aO aN aD bv aY rn kd nu tv), (zaI aS cS 901 fS)]) [0, 1] (by decide) rfl
      have hKc := hK.sub (tys' := [(cS, .int)]) [0] rfl
      have hFc := va_free (wc := [(zo14irriiiiiirriirrrrlriiii m0 th aS aI im (nI a) (nI (p0 + 1)) (nI E) 0 3 aB aT se dn aG aO aN aD bv aY rn kd nu tv), (zaI aS cS 901 fS)]) hD hS hA [0, 1] rfl
      refine va_callv (va_runV (As := []) (rest := []) ⟨hx, hb, hml, hown, hts⟩ (c_some3 l dC dI sK sV m0 aS aI aB aT aG aO aN aD aY th im (nI a) (nI (p0 + 1)) (nI E) 0 3 se dn rn kd nu tv bv cS fS a (p0 + 1) E K d ss H.size ((gI).mono (by omega) (by omega)) (gT)) (cwV 0 hts gX12_factor_X12_some rfl rfl rfl hd_yX12_some ⟨Nat.le_of_ble_eq_true rfl, Nat.le_of_ble_eq_true rfl⟩) ⟨fun a U g mk q => by obtain ⟨q0, q1, qP, qK, qD, qhE⟩ := q; exact ⟨q0, mvz g mk a q1, mvP g mk a qP, mvK g mk a qK, qD, qhE.mv g mk a⟩, va_recv hK hP (ci := 14) (q := (RX12, TX12, 23)) (q0 := 0) rfl rfl, fun U hU hW => ⟨rfl, by rw [hU], by rw [hU]; exact hPc, va_K.moved hW.alike hKc, hDc.weaken (fun _ _ _ _ => trivial), hE.call hS hU hW (fun q h => hFc q h)⟩⟩ rfl rfl hl.1 rfl (lv_room (Nat.le_of_ble_eq_true rfl)) dX12_factor_92 ⟨Nat.le_of_ble_eq_true rfl, Nat.le_of_ble_eq_true rfl⟩) hS (fun q _ h => hFc q h) hFc (fun u tC H1 locs htC hvm hw_104 hB hz1 hk1 hS => ?_)
      obtain ⟨fS9_105, sp9_106, wg9_107⟩ := u
      try dsimp only at hw_104 hB
      obtain ⟨hP1, hK1, hD1⟩ := hB
      rw [htC] at hP1
      have hK1 := va_K.moved hvm.symm hK1
      obtain ⟨hP, hD⟩ := va_join (wr := []) (w1 := [(zo14irriiiiiirriirrrrlriiii m0 th aS aI im (nI a) sp9_106 (nI E) wg9_107 3 aB aT se dn aG aO aN aD bv aY rn kd nu tv), (zaI aS cS 901 fS9_105)]) hP hD [0, 1] [] rfl rfl (by decide) (by decide) hk1 hFc hP1 hD1
      have hK := (hK.sub (tys' := []) [] rfl).app hK1
      generalize H1 = H at hP hS ⊢
      have hP : va_P (dC, dI) vwCl [(zo14irriiiiiirriirrrrlriiii m0 th aS aI im (nI a) sp9_106 (nI E) wg9_107 3 aB aT se dn aG aO aN aD bv aY rn kd nu tv), (zaI aS cS 901 fS9_105)] H := hP
      have hD : va_D A [(zo14irriiiiiirriirrrrlriiii m0 th aS aI im (nI a) sp9_106 (nI E) wg9_107 3 aB aT se dn aG aO aN aD bv aY rn kd nu tv), (zaI aS cS 901 fS9_105)] := hD
      have hK : va_K (dC, dI) vwCl [(cS, .int)] s := hK
      obtain ⟨p_108, rfl, h_111, h_112, hF_113, q9⟩ := hw_104
      rcases q9 with ⟨rfl, eP_110⟩ | ⟨rfl, L_109, eP_110, h_114, hI_115, h_116⟩
      · skip
        refine lv_aload_n hx hb dX12_factor_95 rfl (lv_at hl 1 rfl) ?_
        refine lv_bipush (v := 41) hx hb dX12_factor_96 (by decide) ?_
        have hPc := hP.sub (ws' := [(zo14irriiiiiirriirrrrlriiii m0 th aS aI im (nI a) (nI p_108) (nI E) 1 3 aB aT se dn aG aO aN aD bv aY rn kd nu tv), (zaI aS cS 901 fS9_105)]) [0, 1] rfl
        have hDc := hD.sub (ws' := [(zo14irriiiiiirriirrrrlriiii m0 th aS aI im (nI a) (nI p_108) (nI E) 1 3 aB aT se dn aG aO aN aD bv aY rn kd nu tv), (zaI aS cS 901 fS9_105)]) [0, 1] (by decide) rfl
        have hKc := hK.sub (tys' := [(cS, .int)]) [0] rfl
        have hFc := va_free (wc := [(zo14irriiiiiirriirrrrlriiii m0 th aS aI im (nI a) (nI p_108) (nI E) 1 3 aB aT se dn aG aO aN aD bv aY rn kd nu tv), (zaI aS cS 901 fS9_105)]) hD hS hA [0, 1] rfl
        refine va_callv (va_runV (As := [.int 41]) (rest := []) ⟨hx, hb, hml, hown, hts⟩ (c_must l dC dI m0 aS aI aB aT aG aO aN aD aY th im (nI a) (nI p_108) (nI E) 1 3 se dn rn kd nu tv bv cS fS9_105 a p_108 E 41 H.size (by omega) (by omega) (by omega) (Or.inr rfl) (by decide)) (cwV 1 hts gX12_factor_X12_must rfl rfl rfl hd_yX12_must ⟨Nat.le_of_ble_eq_true rfl, Nat.le_of_ble_eq_true rfl⟩) ⟨fun a U g mk q => by obtain ⟨q0, q1, qP, qK, qD⟩ := q; exact ⟨q0, mvz g mk a q1, mvP g mk a qP, mvK g mk a qK, qD⟩, va_recv hK hP (ci := 14) (q := (RX12, TX12, 23)) (q0 := 0) rfl rfl, fun U hU hW => ⟨rfl, by rw [hU], by rw [hU]; exact hPc, va_K.moved hW.alike hKc, hDc.weaken (fun _ _ _ _ => trivial)⟩⟩ rfl rfl hl.1 rfl (lv_room (Nat.le_of_ble_eq_true rfl)) dX12_factor_98 ⟨Nat.le_of_ble_eq_true rfl, Nat.le_of_ble_eq_true rfl⟩) hS (fun q _ h => hFc q h) hFc (fun u tC H1 locs htC hvm hw_118 hB hz1 hk1 hS => ?_)
        obtain ⟨sp9_119, wg9_120⟩ := u
        try dsimp only at hw_118 hB
        obtain ⟨hP1, hK1, hD1⟩ := hB
        rw [htC] at hP1
        have hK1 := va_K.moved hvm.symm hK1
        obtain ⟨hP, hD⟩ := va_join (wr := []) (w1 := [(zo14irriiiiiirriirrrrlriiii m0 th aS aI im (nI a) sp9_119 (nI E) wg9_120 3 aB aT se dn aG aO aN aD bv aY rn kd nu tv), (zaI aS cS 901 fS9_105)]) hP hD [0, 1] [] rfl rfl (by decide) (by decide) hk1 hFc hP1 hD1
        have hK := (hK.sub (tys' := []) [] rfl).app hK1
        generalize H1 = H at hP hS ⊢
        have hP : va_P (dC, dI) vwCl [(zo14irriiiiiirriirrrrlriiii m0 th aS aI im (nI a) sp9_119 (nI E) wg9_120 3 aB aT se dn aG aO aN aD bv aY rn kd nu tv), (zaI aS cS 901 fS9_105)] H := hP
        have hD : va_D A [(zo14irriiiiiirriirrrrlriiii m0 th aS aI im (nI a) sp9_119 (nI E) wg9_120 3 aB aT se dn aG aO aN aD bv aY rn kd nu tv), (zaI aS cS 901 fS9_105)] := hD
        have hK : va_K (dC, dI) vwCl [(cS, .int)] s := hK
        obtain ⟨rfl, rfl⟩ : _ ∧ _ := by rcases hw_118 with ⟨q, q2, _⟩ | ⟨_, q, _⟩; exact ⟨q, q2⟩; exact absurd q (by decide)
        refine lv_aload_n hx hb dX12_factor_101 rfl (lv_at hl 1 rfl) ?_
        refine lv_dup hx hb dX12_factor_102 rfl ?_
        refine va_get (D := (dC, dI)) (ci := 14) (v := .int 3) (C := RX12) (T := TX12) (N := 23) hx hb hts kc_factor2_0 hown hK hP 0 rfl rfl 8 (by decide) (hts (.fieldLink RX12 89 "MistHeapsModel" "open" "I") kc_factor2_2) (fun _ h9 => h9) rfl dX12_factor_103 ?_
        refine lv_iconst (v := 1) hx hb dX12_factor_106 (by decide) ?_
        refine lv_isub hx hb dX12_factor_107 ?_
        refine qi_as (y := 2) (by decide) ?_
        refine va_put (D := (dC, dI)) (ci := 14) (v := .int 2) (ty := .int) (C := RX12) (T := TX12) (N := 23) hx hb hts kc_factor2_0 tyX12 tyX12_ok nmX12 hown hK hP hD hS 0 rfl rfl 8 (by decide) (hts (.fieldLink RX12 89 "MistHeapsModel" "open" "I") kc_factor2_2) (fun _ h9 => h9) rfl (by decide +kernel) rfl rfl (Nat.le_of_ble_eq_true rfl) dX12_factor_108 (fun H locs hP hD hS => ?_)
        have hP : va_P (dC, dI) vwCl [(zo14irriiiiiirriirrrrlriiii m0 th aS aI im (nI a) (nI p_108) (nI E) 1 2 aB aT se dn aG aO aN aD bv aY rn kd nu tv), (zaI aS cS 901 fS9_105)] H := hP
        have hD : va_D A [(zo14irriiiiiirriirrrrlriiii m0 th aS aI im (nI a) (nI p_108) (nI E) 1 2 aB aT se dn aG aO aN aD bv aY rn kd nu tv), (zaI aS cS 901 fS9_105)] := hD
        rw [hQ]
        have hP9 := hP.sub (ws' := [(zo14irriiiiiirriirrrrlriiii m0 th aS aI im (nI a) (nI p_108) (nI E) 1 2 aB aT se dn aG aO aN aD bv aY rn kd nu tv), (zaI aS cS 901 fS9_105)]) [0, 1] rfl
        have hD9 := hD.sub (ws' := [(zo14irriiiiiirriirrrrlriiii m0 th aS aI im (nI a) (nI p_108) (nI E) 1 2 aB aT se dn aG aO aN aD bv aY rn kd nu tv), (zaI aS cS 901 fS9_105)]) [0, 1] (by decide) rfl
        have hK9 := hK.sub (tys' := [(cS, .int)]) [0] rfl
        exact W.vret hx hb hr (fun tQ htQ hWQ => ⟨⟨(fS9_105, (nI p_108), 1), rfl, ⟨p_108, rfl, by omega, by omega, (PF.rf).tr hF_113, Or.inl ⟨rfl, pf_b0 (l := 2) hs eP_110⟩⟩, by rw [htQ]; exact hP9, va_K.moved hWQ.alike hK9, hD9⟩, hS.F htQ⟩) hS.2.2 dX12_factor_111
      · skip
        have k5 := hI_115.2.2.2.2.1
        have hqL_109 : (K ++ L_109).length = K.length + L_109.length := List.length_append
        refine lv_aload_n hx hb dX12_factor_95 rfl (lv_at hl 1 rfl) ?_
        refine lv_bipush (v := 41) hx hb dX12_factor_96 (by decide) ?_
        have hPc := hP.sub (ws' := [(zo14irriiiiiirriirrrrlriiii m0 th aS aI im (nI a) (nI p_108) (nI E) 0 3 aB aT se dn aG aO aN aD bv aY rn kd nu tv), (zaI aS cS 901 fS9_105)]) [0, 1] rfl
        have hDc := hD.sub (ws' := [(zo14irriiiiiirriirrrrlriiii m0 th aS aI im (nI a) (nI p_108) (nI E) 0 3 aB aT se dn aG aO aN aD bv aY rn kd nu tv), (zaI aS cS 901 fS9_105)]) [0, 1] (by decide) rfl
        have hKc := hK.sub (tys' := [(cS, .int)]) [0] rfl
        have hFc := va_free (wc := [(zo14irriiiiiirriirrrrlriiii m0 th aS aI im (nI a) (nI p_108) (nI E) 0 3 aB aT se dn aG aO aN aD bv aY rn kd nu tv), (zaI aS cS 901 fS9_105)]) hD hS hA [0, 1] rfl
        refine va_callv (va_runV (As := [.int 41]) (rest := []) ⟨hx, hb, hml, hown, hts⟩ (c_must l dC dI m0 aS aI aB aT aG aO aN aD aY th im (nI a) (nI p_108) (nI E) 0 3 se dn rn kd nu tv bv cS fS9_105 a p_108 E 41 H.size (by omega) (by omega) (by omega) (Or.inl rfl) (by decide)) (cwV 1 hts gX12_factor_X12_must rfl rfl rfl hd_yX12_must ⟨Nat.le_of_ble_eq_true rfl, Nat.le_of_ble_eq_true rfl⟩) ⟨fun a U g mk q => by obtain ⟨q0, q1, qP, qK, qD⟩ := q; exact ⟨q0, mvz g mk a q1, mvP g mk a qP, mvK g mk a qK, qD⟩, va_recv hK hP (ci := 14) (q := (RX12, TX12, 23)) (q0 := 0) rfl rfl, fun U hU hW => ⟨rfl, by rw [hU], by rw [hU]; exact hPc, va_K.moved hW.alike hKc, hDc.weaken (fun _ _ _ _ => trivial)⟩⟩ rfl rfl hl.1 rfl (lv_room (Nat.le_of_ble_eq_true rfl)) dX12_factor_98 ⟨Nat.le_of_ble_eq_true rfl, Nat.le_of_ble_eq_true rfl⟩) hS (fun q _ h => hFc q h) hFc (fun u tC H1 locs htC hvm hw_122 hB hz1 hk1 hS => ?_)
        obtain ⟨sp9_123, wg9_124⟩ := u
        try dsimp only at hw_122 hB
        obtain ⟨hP1, hK1, hD1⟩ := hB
        rw [htC] at hP1
        have hK1 := va_K.moved hvm.symm hK1
        obtain ⟨hP, hD⟩ := va_join (wr := []) (w1 := [(zo14irriiiiiirriirrrrlriiii m0 th aS aI im (nI a) sp9_123 (nI E) wg9_124 3 aB aT se dn aG aO aN aD bv aY rn kd nu tv), (zaI aS cS 901 fS9_105)]) hP hD [0, 1] [] rfl rfl (by decide) (by decide) hk1 hFc hP1 hD1
        have hK := (hK.sub (tys' := []) [] rfl).app hK1
        generalize H1 = H at hP hS ⊢
        have hP : va_P (dC, dI) vwCl [(zo14irriiiiiirriirrrrlriiii m0 th aS aI im (nI a) sp9_123 (nI E) wg9_124 3 aB aT se dn aG aO aN aD bv aY rn kd nu tv), (zaI aS cS 901 fS9_105)] H := hP
        have hD : va_D A [(zo14irriiiiiirriirrrrlriiii m0 th aS aI im (nI a) sp9_123 (nI E) wg9_124 3 aB aT se dn aG aO aN aD bv aY rn kd nu tv), (zaI aS cS 901 fS9_105)] := hD
        have hK : va_K (dC, dI) vwCl [(cS, .int)] s := hK
        rcases hw_122 with ⟨rfl, rfl, h_125⟩ | ⟨rfl, _, h_125, h_126, rfl⟩
        · skip
          have hn41 : ¬ ss (p_108) = 41 := fun z => h_125 rfl ((((TP_PF gT gE ((PF.rf).tr hF_113))).eq (c := 41) (by omega) (by omega)).mpr z)
          refine lv_aload_n hx hb dX12_factor_101 rfl (lv_at hl 1 rfl) ?_
          refine lv_dup hx hb dX12_factor_102 rfl ?_
          refine va_get (D := (dC, dI)) (ci := 14) (v := .int 3) (C := RX12) (T := TX12) (N := 23) hx hb hts kc_factor2_0 hown hK hP 0 rfl rfl 8 (by decide) (hts (.fieldLink RX12 89 "MistHeapsModel" "open" "I") kc_factor2_2) (fun _ h9 => h9) rfl dX12_factor_103 ?_
          refine lv_iconst (v := 1) hx hb dX12_factor_106 (by decide) ?_
          refine lv_isub hx hb dX12_factor_107 ?_
          refine qi_as (y := 2) (by decide) ?_
          refine va_put (D := (dC, dI)) (ci := 14) (v := .int 2) (ty := .int) (C := RX12) (T := TX12) (N := 23) hx hb hts kc_factor2_0 tyX12 tyX12_ok nmX12 hown hK hP hD hS 0 rfl rfl 8 (by decide) (hts (.fieldLink RX12 89 "MistHeapsModel" "open" "I") kc_factor2_2) (fun _ h9 => h9) rfl (by decide +kernel) rfl rfl (Nat.le_of_ble_eq_true rfl) dX12_factor_108 (fun H locs hP hD hS => ?_)
          have hP : va_P (dC, dI) vwCl [(zo14irriiiiiirriirrrrlriiii m0 th aS aI im (nI a) (nI p_108) (nI E) 1 2 aB aT se dn aG aO aN aD bv aY rn kd nu tv), (zaI aS cS 901 fS9_105)] H := hP
          have hD : va_D A [(zo14irriiiiiirriirrrrlriiii m0 th aS aI im (nI a) (nI p_108) (nI E) 1 2 aB aT se dn aG aO aN aD bv aY rn kd nu tv), (zaI aS cS 901 fS9_105)] := hD
          rw [hQ]
          have hP9 := hP.sub (ws' := [(zo14irriiiiiirriirrrrlriiii m0 th aS aI im (nI a) (nI p_108) (nI E) 1 2 aB aT se dn aG aO aN aD bv aY rn kd nu tv), (zaI aS cS 901 fS9_105)]) [0, 1] rfl
          have hD9 := hD.sub (ws' := [(zo14irriiiiiirriirrrrlriiii m0 th aS aI im (nI a) (nI p_108) (nI E) 1 2 aB aT se dn aG aO aN aD bv aY rn kd nu tv), (zaI aS cS 901 fS9_105)]) [0, 1] (by decide) rfl
          have hK9 := hK.sub (tys' := [(cS, .int)]) [0] rfl
          exact W.vret hx hb hr (fun tQ htQ hWQ => ⟨⟨(fS9_105, (nI p_108), 1), rfl, ⟨p_108, rfl, by omega, by omega, (PF.rf).tr hF_113, Or.inl ⟨rfl, pf_b1 (l := 2) hs eP_110 hn41⟩⟩, by rw [htQ]; exact hP9, va_K.moved hWQ.alike hK9, hD9⟩, hS.F htQ⟩) hS.2.2 dX12_factor_111
        · skip
          have hs41 : ss (p_108) = 41 := (((TP_PF gT gE ((PF.rf).tr hF_113))).eq (c := 41) (by omega) (by omega)).mp h_125
          refine lv_aload_n hx hb dX12_factor_101 rfl (lv_at hl 1 rfl) ?_
          refine lv_dup hx hb dX12_factor_102 rfl ?_
          refine va_get (D := (dC, dI)) (ci := 14) (v := .int 3) (C := RX12) (T := TX12) (N := 23) hx hb hts kc_factor2_0 hown hK hP 0 rfl rfl 8 (by decide) (hts (.fieldLink RX12 89 "MistHeapsModel" "open" "I") kc_factor2_2) (fun _ h9 => h9) rfl dX12_factor_103 ?_
          refine lv_iconst (v := 1) hx hb dX12_factor_106 (by decide) ?_
          refine lv_isub hx hb dX12_factor_107 ?_
          refine qi_as (y := 2) (by decide) ?_
          refine va_put (D := (dC, dI)) (ci := 14) (v := .int 2) (ty := .int) (C := RX12) (T := TX12) (N := 23) hx hb hts kc_factor2_0 tyX12 tyX12_ok nmX12 hown hK hP hD hS 0 rfl rfl 8 (by decide) (hts (.fieldLink RX12 89 "MistHeapsModel" "open" "I") kc_factor2_2) (fun _ h9 => h9) rfl (by decide +kernel) rfl rfl (Nat.le_of_ble_eq_true rfl) dX12_factor_108 (fun H locs hP hD hS => ?_)
          have hP : va_P (dC, dI) vwCl [(zo14irriiiiiirriirrrrlriiii m0 th aS aI im (nI a) (nI (p_108 + 1)) (nI E) 0 2 aB aT se dn aG aO aN aD bv aY rn kd nu tv), (zaI aS cS 901 fS9_105)] H := hP
          have hD : va_D A [(zo14irriiiiiirriirrrrlriiii m0 th aS aI im (nI a) (nI (p_108 + 1)) (nI E) 0 2 aB aT se dn aG aO aN aD bv aY rn kd nu tv), (zaI aS cS 901 fS9_105)] := hD
          rw [hQ]
          have hP9 := hP.sub (ws' := [(zo14irriiiiiirriirrrrlriiii m0 th aS aI im (nI a) (nI (p_108 + 1)) (nI E) 0 2 aB aT se dn aG aO aN aD bv aY rn kd nu tv), (zaI aS cS 901 fS9_105)]) [0, 1] rfl
          have hD9 := hD.sub (ws' := [(zo14irriiiiiirriirrrrlriiii m0 th aS aI im (nI a) (nI (p_108 + 1)) (nI E) 0 2 aB aT se dn aG aO aN aD bv aY rn kd nu tv), (zaI aS cS 901 fS9_105)]) [0, 1] (by decide) rfl
          have hK9 := hK.sub (tys' := [(cS, .int)]) [0] rfl
          exact W.vret hx hb hr (fun tQ htQ hWQ => ⟨⟨(fS9_105, (nI (p_108 + 1)), 0), rfl, ⟨p_108 + 1, rfl, by omega, by omega, (PF.rf).tr hF_113, Or.inr ⟨rfl, L_109, pf_b2 (l := 2) hs eP_110 hs41, by omega, (hI_115).mono (by omega) (by omega), by (try simp only [List.length_append, List.length_cons, List.length_nil]); omega⟩⟩, by rw [htQ]; exact hP9, va_K.moved hWQ.alike hK9, hD9⟩, hS.F htQ⟩) hS.2.2 dX12_factor_111

theorem kc_every2_0 : ∀ w ∈ wsX120, w ∈ wsX12_every := fun w h => List.mem_cons_of_mem _ (gin_wsX120 w h)
theorem kc_every2_1 : (.fieldLink RX12 65 "MistHeapsModel" "isWrong" "Z" : Cond) ∈ wsX12_every := kc_of 1147 rfl rfl rfl
theorem kc_every2_2 : (.fieldLink RX12 59 "MistHeapsModel" "spot" "I" : Cond) ∈ wsX12_every := kc_of 1145 rfl rfl rfl
set_option maxHeartbeats 4000000 in
set_option maxRecDepth 100000 in
theorem c_every2 (l : Launch) (dC : Nat → ClassId) (dI : Nat → Nat → Nat) (sK sV : Nat → Nat) (m0 aS aI aB aT aG aO aN aD aY : Nat) (th im ac sp en wg op se dn rn kd nu tv : Int32) (bv : Int64) (cS : ClassId) (fS : Nat → Int32) (a p0 E : Nat) (K : List Nat) (d : Nat) (ss : Nat → Nat) (sz : Nat) (gI : PI fS a K d p0 E) (gT : TP fS E ss) : Met l yX12_every wsX12_every ({ frames := 15, cells := 0, slots := 0, locals := 323 } : Room) (va_Pc [.ref m0] (fun U => U.heap.size = sz ∧ va_P (dC, dI) vwCl [(zo14irriiiiiirriirrrrlriiii m0 th aS aI im (nI a) (nI p0) (nI E) 0 2 aB aT se dn aG aO aN aD bv aY rn kd nu tv), (zaI aS cS 901 fS)] U.heap ∧ va_K (dC, dI) vwCl [(cS, .int)] U ∧ va_D (fun _ => True) [(zo14irriiiiiirriirrrrlriiii m0 th aS aI im (nI a) (nI p0) (nI E) 0 2 aB aT se dn aG aO aN aD bv aY rn kd nu tv), (zaI aS cS 901 fS)] ∧ Gs sK sV (va_A [(zo14irriiiiiirriirrrrlriiii m0 th aS aI im (nI a) (nI p0) (nI E) 0 2 aB aT se dn aG aO aN aD bv aY rn kd nu tv), (zaI aS cS 901 fS)] sz) U)) (va_Qv (fun (u : (Nat → Int32) × (Int32) × (Int32)) => match u with | (fS9, sp9, wg9) => ∃ p9 : Nat, sp9 = nI p9 ∧ p0 ≤ p9 ∧ p9 ≤ E ∧ PF a fS fS9 ∧ ((wg9 = 1 ∧ pEv ss (pFac ss 3) p0 = (none, p9)) ∨ (wg9 = 0 ∧ ∃ L : List Nat, pEv ss (pFac ss 3) p0 = (some L, p9) ∧ p0 + 3 ≤ p9 ∧ PI fS9 a (K ++ L) (d + 1) p9 E ∧ L.length + p0 ≤ p9))) (fun (u : (Nat → Int32) × (Int32) × (Int32)) (t : State) => match u with | (fS9, sp9, wg9) => va_P (dC, dI) vwCl [(zo14irriiiiiirriirrrrlriiii m0 th aS aI im (nI a) sp9 (nI E) wg9 2 aB aT se dn aG aO aN aD bv aY rn kd nu tv), (zaI aS cS 901 fS9)] t.heap ∧ va_K (dC, dI) vwCl [(cS, .int)] t ∧ va_D (va_A [(zo14irriiiiiirriirrrrlriiii m0 th aS aI im (nI a) (nI p0) (nI E) 0 2 aB aT se dn aG aO aN aD bv aY rn kd nu tv), (zaI aS cS 901 fS)] sz) [(zo14irriiiiiirriirrrrlriiii m0 th aS aI im (nI a) sp9 (nI E) wg9 2 aB aT se dn aG aO aN aD bv aY rn kd nu tv), (zaI aS cS 901 fS9)]) (va_A [(zo14irriiiiiirriirrrrlriiii m0 th aS aI im (nI a) (nI p0) (nI E) 0 2 aB aT se dn aG aO aN aD bv aY rn kd nu tv), (zaI aS cS 901 fS)] sz)) 0 0 (va_A [(zo14irriiiiiirriirrrrlriiii m0 th aS aI im (nI a) (nI p0) (nI E) 0 2 aB aT se dn aG aO aN aD bv aY rn kd nu tv), (zaI aS cS 901 fS)] sz) := by
  refine met_ofQ (cc := cX12_every) (maxL := 1) (ret := none) (by decide) rfl ?_
  intro p e s m args below meth c s₁ Q B hml hv hQ
  obtain ⟨rfl, hsz, hP, hK, hD0, hE⟩ := hv
  have hx := B.exec
  have hb := B.bytes
  have hr := B.returns
  have hts := atoms_spec (ws := wsX12_every) B.pre
  have hown : s.vm.findClass RX12 = some m.cls := findClass_of_methodNamed B.named
  have hlocks := B.notSynchronized
  subst hsz
  have hD := hD0.self (sz := s.heap.size)
  generalize hAe : va_A [(zo14irriiiiiirriirrrrlriiii m0 th aS aI im (nI a) (nI p0) (nI E) 0 2 aB aT se dn aG aO aN aD bv aY rn kd nu tv), (zaI aS cS 901 fS)] s.heap.size = A at hD hQ hE ⊢
  have hA : ∀ q : Nat, s.heap.size ≤ q → A q := fun q h => by rw [← hAe]; exact Or.inr h
  have hS : va_S A s.heap s.heap [] := va_S.rf
  have hl := lv_entry [.ref m0] (n := 1) (Nat.le_of_ble_eq_true rfl)
  rw [lg_entry_eq]
  generalize (lg_sl [.ref m0] ++ List.replicate (1 - (lg_sl [.ref m0]).length) Slot.unset).toArray = ls at hl ⊢
  generalize hag : ([.ref m0] : List Value).toArray = args at hts hQ ⊢
  have hl : lv_has ls 1 [(0, .ref m0)] := hl
  obtain ⟨H, hH⟩ : ∃ H : Heap, H = s.heap := ⟨_, rfl⟩
  rw [← hH] at hP
  rw [← hH]
  have hS : va_S A s.heap H [] := by rw [hH]; exact hS
  obtain ⟨locs, hlo⟩ : ∃ L : List Loc, L = [] := ⟨_, rfl⟩
  rw [← hlo] at hS
  rw [← hlo]
  clear hH hlo
  obtain ⟨ga, gp, gE, zk, gkp, gd, gs, gcd⟩ := id gI
  refine lv_aload_n hx hb dX12_every_0 rfl (lv_at hl 0 rfl) ?_
  have hPc := hP.sub (ws' := [(zo14irriiiiiirriirrrrlriiii m0 th aS aI im (nI a) (nI p0) (nI E) 0 2 aB aT se dn aG aO aN aD bv aY rn kd nu tv), (zaI aS cS 901 fS)]) [0, 1] rfl
  have hDc := hD.sub (ws' := [(zo14irriiiiiirriirrrrlriiii m0 th aS aI im (nI a) (nI p0) (nI E) 0 2 aB aT se dn aG aO aN aD bv aY rn kd nu tv), (zaI aS cS 901 fS)]) [0, 1] (by decide) rfl
  have hKc := hK.sub (tys' := [(cS, .int)]) [0] rfl
  have hFc := va_free (wc := [(zo14irriiiiiirriirrrrlriiii m0 th aS aI im (nI a) (nI p0) (nI E) 0 2 aB aT se dn aG aO aN aD bv aY rn kd nu tv), (zaI aS cS 901 fS)]) hD hS hA [0, 1] rfl
  refine va_callv (va_runV (As := []) (rest := []) ⟨hx, hb, hml, hown, hts⟩ (c_factor2 l dC dI sK sV m0 aS aI aB aT aG aO aN aD aY th im (nI a) (nI p0) (nI E) 0 2 se dn rn kd nu tv bv cS fS a p0 E K d ss H.size ((gI).mono (by omega) (by omega)) (gT)) (cwV 0 hts gX12_every_X12_factor rfl rfl rfl hd_yX12_factor ⟨Nat.le_of_ble_eq_true rfl, Nat.le_of_ble_eq_true rfl⟩) ⟨fun a U g mk q => by obtain ⟨q0, q1, qP, qK, qD, qhE⟩ := q; exact ⟨q0, mvz g mk a q1, mvP g mk a qP, mvK g mk a qK, qD, qhE.mv g mk a⟩, va_recv hK hP (ci := 14) (q := (RX12, TX12, 23)) (q0 := 0) rfl rfl, fun U hU hW => ⟨rfl, by rw [hU], by rw [hU]; exact hPc, va_K.moved hW.alike hKc, hDc.weaken (fun _ _ _ _ => trivial), hE.call hS hU hW (fun q h => hFc q h)⟩⟩ rfl rfl hl.1 rfl (lv_room (Nat.le_of_ble_eq_true rfl)) dX12_every_1 ⟨Nat.le_of_ble_eq_true rfl, Nat.le_of_ble_eq_true rfl⟩) hS (fun q _ h => hFc q h) hFc (fun u tC H1 locs htC hvm hw_2 hB hz1 hk1 hS => ?_)
  obtain ⟨fS9_3, sp9_4, wg9_5⟩ := u
  try dsimp only at hw_2 hB
  obtain ⟨hP1, hK1, hD1⟩ := hB
  rw [htC] at hP1
  have hK1 := va_K.moved hvm.symm hK1
  obtain ⟨hP, hD⟩ := va_join (wr := []) (w1 := [(zo14irriiiiiirriirrrrlriiii m0 th aS aI im (nI a) sp9_4 (nI E) wg9_5 2 aB aT se dn aG aO aN aD bv aY rn kd nu tv), (zaI aS cS 901 fS9_3)]) hP hD [0, 1] [] rfl rfl (by decide) (by decide) hk1 hFc hP1 hD1
  have hK := (hK.sub (tys' := []) [] rfl).app hK1
  generalize H1 = H at hP hS ⊢
  have hP : va_P (dC, dI) vwCl [(zo14irriiiiiirriirrrrlriiii m0 th aS aI im (nI a) sp9_4 (nI E) wg9_5 2 aB aT se dn aG aO aN aD bv aY rn kd nu tv), (zaI aS cS 901 fS9_3)] H := hP
  have hD : va_D A [(zo14irriiiiiirriirrrrlriiii m0 th aS aI im (nI a) sp9_4 (nI E) wg9_5 2 aB aT se dn aG aO aN aD bv aY rn kd nu tv), (zaI aS cS 901 fS9_3)] := hD
  have hK : va_K (dC, dI) vwCl [(cS, .int)] s := hK
  obtain ⟨p_6, rfl, h_9, h_10, hF_11, q9⟩ := hw_2
  rcases q9 with ⟨rfl, eP_8⟩ | ⟨rfl, L_7, eP_8, h_12, hI_13, h_14⟩
  · skip
    have L4 : ∀ (nF : Nat) (p1 : Nat) (L1 : List Nat) (m1 : Nat) (w1 : Int32) (f1 : Nat → Int32), E - p1 < nF → (p0 ≤ p1 ∧ p1 ≤ E) → (PF a fS f1) → ((w1 = 1 ∧ pEv ss (pFac ss 3) p0 = (none, p1)) ∨ (w1 = 0 ∧ pEv ss (pFac ss 3) p0 = pSep ss 38 1802 (pFac ss 3) m1 (some L1, p1) ∧ 101 ≤ m1 + p1 ∧ p0 + 3 ≤ p1 ∧ PI f1 a (K ++ L1) (d + 1) p1 E ∧ L1.length + p0 ≤ p1)) → ∀ (H : Heap) (locs : List Loc), va_K (dC, dI) vwCl [(cS, .int)] s → va_P (dC, dI) vwCl [(zo14irriiiiiirriirrrrlriiii m0 th aS aI im (nI a) (nI p1) (nI E) w1 2 aB aT se dn aG aO aN aD bv aY rn kd nu tv), (zaI aS cS 901 f1)] H → va_D A [(zo14irriiiiiirriirrrrlriiii m0 th aS aI im (nI a) (nI p1) (nI E) w1 2 aB aT se dn aG aO aN aD bv aY rn kd nu tv), (zaI aS cS 901 f1)] → va_S A s.heap H locs → ∀ (ls : Array Slot), lv_has ls 1 [(0, .ref m0)] → W p l e ({ frames := 15, cells := 0, slots := 0, locals := 323 } : Room) s m args below meth c H locs 0 0 Q (F0 m 4 ls []) := by
      intro nF
      induction nF with
      | zero => intro p1 L1 m1 w1 f1 hm; exact absurd hm (Nat.not_lt_zero _)
      | succ nF ih4 =>
        intro p1 L1 m1 w1 f1 hm h1 hF hw1 H locs hK hP hD hS ls hl
        obtain ⟨h1a, h1b⟩ := h1
        rcases hw1 with ⟨rfl, hE9⟩ | ⟨rfl, hE9, hm9, h3, hI, h4⟩
        · skip
          refine lv_aload_n hx hb dX12_every_4 rfl (lv_at hl 0 rfl) ?_
          refine va_get (D := (dC, dI)) (ci := 14) (v := .int 1) (C := RX12) (T := TX12) (N := 23) hx hb hts kc_every2_0 hown hK hP 0 rfl rfl 7 (by decide) (hts (.fieldLink RX12 65 "MistHeapsModel" "isWrong" "Z") kc_every2_1) (fun _ h9 => h9) rfl dX12_every_5 ?_
          refine lv_if_ne (tgt := 43) hx hb dX12_every_8 (by decide) (fun _ => ?_) (fun c_15 => absurd c_15 (by decide))
          rw [hQ]
          have hP9 := hP.sub (ws' := [(zo14irriiiiiirriirrrrlriiii m0 th aS aI im (nI a) (nI p1) (nI E) 1 2 aB aT se dn aG aO aN aD bv aY rn kd nu tv), (zaI aS cS 901 f1)]) [0, 1] rfl
          have hD9 := hD.sub (ws' := [(zo14irriiiiiirriirrrrlriiii m0 th aS aI im (nI a) (nI p1) (nI E) 1 2 aB aT se dn aG aO aN aD bv aY rn kd nu tv), (zaI aS cS 901 f1)]) [0, 1] (by decide) rfl
          have hK9 := hK.sub (tys' := [(cS, .int)]) [0] rfl
          exact W.vret hx hb hr (fun tQ htQ hWQ => ⟨⟨(f1, (nI p1), 1), rfl, ⟨p1, rfl, by omega, by omega, hF, Or.inl ⟨rfl, hE9⟩⟩, by rw [htQ]; exact hP9, va_K.moved hWQ.alike hK9, hD9⟩, hS.F htQ⟩) hS.2.2 dX12_every_43
        · skip
          have k5 := hI.2.2.2.2.1
          have hq1 : (K ++ L1).length = K.length + L1.length := List.length_append
          refine lv_aload_n hx hb dX12_every_4 rfl (lv_at hl 0 rfl) ?_
          refine va_get (D := (dC, dI)) (ci := 14) (v := .int 0) (C := RX12) (T := TX12) (N := 23) hx hb hts kc_every2_0 hown hK hP 0 rfl rfl 7 (by decide) (hts (.fieldLink RX12 65 "MistHeapsModel" "isWrong" "Z") kc_every2_1) (fun _ h9 => h9) rfl dX12_every_5 ?_
          refine lv_if_ne (tgt := 43) hx hb dX12_every_8 (by decide) (fun c_16 => absurd c_16 (by decide)) (fun _ => ?_)
          refine lv_aload_n hx hb dX12_every_11 rfl (lv_at hl 0 rfl) ?_
          have hPc := hP.sub (ws' := [(zo14irriiiiiirriirrrrlriiii m0 th aS aI im (nI a) (nI p1) (nI E) 0 2 aB aT se dn aG aO aN aD bv aY rn kd nu tv), (zaI aS cS 901 f1)]) [0, 1] rfl
          have hKc := hK.sub (tys' := [(cS, .int)]) [0] rfl
          refine vp_callSi (va_runV (As := []) (rest := []) ⟨hx, hb, hml, hown, hts⟩ (c_here l dC dI m0 aS aI aB aT aG aO aN aD aY th im (nI a) (nI p1) (nI E) 0 2 se dn rn kd nu tv bv cS f1 a p1 E (by omega) (by omega) (by omega)) (cwV 0 hts gX12_every_X12_here rfl rfl rfl hd_yX12_here ⟨Nat.le_of_ble_eq_true rfl, Nat.le_of_ble_eq_true rfl⟩) ⟨fun a U g mk q => by obtain ⟨q0, qP, qK⟩ := q; exact ⟨q0, mvP g mk a qP, mvK g mk a qK⟩, va_recv hK hP (ci := 14) (q := (RX12, TX12, 23)) (q0 := 0) rfl rfl, fun U hU hW => ⟨rfl, by rw [hU]; exact hPc, va_K.moved hW.alike hKc⟩⟩ rfl rfl hl.1 rfl (lv_room (Nat.le_of_ble_eq_true rfl)) dX12_every_12 ⟨Nat.le_of_ble_eq_true rfl, Nat.le_of_ble_eq_true rfl⟩).run (fun r_17 hw_18 => ?_)
          refine lv_bipush (v := 38) hx hb dX12_every_15 (by decide) ?_
          refine lv_icmp_ne (tgt := 43) hx hb dX12_every_17 (by decide) (fun c_19 => ?_) (fun c_19 => ?_)
          · skip
            have hn9 : ¬ ss p1 = 38 := fun z => c_19 (by rw [hw_18]; exact ((TP_PF gT gE hF).eq (c := 38) (by omega) (by omega)).mpr z)
            rw [hQ]
            have hP9 := hP.sub (ws' := [(zo14irriiiiiirriirrrrlriiii m0 th aS aI im (nI a) (nI p1) (nI E) 0 2 aB aT se dn aG aO aN aD bv aY rn kd nu tv), (zaI aS cS 901 f1)]) [0, 1] rfl
            have hD9 := hD.sub (ws' := [(zo14irriiiiiirriirrrrlriiii m0 th aS aI im (nI a) (nI p1) (nI E) 0 2 aB aT se dn aG aO aN aD bv aY rn kd nu tv), (zaI aS cS 901 f1)]) [0, 1] (by decide) rfl
            have hK9 := hK.sub (tys' := [(cS, .int)]) [0] rfl
            exact W.vret hx hb hr (fun tQ htQ hWQ => ⟨⟨(f1, (nI p1), 0), rfl, ⟨p1, rfl, by omega, by omega, hF, Or.inr ⟨rfl, L1, hE9.trans (ps_end hn9), by omega, hI, by (try simp only [List.length_append, List.length_cons, List.length_nil]); omega⟩⟩, by rw [htQ]; exact hP9, va_K.moved hWQ.alike hK9, hD9⟩, hS.F htQ⟩) hS.2.2 dX12_every_43
          · skip
            have hs9 : ss p1 = 38 := ((TP_PF gT gE hF).eq (c := 38) (by omega) (by omega)).mp (by rw [← hw_18, c_19]; rfl)
            have hlt : p1 < E := Nat.lt_of_not_le (fun z => by have := gT.2.1 p1 z; omega)
            obtain ⟨m2, rfl⟩ : ∃ q : Nat, m1 = q + 1 := ⟨m1 - 1, by omega⟩
            refine lv_aload_n hx hb dX12_every_20 rfl (lv_at hl 0 rfl) ?_
            refine lv_dup hx hb dX12_every_21 rfl ?_
            refine va_get (D := (dC, dI)) (ci := 14) (v := .int (nI p1)) (C := RX12) (T := TX12) (N := 23) hx hb hts kc_every2_0 hown hK hP 0 rfl rfl 5 (by decide) (hts (.fieldLink RX12 59 "MistHeapsModel" "spot" "I") kc_every2_2) (fun _ h9 => h9) rfl dX12_every_22 ?_
            refine lv_iconst (v := 1) hx hb dX12_every_25 (by decide) ?_
            refine lv_iadd hx hb dX12_every_26 ?_
            refine qi_as (y := nI (p1 + 1)) (nI_add p1 1) ?_
            refine va_put (D := (dC, dI)) (ci := 14) (v := .int (nI (p1 + 1))) (ty := .int) (C := RX12) (T := TX12) (N := 23) hx hb hts kc_every2_0 tyX12 tyX12_ok nmX12 hown hK hP hD hS 0 rfl rfl 5 (by decide) (hts (.fieldLink RX12 59 "MistHeapsModel" "spot" "I") kc_every2_2) (fun _ h9 => h9) rfl (by decide +kernel) rfl rfl (Nat.le_of_ble_eq_true rfl) dX12_every_27 (fun H locs hP hD hS => ?_)
            have hP : va_P (dC, dI) vwCl [(zo14irriiiiiirriirrrrlriiii m0 th aS aI im (nI a) (nI (p1 + 1)) (nI E) 0 2 aB aT se dn aG aO aN aD bv aY rn kd nu tv), (zaI aS cS 901 f1)] H := hP
            have hD : va_D A [(zo14irriiiiiirriirrrrlriiii m0 th aS aI im (nI a) (nI (p1 + 1)) (nI E) 0 2 aB aT se dn aG aO aN aD bv aY rn kd nu tv), (zaI aS cS 901 f1)] := hD
            refine lv_aload_n hx hb dX12_every_30 rfl (lv_at hl 0 rfl) ?_
            have hPc := hP.sub (ws' := [(zo14irriiiiiirriirrrrlriiii m0 th aS aI im (nI a) (nI (p1 + 1)) (nI E) 0 2 aB aT se dn aG aO aN aD bv aY rn kd nu tv), (zaI aS cS 901 f1)]) [0, 1] rfl
            have hDc := hD.sub (ws' := [(zo14irriiiiiirriirrrrlriiii m0 th aS aI im (nI a) (nI (p1 + 1)) (nI E) 0 2 aB aT se dn aG aO aN aD bv aY rn kd nu tv), (zaI aS cS 901 f1)]) [0, 1] (by decide) rfl
            have hKc := hK.sub (tys' := [(cS, .int)]) [0] rfl
            have hFc := va_free (wc := [(zo14irriiiiiirriirrrrlriiii m0 th aS aI im (nI a) (nI (p1 + 1)) (nI E) 0 2 aB aT se dn aG aO aN aD bv aY rn kd nu tv), (zaI aS cS 901 f1)]) hD hS hA [0, 1] rfl
            refine va_callv (va_runV (As := []) (rest := []) ⟨hx, hb, hml, hown, hts⟩ (c_factor2 l dC dI sK sV m0 aS aI aB aT aG aO aN aD aY th im (nI a) (nI (p1 + 1)) (nI E) 0 2 se dn rn kd nu tv bv cS f1 a (p1 + 1) E (K ++ L1) (d + 1) ss H.size ((hI).mono (by omega) (by omega)) ((TP_PF gT gE (hF)))) (cwV 0 hts gX12_every_X12_factor rfl rfl rfl hd_yX12_factor ⟨Nat.le_of_ble_eq_true rfl, Nat.le_of_ble_eq_true rfl⟩) ⟨fun a U g mk q => by obtain ⟨q0, q1, qP, qK, qD, qhE⟩ := q; exact ⟨q0, mvz g mk a q1, mvP g mk a qP, mvK g mk a qK, qD, qhE.mv g mk a⟩, va_recv hK hP (ci := 14) (q := (RX12, TX12, 23)) (q0 := 0) rfl rfl, fun U hU hW => ⟨rfl, by rw [hU], by rw [hU]; exact hPc, va_K.moved hW.alike hKc, hDc.weaken (fun _ _ _ _ => trivial), hE.call hS hU hW (fun q h => hFc q h)⟩⟩ rfl rfl hl.1 rfl (lv_room (Nat.le_of_ble_eq_true rfl)) dX12_every_31 ⟨Nat.le_of_ble_eq_true rfl, Nat.le_of_ble_eq_true rfl⟩) hS (fun q _ h => hFc q h) hFc (fun u tC H1 locs htC hvm hw_21 hB hz1 hk1 hS => ?_)
            obtain ⟨fS9_22, sp9_23, wg9_24⟩ := u
            try dsimp only at hw_21 hB
            obtain ⟨hP1, hK1, hD1⟩ := hB
            rw [htC] at hP1
            have hK1 := va_K.moved hvm.symm hK1
            obtain ⟨hP, hD⟩ := va_join (wr := []) (w1 := [(zo14irriiiiiirriirrrrlriiii m0 th aS aI im (nI a) sp9_23 (nI E) wg9_24 2 aB aT se dn aG aO aN aD bv aY rn kd nu tv), (zaI aS cS 901 fS9_22)]) hP hD [0, 1] [] rfl rfl (by decide) (by decide) hk1 hFc hP1 hD1
            have hK := (hK.sub (tys' := []) [] rfl).app hK1
            generalize H1 = H at hP hS ⊢
            have hP : va_P (dC, dI) vwCl [(zo14irriiiiiirriirrrrlriiii m0 th aS aI im (nI a) sp9_23 (nI E) wg9_24 2 aB aT se dn aG aO aN aD bv aY rn kd nu tv), (zaI aS cS 901 fS9_22)] H := hP
            have hD : va_D A [(zo14irriiiiiirriirrrrlriiii m0 th aS aI im (nI a) sp9_23 (nI E) wg9_24 2 aB aT se dn aG aO aN aD bv aY rn kd nu tv), (zaI aS cS 901 fS9_22)] := hD
            have hK : va_K (dC, dI) vwCl [(cS, .int)] s := hK
            obtain ⟨p_25, rfl, h_28, h_29, hF_30, q9⟩ := hw_21
            rcases q9 with ⟨rfl, eP_27⟩ | ⟨rfl, L_26, eP_27, h_31, hI_32, h_33⟩
            · skip
              refine lv_aload_n hx hb dX12_every_34 rfl (lv_at hl 0 rfl) ?_
              refine lv_bipush (v := (-2)) hx hb dX12_every_35 (by decide) ?_
              have hPc := hP.sub (ws' := [(zo14irriiiiiirriirrrrlriiii m0 th aS aI im (nI a) (nI p_25) (nI E) 1 2 aB aT se dn aG aO aN aD bv aY rn kd nu tv)]) [0] rfl
              have hKc := hK.sub (tys' := []) [] rfl
              refine va_csv (va_runV (As := [.int (-2)]) (rest := []) ⟨hx, hb, hml, hown, hts⟩ (c_emitsW l dC dI m0 aS aI aB aT aG aO aN aD aY th im (nI a) (nI p_25) (nI E) 1 2 se dn rn kd nu tv bv (-2)) (cwV 1 hts gX12_every_X12_emits rfl rfl rfl hd_yX12_emits ⟨Nat.le_of_ble_eq_true rfl, Nat.le_of_ble_eq_true rfl⟩) ⟨fun a U g mk q => by obtain ⟨q0, qP, qK⟩ := q; exact ⟨q0, mvP g mk a qP, mvK g mk a qK⟩, va_recv hK hP (ci := 14) (q := (RX12, TX12, 23)) (q0 := 0) rfl rfl, fun U hU hW => ⟨rfl, by rw [hU]; exact hPc, va_K.moved hW.alike hKc⟩⟩ rfl rfl hl.1 rfl (lv_room (Nat.le_of_ble_eq_true rfl)) dX12_every_37 ⟨Nat.le_of_ble_eq_true rfl, Nat.le_of_ble_eq_true rfl⟩).run (fun hw_35 => ?_)
              refine lv_goto (tgt := 4) hx hb dX12_every_40 (by decide) ?_
              exact ih4 (p_25) ([]) (0) (1) (fS9_22) (by omega) (by omega) ((hF).tr hF_30) (Or.inl ⟨rfl, hE9.trans (ps_bad hs9 eP_27)⟩) _ _ (hK.sub [0] rfl) (hP.sub [0, 1] rfl) (hD.sub [0, 1] (by decide) rfl) hS ls (lv_sub hl [0] rfl)
            · skip
              have k5 := hI_32.2.2.2.2.1
              have hqL_26 : ((K ++ L1) ++ L_26).length = (K ++ L1).length + L_26.length := List.length_append
              refine lv_aload_n hx hb dX12_every_34 rfl (lv_at hl 0 rfl) ?_
              refine lv_bipush (v := (-2)) hx hb dX12_every_35 (by decide) ?_
              have hPc := hP.sub (ws' := [(zo14irriiiiiirriirrrrlriiii m0 th aS aI im (nI a) (nI p_25) (nI E) 0 2 aB aT se dn aG aO aN aD bv aY rn kd nu tv), (zaI aS cS 901 fS9_22)]) [0, 1] rfl
              have hDc := hD.sub (ws' := [(zo14irriiiiiirriirrrrlriiii m0 th aS aI im (nI a) (nI p_25) (nI E) 0 2 aB aT se dn aG aO aN aD bv aY rn kd nu tv), (zaI aS cS 901 fS9_22)]) [0, 1] (by decide) rfl
              have hKc := hK.sub (tys' := [(cS, .int)]) [0] rfl
              have hFc := va_free (wc := [(zo14irriiiiiirriirrrrlriiii m0 th aS aI im (nI a) (nI p_25) (nI E) 0 2 aB aT se dn aG aO aN aD bv aY rn kd nu tv), (zaI aS cS 901 fS9_22)]) hD hS hA [0, 1] rfl
              refine va_callv (va_runV (As := [.int (-2)]) (rest := []) ⟨hx, hb, hml, hown, hts⟩ (c_emits l dC dI m0 aS aI aB aT aG aO aN aD aY th im (nI a) (nI p_25) (nI E) 0 2 se dn rn kd nu tv bv cS fS9_22 a ((K ++ L1) ++ L_26).length (-2) H.size (ga) ((hI_32).2.2.2.1) (by have := (hI_32).2.2.2.2.1; omega)) (cwV 1 hts gX12_every_X12_emits rfl rfl rfl hd_yX12_emits ⟨Nat.le_of_ble_eq_true rfl, Nat.le_of_ble_eq_true rfl⟩) ⟨fun a U g mk q => by obtain ⟨q0, q1, qP, qK, qD⟩ := q; exact ⟨q0, mvz g mk a q1, mvP g mk a qP, mvK g mk a qK, qD⟩, va_recv hK hP (ci := 14) (q := (RX12, TX12, 23)) (q0 := 0) rfl rfl, fun U hU hW => ⟨rfl, by rw [hU], by rw [hU]; exact hPc, va_K.moved hW.alike hKc, hDc.weaken (fun _ _ _ _ => trivial)⟩⟩ rfl rfl hl.1 rfl (lv_room (Nat.le_of_ble_eq_true rfl)) dX12_every_37 ⟨Nat.le_of_ble_eq_true rfl, Nat.le_of_ble_eq_true rfl⟩) hS (fun q _ h => hFc q h) hFc (fun u tC H1 locs htC hvm hw_37 hB hz1 hk1 hS => ?_)
              obtain ⟨fS9_38, rfl⟩ : ∃ z, z = u := ⟨_, rfl⟩
              try dsimp only at hw_37 hB
              obtain ⟨hP1, hK1, hD1⟩ := hB
              rw [htC] at hP1
              have hK1 := va_K.moved hvm.symm hK1
              obtain ⟨hP, hD⟩ := va_join (wr := []) (w1 := [(zo14irriiiiiirriirrrrlriiii m0 th aS aI im (nI a) (nI p_25) (nI E) 0 2 aB aT se dn aG aO aN aD bv aY rn kd nu tv), (zaI aS cS 901 fS9_38)]) hP hD [0, 1] [] rfl rfl (by decide) (by decide) hk1 hFc hP1 hD1
              have hK := (hK.sub (tys' := []) [] rfl).app hK1
              generalize H1 = H at hP hS ⊢
              have hP : va_P (dC, dI) vwCl [(zo14irriiiiiirriirrrrlriiii m0 th aS aI im (nI a) (nI p_25) (nI E) 0 2 aB aT se dn aG aO aN aD bv aY rn kd nu tv), (zaI aS cS 901 fS9_38)] H := hP
              have hD : va_D A [(zo14irriiiiiirriirrrrlriiii m0 th aS aI im (nI a) (nI p_25) (nI E) 0 2 aB aT se dn aG aO aN aD bv aY rn kd nu tv), (zaI aS cS 901 fS9_38)] := hD
              have hK : va_K (dC, dI) vwCl [(cS, .int)] s := hK
              obtain rfl : fS9_38 = emt fS9_22 a ((K ++ L1) ++ L_26).length (-2) := by rcases hw_37 with ⟨q, _⟩ | ⟨_, q⟩; exact absurd rfl q; exact q
              have hI_39 : PI (emt fS9_22 a ((K ++ L1) ++ L_26).length (-2)) a (((K ++ L1) ++ L_26) ++ [1802]) (((d + 1) + 1) - 1) p_25 E := PI.em (t := 1802) ((hI_32).mono (by omega) (by omega)) (by omega) (by omega) (stepd_both (by omega)) (by decide)
              have hF_40 : PF a fS (emt fS9_22 a ((K ++ L1) ++ L_26).length (-2)) := ((hF).tr hF_30).tr (PF_emt (k := ((K ++ L1) ++ L_26).length) (x := (-2)) ga (by have := (hI_32).2.2.2.2.1; omega))
              have hKhI_39 : (((K ++ L1) ++ L_26) ++ [1802]).length = ((K ++ L1) ++ L_26).length + 1 := by rw [List.length_append]; rfl
              refine lv_goto (tgt := 4) hx hb dX12_every_40 (by decide) ?_
              exact ih4 (p_25) (L1 ++ (L_26 ++ [1802])) (m2) (0) (emt fS9_22 a ((K ++ L1) ++ L_26).length (-2)) (by omega) (by omega) (hF_40) (Or.inr ⟨rfl, hE9.trans (ps_go hs9 eP_27), by omega, by omega, PI.as (PI.as hI_39), by simp only [List.length_append, List.length_cons, List.length_nil]; omega⟩) _ _ (hK.sub [0] rfl) (hP.sub [0, 1] rfl) (hD.sub [0, 1] (by decide) rfl) hS ls (lv_sub hl [0] rfl)
    exact L4 _ (p_6) ([]) (0) (1) (fS9_3) (Nat.lt_succ_self _) (by omega) ((PF.rf).tr hF_11) (Or.inl ⟨rfl, pEv_n eP_8⟩) _ _ (hK.sub [0] rfl) (hP.sub [0, 1] rfl) (hD.sub [0, 1] (by decide) rfl) hS ls (lv_sub hl [0] rfl)
  · skip
    have k5 := hI_13.2.2.2.2.1
    have hqL_7 : (K ++ L_7).length = K.length + L_7.length := List.length_append
    have L4 : ∀ (nF : Nat) (p1 : Nat) (L1 : List Nat) (m1 : Nat) (w1 : Int32) (f1 : Nat → Int32), E - p1 < nF → (p0 ≤ p1 ∧ p1 ≤ E) → (PF a fS f1) → ((w1 = 1 ∧ pEv ss (pFac ss 3) p0 = (none, p1)) ∨ (w1 = 0 ∧ pEv ss (pFac ss 3) p0 = pSep ss 38 1802 (pFac ss 3) m1 (some L1, p1) ∧ 101 ≤ m1 + p1 ∧ p0 + 3 ≤ p1 ∧ PI f1 a (K ++ L1) (d + 1) p1 E ∧ L1.length + p0 ≤ p1)) → ∀ (H : Heap) (locs : List Loc), va_K (dC, dI) vwCl [(cS, .int)] s → va_P (dC, dI) vwCl [(zo14irriiiiiirriirrrrlriiii m0 th aS aI im (nI a) (nI p1) (nI E) w1 2 aB aT se dn aG aO aN aD bv aY rn kd nu tv), (zaI aS cS 901 f1)] H → va_D A [(zo14irriiiiiirriirrrrlriiii m0 th aS aI im (nI a) (nI p1) (nI E) w1 2 aB aT se dn aG aO aN aD bv aY rn kd nu tv), (zaI aS cS 901 f1)] → va_S A s.heap H locs → ∀ (ls : Array Slot), lv_has ls 1 [(0, .ref m0)] → W p l e ({ frames := 15, cells := 0, slots := 0, locals := 323 } : Room) s m args below meth c H locs 0 0 Q (F0 m 4 ls []) := by
      intro nF
      induction nF with
      | zero => intro p1 L1 m1 w1 f1 hm; exact absurd hm (Nat.not_lt_zero _)
      | succ nF ih4 =>
        intro p1 L1 m1 w1 f1 hm h1 hF hw1 H locs hK hP hD hS ls hl
        obtain ⟨h1a, h1b⟩ := h1
        rcases hw1 with ⟨rfl, hE9⟩ | ⟨rfl, hE9, hm9, h3, hI, h4⟩
        · skip
          refine lv_aload_n hx hb dX12_every_4 rfl (lv_at hl 0 rfl) ?_
          refine va_get (D := (dC, dI)) (ci := 14) (v := .int 1) (C := RX12) (T := TX12) (N := 23) hx hb hts kc_every2_0 hown hK hP 0 rfl rfl 7 (by decide) (hts (.fieldLink RX12 65 "MistHeapsModel" "isWrong" "Z") kc_every2_1) (fun _ h9 => h9) rfl dX12_every_5 ?_
          refine lv_if_ne (tgt := 43) hx hb dX12_every_8 (by decide) (fun _ => ?_) (fun c_41 => absurd c_41 (by decide))
          rw [hQ]
          have hP9 := hP.sub (ws' := [(zo14irriiiiiirriirrrrlriiii m0 th aS aI im (nI a) (nI p1) (nI E) 1 2 aB aT se dn aG aO aN aD bv aY rn kd nu tv), (zaI aS cS 901 f1)]) [0, 1] rfl
          have hD9 := hD.sub (ws' := [(zo14irriiiiiirriirrrrlriiii m0 th aS aI im (nI a) (nI p1) (nI E) 1 2 aB aT se dn aG aO aN aD bv aY rn kd nu tv), (zaI aS cS 901 f1)]) [0, 1] (by decide) rfl
          have hK9 := hK.sub (tys' := [(cS, .int)]) [0] rfl
          exact W.vret hx hb hr (fun tQ htQ hWQ => ⟨⟨(f1, (nI p1), 1), rfl, ⟨p1, rfl, by omega, by omega, hF, Or.inl ⟨rfl, hE9⟩⟩, by rw [htQ]; exact hP9, va_K.moved hWQ.alike hK9, hD9⟩, hS.F htQ⟩) hS.2.2 dX12_every_43
        · skip
          have k5 := hI.2.2.2.2.1
          have hq1 : (K ++ L1).length = K.length + L1.length := List.length_append
          refine lv_aload_n hx hb dX12_every_4 rfl (lv_at hl 0 rfl) ?_
          refine va_get (D := (dC, dI)) (ci := 14) (v := .int 0) (C := RX12) (T := TX12) (N := 23) hx hb hts kc_every2_0 hown hK hP 0 rfl rfl 7 (by decide) (hts (.fieldLink RX12 65 "MistHeapsModel" "isWrong" "Z") kc_every2_1) (fun _ h9 => h9) rfl dX12_every_5 ?_
          refine lv_if_ne (tgt := 43) hx hb dX12_every_8 (by decide) (fun c_42 => absurd c_42 (by decide)) (fun _ => ?_)
          refine lv_aload_n hx hb dX12_every_11 rfl (lv_at hl 0 rfl) ?_
          have hPc := hP.sub (ws' := [(zo14irriiiiiirriirrrrlriiii m0 th aS aI im (nI a) (nI p1) (nI E) 0 2 aB aT se dn aG aO aN aD bv aY rn kd nu tv), (zaI aS cS 901 f1)]) [0, 1] rfl
          have hKc := hK.sub (tys' := [(cS, .int)]) [0] rfl
          refine vp_callSi (va_runV (As := []) (rest := []) ⟨hx, hb, hml, hown, hts⟩ (c_here l dC dI m0 aS aI aB aT aG aO aN aD aY th im (nI a) (nI p1) (nI E) 0 2 se dn rn kd nu tv bv cS f1 a p1 E (by omega) (by omega) (by omega)) (cwV 0 hts gX12_every_X12_here rfl rfl rfl hd_yX12_here ⟨Nat.le_of_ble_eq_true rfl, Nat.le_of_ble_eq_true rfl⟩) ⟨fun a U g mk q => by obtain ⟨q0, qP, qK⟩ := q; exact ⟨q0, mvP g mk a qP, mvK g mk a qK⟩, va_recv hK hP (ci := 14) (q := (RX12, TX12, 23)) (q0 := 0) rfl rfl, fun U hU hW => ⟨rfl, by rw [hU]; exact hPc, va_K.moved hW.alike hKc⟩⟩ rfl rfl hl.1 rfl (lv_room (Nat.le_of_ble_eq_true rfl)) dX12_every_12 ⟨Nat.le_of_ble_eq_true rfl, Nat.le_of_ble_eq_true rfl⟩).run (fun r_43 hw_44 => ?_)
          refine lv_bipush (v := 38) hx hb dX12_every_15 (by decide) ?_
          refine lv_icmp_ne (tgt := 43) hx hb dX12_every_17 (by decide) (fun c_45 => ?_) (fun c_45 => ?_)
          · skip
            have hn9 : ¬ ss p1 = 38 := fun z => c_45 (by rw [hw_44]; exact ((TP_PF gT gE hF).eq (c := 38) (by omega) (by omega)).mpr z)
            rw [hQ]
            have hP9 := hP.sub (ws' := [(zo14irriiiiiirriirrrrlriiii m0 th aS aI im (nI a) (nI p1) (nI E) 0 2 aB aT se dn aG aO aN aD bv aY rn kd nu tv), (zaI aS cS 901 f1)]) [0, 1] rfl
            have hD9 := hD.sub (ws' := [(zo14irriiiiiirriirrrrlriiii m0 th aS aI im (nI a) (nI p1) (nI E) 0 2 aB aT se dn aG aO aN aD bv aY rn kd nu tv), (zaI aS cS 901 f1)]) [0, 1] (by decide) rfl
            have hK9 := hK.sub (tys' := [(cS, .int)]) [0] rfl
            exact W.vret hx hb hr (fun tQ htQ hWQ => ⟨⟨(f1, (nI p1), 0), rfl, ⟨p1, rfl, by omega, by omega, hF, Or.inr ⟨rfl, L1, hE9.trans (ps_end hn9), by omega, hI, by (try simp only [List.length_append, List.length_cons, List.length_nil]); omega⟩⟩, by rw [htQ]; exact hP9, va_K.moved hWQ.alike hK9, hD9⟩, hS.F htQ⟩) hS.2.2 dX12_every_43
          · skip
            have hs9 : ss p1 = 38 := ((TP_PF gT gE hF).eq (c := 38) (by omega) (by omega)).mp (by rw [← hw_44, c_45]; rfl)
            have hlt : p1 < E := Nat.lt_of_not_le (fun z => by have := gT.2.1 p1 z; omega)
            obtain ⟨m2, rfl⟩ : ∃ q : Nat, m1 = q + 1 := ⟨m1 - 1, by omega⟩
            refine lv_aload_n hx hb dX12_every_20 rfl (lv_at hl 0 rfl) ?_
            refine lv_dup hx hb dX12_every_21 rfl ?_
            refine va_get (D := (dC, dI)) (ci := 14) (v := .int (nI p1)) (C := RX12) (T := TX12) (N := 23) hx hb hts kc_every2_0 hown hK hP 0 rfl rfl 5 (by decide) (hts (.fieldLink RX12 59 "MistHeapsModel" "spot" "I") kc_every2_2) (fun _ h9 => h9) rfl dX12_every_22 ?_
            refine lv_iconst (v := 1) hx hb dX12_every_25 (by decide) ?_
            refine lv_iadd hx hb dX12_every_26 ?_
            refine qi_as (y := nI (p1 + 1)) (nI_add p1 1) ?_
            refine va_put (D := (dC, dI)) (ci := 14) (v := .int (nI (p1 + 1))) (ty := .int) (C := RX12) (T := TX12) (N := 23) hx hb hts kc_every2_0 tyX12 tyX12_ok nmX12 hown hK hP hD hS 0 rfl rfl 5 (by decide) (hts (.fieldLink RX12 59 "MistHeapsModel" "spot" "I") kc_every2_2) (fun _ h9 => h9) rfl (by decide +kernel) rfl rfl (Nat.le_of_ble_eq_true rfl) dX12_every_27 (fun H locs hP hD hS => ?_)
            have hP : va_P (dC, dI) vwCl [(zo14irriiiiiirriirrrrlriiii m0 th aS aI im (nI a) (nI (p1 + 1)) (nI E) 0 2 aB aT se dn aG aO aN aD bv aY rn kd nu tv), (zaI aS cS 901 f1)] H := hP
            have hD : va_D A [(zo14irriiiiiirriirrrrlriiii m0 th aS aI im (nI a) (nI (p1 + 1)) (nI E) 0 2 aB aT se dn aG aO aN aD bv aY rn kd nu tv), (zaI aS cS 901 f1)] := hD
            refine lv_aload_n hx hb dX12_every_30 rfl (lv_at hl 0 rfl) ?_
            have hPc := hP.sub (ws' := [(zo14irriiiiiirriirrrrlriiii m0 th aS aI im (nI a) (nI (p1 + 1)) (nI E) 0 2 aB aT se dn aG aO aN aD bv aY rn kd nu tv), (zaI aS cS 901 f1)]) [0, 1] rfl
            have hDc := hD.sub (ws' := [(zo14irriiiiiirriirrrrlriiii m0 th aS aI im (nI a) (nI (p1 + 1)) (nI E) 0 2 aB aT se dn aG aO aN aD bv aY rn kd nu tv), (zaI aS cS 901 f1)]) [0, 1] (by decide) rfl
            have hKc := hK.sub (tys' := [(cS, .int)]) [0] rfl
            have hFc := va_free (wc := [(zo14irriiiiiirriirrrrlriiii m0 th aS aI im (nI a) (nI (p1 + 1)) (nI E) 0 2 aB aT se dn aG aO aN aD bv aY rn kd nu tv), (zaI aS cS 901 f1)]) hD hS hA [0, 1] rfl
            refine va_callv (va_runV (As := []) (rest := []) ⟨hx, hb, hml, hown, hts⟩ (c_factor2 l dC dI sK sV m0 aS aI aB aT aG aO aN aD aY th im (nI a) (nI (p1 + 1)) (nI E) 0 2 se dn rn kd nu tv bv cS f1 a (p1 + 1) E (K ++ L1) (d + 1) ss H.size ((hI).mono (by omega) (by omega)) ((TP_PF gT gE (hF)))) (cwV 0 hts gX12_every_X12_factor rfl rfl rfl hd_yX12_factor ⟨Nat.le_of_ble_eq_true rfl, Nat.le_of_ble_eq_true rfl⟩) ⟨fun a U g mk q => by obtain ⟨q0, q1, qP, qK, qD, qhE⟩ := q; exact ⟨q0, mvz g mk a q1, mvP g mk a qP, mvK g mk a qK, qD, qhE.mv g mk a⟩, va_recv hK hP (ci := 14) (q := (RX12, TX12, 23)) (q0 := 0) rfl rfl, fun U hU hW => ⟨rfl, by rw [hU], by rw [hU]; exact hPc, va_K.moved hW.alike hKc, hDc.weaken (fun _ _ _ _ => trivial), hE.call hS hU hW (fun q h => hFc q h)⟩⟩ rfl rfl hl.1 rfl (lv_room (Nat.le_of_ble_eq_true rfl)) dX12_every_31 ⟨Nat.le_of_ble_eq_true rfl, Nat.le_of_ble_eq_true rfl⟩) hS (fun q _ h => hFc q h) hFc (fun u tC H1 locs htC hvm hw_47 hB hz1 hk1 hS => ?_)
            obtain ⟨fS9_48, sp9_49, wg9_50⟩ := u
            try dsimp only at hw_47 hB
            obtain ⟨hP1, hK1, hD1⟩ := hB
            rw [htC] at hP1
            have hK1 := va_K.moved hvm.symm hK1
            obtain ⟨hP, hD⟩ := va_join (wr := []) (w1 := [(zo14irriiiiiirriirrrrlriiii m0 th aS aI im (nI a) sp9_49 (nI E) wg9_50 2 aB aT se dn aG aO aN aD bv aY rn kd nu tv), (zaI aS cS 901 fS9_48)]) hP hD [0, 1] [] rfl rfl (by decide) (by decide) hk1 hFc hP1 hD1
            have hK := (hK.sub (tys' := []) [] rfl).app hK1
            generalize H1 = H at hP hS ⊢
            have hP : va_P (dC, dI) vwCl [(zo14irriiiiiirriirrrrlriiii m0 th aS aI im (nI a) sp9_49 (nI E) wg9_50 2 aB aT se dn aG aO aN aD bv aY rn kd nu tv), (zaI aS cS 901 fS9_48)] H := hP
            have hD : va_D A [(zo14irriiiiiirriirrrrlriiii m0 th aS aI im (nI a) sp9_49 (nI E) wg9_50 2 aB aT se dn aG aO aN aD bv aY rn kd nu tv), (zaI aS cS 901 fS9_48)] := hD
            have hK : va_K (dC, dI) vwCl [(cS, .int)] s := hK
            obtain ⟨p_51, rfl, h_54, h_55, hF_56, q9⟩ := hw_47
            rcases q9 with ⟨rfl, eP_53⟩ | ⟨rfl, L_52, eP_53, h_57, hI_58, h_59⟩
            · skip
              refine lv_aload_n hx hb dX12_every_34 rfl (lv_at hl 0 rfl) ?_
              refine lv_bipush (v := (-2)) hx hb dX12_every_35 (by decide) ?_
              have hPc := hP.sub (ws' := [(zo14irriiiiiirriirrrrlriiii m0 th aS aI im (nI a) (nI p_51) (nI E) 1 2 aB aT se dn aG aO aN aD bv aY rn kd nu tv)]) [0] rfl
              have hKc := hK.sub (tys' := []) [] rfl
              refine va_csv (va_runV (As := [.int (-2)]) (rest := []) ⟨hx, hb, hml, hown, hts⟩ (c_emitsW l dC dI m0 aS aI aB aT aG aO aN aD aY th im (nI a) (nI p_51) (nI E) 1 2 se dn rn kd nu tv bv (-2)) (cwV 1 hts gX12_every_X12_emits rfl rfl rfl hd_yX12_emits ⟨Nat.le_of_ble_eq_true rfl, Nat.le_of_ble_eq_true rfl⟩) ⟨fun a U g mk q => by obtain ⟨q0, qP, qK⟩ := q; exact ⟨q0, mvP g mk a qP, mvK g mk a qK⟩, va_recv hK hP (ci := 14) (q := (RX12, TX12, 23)) (q0 := 0) rfl rfl, fun U hU hW => ⟨rfl, by rw [hU]; exact hPc, va_K.moved hW.alike hKc⟩⟩ rfl rfl hl.1 rfl (lv_room (Nat.le_of_ble_eq_true rfl)) dX12_every_37 ⟨Nat.le_of_ble_eq_true rfl, Nat.le_of_ble_eq_true rfl⟩).run (fun hw_61 => ?_)
              refine lv_goto (tgt := 4) hx hb dX12_every_40 (by decide) ?_
              exact ih4 (p_51) ([]) (0) (1) (fS9_48) (by omega) (by omega) ((hF).tr hF_56) (Or.inl ⟨rfl, hE9.trans (ps_bad hs9 eP_53)⟩) _ _ (hK.sub [0] rfl) (hP.sub [0, 1] rfl) (hD.sub [0, 1] (by decide) rfl) hS ls (lv_sub hl [0] rfl)
            · skip
              have k5 := hI_58.2.2.2.2.1
              have hqL_52 : ((K ++ L1) ++ L_52).length = (K ++ L1).length + L_52.length := List.length_append
              refine lv_aload_n hx hb dX12_every_34 rfl (lv_at hl 0 rfl) ?_
              refine lv_bipush (v := (-2)) hx hb dX12_every_35 (by decide) ?_
              have hPc := hP.sub (ws' := [(zo14irriiiiiirriirrrrlriiii m0 th aS aI im (nI a) (nI p_51) (nI E) 0 2 aB aT se dn aG aO aN aD bv aY rn kd nu tv), (zaI aS cS 901 fS9_48)]) [0, 1] rfl
              have hDc := hD.sub (ws' := [(zo14irriiiiiirriirrrrlriiii m0 th aS aI im (nI a) (nI p_51) (nI E) 0 2 aB aT se dn aG aO aN aD bv aY rn kd nu tv), (zaI aS cS 901 fS9_48)]) [0, 1] (by decide) rfl
              have hKc := hK.sub (tys' := [(cS, .int)]) [0] rfl
              have hFc := va_free (wc := [(zo14irriiiiiirriirrrrlriiii m0 th aS aI im (nI a) (nI p_51) (nI E) 0 2 aB aT se dn aG aO aN aD bv aY rn kd nu tv), (zaI aS cS 901 fS9_48)]) hD hS hA [0, 1] rfl
              refine va_callv (va_runV (As := [.int (-2)]) (rest := []) ⟨hx, hb, hml, hown, hts⟩ (c_emits l dC dI m0 aS aI aB aT aG aO aN aD aY th im (nI a) (nI p_51) (nI E) 0 2 se dn rn kd nu tv bv cS fS9_48 a ((K ++ L1) ++ L_52).length (-2) H.size (ga) ((hI_58).2.2.2.1) (by have := (hI_58).2.2.2.2.1; omega)) (cwV 1 hts gX12_every_X12_emits rfl rfl rfl hd_yX12_emits ⟨Nat.le_of_ble_eq_true rfl, Nat.le_of_ble_eq_true rfl⟩) ⟨fun a U g mk q => by obtain ⟨q0, q1, qP, qK, qD⟩ := q; exact ⟨q0, mvz g mk a q1, mvP g mk a qP, mvK g mk a qK, qD⟩, va_recv hK hP (ci := 14) (q := (RX12, TX12, 23)) (q0 := 0) rfl rfl, fun U hU hW => ⟨rfl, by rw [hU], by rw [hU]; exact hPc, va_K.moved hW.alike hKc, hDc.weaken (fun _ _ _ _ => trivial)⟩⟩ rfl rfl hl.1 rfl (lv_room (Nat.le_of_ble_eq_true rfl)) dX12_every_37 ⟨Nat.le_of_ble_eq_true rfl, Nat.le_of_ble_eq_true rfl⟩) hS (fun q _ h => hFc q h) hFc (fun u tC H1 locs htC hvm hw_63 hB hz1 hk1 hS => ?_)
              obtain ⟨fS9_64, rfl⟩ : ∃ z, z = u := ⟨_, rfl⟩
              try dsimp only at hw_63 hB
              obtain ⟨hP1, hK1, hD1⟩ := hB
              rw [htC] at hP1
              have hK1 := va_K.moved hvm.symm hK1
              obtain ⟨hP, hD⟩ := va_join (wr := []) (w1 := [(zo14irriiiiiirriirrrrlriiii m0 th aS aI im (nI a) (nI p_51) (nI E) 0 2 aB aT se dn aG aO aN aD bv aY rn kd nu tv), (zaI aS cS 901 fS9_64)]) hP hD [0, 1] [] rfl rfl (by decide) (by decide) hk1 hFc hP1 hD1
              have hK := (hK.sub (tys' := []) [] rfl).app hK1
              generalize H1 = H at hP hS ⊢
              have hP : va_P (dC, dI) vwCl [(zo14irriiiiiirriirrrrlriiii m0 th aS aI im (nI a) (nI p_51) (nI E) 0 2 aB aT se dn aG aO aN aD bv aY rn kd nu tv), (zaI aS cS 901 fS9_64)] H := hP
              have hD : va_D A [(zo14irriiiiiirriirrrrlriiii m0 th aS aI im (nI a) (nI p_51) (nI E) 0 2 aB aT se dn aG aO aN aD bv aY rn kd nu tv), (zaI aS cS 901 fS9_64)] := hD
              have hK : va_K (dC, dI) vwCl [(cS, .int)] s := hK
              obtain rfl : fS9_64 = emt fS9_48 a ((K ++ L1) ++ L_52).length (-2) := by rcases hw_63 with ⟨q, _⟩ | ⟨_, q⟩; exact absurd rfl q; exact q
              have hI_65 : PI (emt fS9_48 a ((K ++ L1) ++ L_52).length (-2)) a (((K ++ L1) ++ L_52) ++ [1802]) (((d + 1) + 1) - 1) p_51 E := PI.em (t := 1802) ((hI_58).mono (by omega) (by omega)) (by omega) (by omega) (stepd_both (by omega)) (by decide)
              have hF_66 : PF a fS (emt fS9_48 a ((K ++ L1) ++ L_52).length (-2)) := ((hF).tr hF_56).tr (PF_emt (k := ((K ++ L1) ++ L_52).length) (x := (-2)) ga (by have := (hI_58).2.2.2.2.1; omega))
              have hKhI_65 : (((K ++ L1) ++ L_52) ++ [1802]).length = ((K ++ L1) ++ L_52).length + 1 := by rw [List.length_append]; rfl
              refine lv_goto (tgt := 4) hx hb dX12_every_40 (by decide) ?_
              exact ih4 (p_51) (L1 ++ (L_52 ++ [1802])) (m2) (0) (emt fS9_48 a ((K ++ L1) ++ L_52).length (-2)) (by omega) (by omega) (hF_66) (Or.inr ⟨rfl, hE9.trans (ps_go hs9 eP_53), by omega, by omega, PI.as (PI.as hI_65), by simp only [List.length_append, List.length_cons, List.length_nil]; omega⟩) _ _ (hK.sub [0] rfl) (hP.sub [0, 1] rfl) (hD.sub [0, 1] (by decide) rfl) hS ls (lv_sub hl [0] rfl)
    exact L4 _ (p_6) (L_7) (101) (0) (fS9_3) (Nat.lt_succ_self _) (by omega) ((PF.rf).tr hF_11) (Or.inr ⟨rfl, pEv_s eP_8, by omega, by omega, hI_13, by omega⟩) _ _ (hK.sub [0] rfl) (hP.sub [0, 1] rfl) (hD.sub [0, 1] (by decide) rfl) hS ls (lv_sub hl [0] rfl)

theorem kc_some2_0 : ∀ w ∈ wsX120, w ∈ wsX12_some := fun w h => List.mem_cons_of_mem _ (gin_wsX120 w h)
theorem kc_some2_1 : (.fieldLink RX12 65 "MistHeapsModel" "isWrong" "Z" : Cond) ∈ wsX12_some := kc_of 1147 rfl rfl rfl
theorem kc_some2_2 : (.fieldLink RX12 59 "MistHeapsModel" "spot" "I" : Cond) ∈ wsX12_some := kc_of 1145 rfl rfl rfl
set_option maxHeartbeats 4000000 in
set_option maxRecDepth 100000 in
theorem c_some2 (l : Launch) (dC : Nat → ClassId) (dI : Nat → Nat → Nat) (sK sV : Nat → Nat) (m0 aS aI aB aT aG aO aN aD aY : Nat) (th im ac sp en wg op se dn rn kd nu tv : Int32) (bv : Int64) (cS : ClassId) (fS : Nat → Int32) (a p0 E : Nat) (K : List Nat) (d : Nat) (ss : Nat → Nat) (sz : Nat) (gI : PI fS a K d p0 E) (gT : TP fS E ss) : Met l yX12_some wsX12_some ({ frames := 16, cells := 0, slots := 0, locals := 343 } : Room) (va_Pc [.ref m0] (fun U => U.heap.size = sz ∧ va_P (dC, dI) vwCl [(zo14irriiiiiirriirrrrlriiii m0 th aS aI im (nI a) (nI p0) (nI E) 0 2 aB aT se dn aG aO aN aD bv aY rn kd nu tv), (zaI aS cS 901 fS)] U.heap ∧ va_K (dC, dI) vwCl [(cS, .int)] U ∧ va_D (fun _ => True) [(zo14irriiiiiirriirrrrlriiii m0 th aS aI im (nI a) (nI p0) (nI E) 0 2 aB aT se dn aG aO aN aD bv aY rn kd nu tv), (zaI aS cS 901 fS)] ∧ Gs sK sV (va_A [(zo14irriiiiiirriirrrrlriiii m0 th aS aI im (nI a) (nI p0) (nI E) 0 2 aB aT se dn aG aO aN aD bv aY rn kd nu tv), (zaI aS cS 901 fS)] sz) U)) (va_Qv (fun (u : (Nat → Int32) × (Int32) × (Int32)) => match u with | (fS9, sp9, wg9) => ∃ p9 : Nat, sp9 = nI p9 ∧ p0 ≤ p9 ∧ p9 ≤ E ∧ PF a fS fS9 ∧ ((wg9 = 1 ∧ pSm ss (pFac ss 3) p0 = (none, p9)) ∨ (wg9 = 0 ∧ ∃ L : List Nat, pSm ss (pFac ss 3) p0 = (some L, p9) ∧ p0 + 3 ≤ p9 ∧ PI fS9 a (K ++ L) (d + 1) p9 E ∧ L.length + p0 ≤ p9))) (fun (u : (Nat → Int32) × (Int32) × (Int32)) (t : State) => match u with | (fS9, sp9, wg9) => va_P (dC, dI) vwCl [(zo14irriiiiiirriirrrrlriiii m0 th aS aI im (nI a) sp9 (nI E) wg9 2 aB aT se dn aG aO aN aD bv aY rn kd nu tv), (zaI aS cS 901 fS9)] t.heap ∧ va_K (dC, dI) vwCl [(cS, .int)] t ∧ va_D (va_A [(zo14irriiiiiirriirrrrlriiii m0 th aS aI im (nI a) (nI p0) (nI E) 0 2 aB aT se dn aG aO aN aD bv aY rn kd nu tv), (zaI aS cS 901 fS)] sz) [(zo14irriiiiiirriirrrrlriiii m0 th aS aI im (nI a) sp9 (nI E) wg9 2 aB aT se dn aG aO aN aD bv aY rn kd nu tv), (zaI aS cS 901 fS9)]) (va_A [(zo14irriiiiiirriirrrrlriiii m0 th aS aI im (nI a) (nI p0) (nI E) 0 2 aB aT se dn aG aO aN aD bv aY rn kd nu tv), (zaI aS cS 901 fS)] sz)) 0 0 (va_A [(zo14irriiiiiirriirrrrlriiii m0 th aS aI im (nI a) (nI p0) (nI E) 0 2 aB aT se dn aG aO aN aD bv aY rn kd nu tv), (zaI aS cS 901 fS)] sz) := by
  refine met_ofQ (cc := cX12_some) (maxL := 1) (ret := none) (by decide) rfl ?_
  intro p e s m args below meth c s₁ Q B hml hv hQ
  obtain ⟨rfl, hsz, hP, hK, hD0, hE⟩ := hv
  have hx := B.exec
  have hb := B.bytes
  have hr := B.returns
  have hts := atoms_spec (ws := wsX12_some) B.pre
  have hown : s.vm.findClass RX12 = some m.cls := findClass_of_methodNamed B.named
  have hlocks := B.notSynchronized
  subst hsz
  have hD := hD0.self (sz := s.heap.size)
  generalize hAe : va_A [(zo14irriiiiiirriirrrrlriiii m0 th aS aI im (nI a) (nI p0) (nI E) 0 2 aB aT se dn aG aO aN aD bv aY rn kd nu tv), (zaI aS cS 901 fS)] s.heap.size = A at hD hQ hE ⊢
  have hA : ∀ q : Nat, s.heap.size ≤ q → A q := fun q h => by rw [← hAe]; exact Or.inr h
  have hS : va_S A s.heap s.heap [] := va_S.rf
  have hl := lv_entry [.ref m0] (n := 1) (Nat.le_of_ble_eq_true rfl)
  rw [lg_entry_eq]
  generalize (lg_sl [.ref m0] ++ List.replicate (1 - (lg_sl [.ref m0]).length) Slot.unset).toArray = ls at hl ⊢
  generalize hag : ([.ref m0] : List Value).toArray = args at hts hQ ⊢
  have hl : lv_has ls 1 [(0, .ref m0)] := hl
  obtain ⟨H, hH⟩ : ∃ H : Heap, H = s.heap := ⟨_, rfl⟩
  rw [← hH] at hP
  rw [← hH]
  have hS : va_S A s.heap H [] := by rw [hH]; exact hS
  obtain ⟨locs, hlo⟩ : ∃ L : List Loc, L = [] := ⟨_, rfl⟩
  rw [← hlo] at hS
  rw [← hlo]
  clear hH hlo
  obtain ⟨ga, gp, gE, zk, gkp, gd, gs, gcd⟩ := id gI
  refine lv_aload_n hx hb dX12_some_0 rfl (lv_at hl 0 rfl) ?_
  have hPc := hP.sub (ws' := [(zo14irriiiiiirriirrrrlriiii m0 th aS aI im (nI a) (nI p0) (nI E) 0 2 aB aT se dn aG aO aN aD bv aY rn kd nu tv), (zaI aS cS 901 fS)]) [0, 1] rfl
  have hDc := hD.sub (ws' := [(zo14irriiiiiirriirrrrlriiii m0 th aS aI im (nI a) (nI p0) (nI E) 0 2 aB aT se dn aG aO aN aD bv aY rn kd nu tv), (zaI aS cS 901 fS)]) [0, 1] (by decide) rfl
  have hKc := hK.sub (tys' := [(cS, .int)]) [0] rfl
  have hFc := va_free (wc := [(zo14irriiiiiirriirrrrlriiii m0 th aS aI im (nI a) (nI p0) (nI E) 0 2 aB aT se dn aG aO aN aD bv aY rn kd nu tv), (zaI aS cS 901 fS)]) hD hS hA [0, 1] rfl
  refine va_callv (va_runV (As := []) (rest := []) ⟨hx, hb, hml, hown, hts⟩ (c_every2 l dC dI sK sV m0 aS aI aB aT aG aO aN aD aY th im (nI a) (nI p0) (nI E) 0 2 se dn rn kd nu tv bv cS fS a p0 E K d ss H.size ((gI).mono (by omega) (by omega)) (gT)) (cwV 0 hts gX12_some_X12_every rfl rfl rfl hd_yX12_every ⟨Nat.le_of_ble_eq_true rfl, Nat.le_of_ble_eq_true rfl⟩) ⟨fun a U g mk q => by obtain ⟨q0, q1, qP, qK, qD, qhE⟩ := q; exact ⟨q0, mvz g mk a q1, mvP g mk a qP, mvK g mk a qK, qD, qhE.mv g mk a⟩, va_recv hK hP (ci := 14) (q := (RX12, TX12, 23)) (q0 := 0) rfl rfl, fun U hU hW => ⟨rfl, by rw [hU], by rw [hU]; exact hPc, va_K.moved hW.alike hKc, hDc.weaken (fun _ _ _ _ => trivial), hE.call hS hU hW (fun q h => hFc q h)⟩⟩ rfl rfl hl.1 rfl (lv_room (Nat.le_of_ble_eq_true rfl)) dX12_some_1 ⟨Nat.le_of_ble_eq_true rfl, Nat.le_of_ble_eq_true rfl⟩) hS (fun q _ h => hFc q h) hFc (fun u tC H1 locs htC hvm hw_2 hB hz1 hk1 hS => ?_)
  obtain ⟨fS9_3, sp9_4, wg9_5⟩ := u
  try dsimp only at hw_2 hB
  obtain ⟨hP1, hK1, hD1⟩ := hB
  rw [htC] at hP1
  have hK1 := va_K.moved hvm.symm hK1
  obtain ⟨hP, hD⟩ := va_join (wr := []) (w1 := [(zo14irriiiiiirriirrrrlriiii m0 th aS aI im (nI a) sp9_4 (nI E) wg9_5 2 aB aT se dn aG aO aN aD bv aY rn kd nu tv), (zaI aS cS 901 fS9_3)]) hP hD [0, 1] [] rfl rfl (by decide) (by decide) hk1 hFc hP1 hD1
  have hK := (hK.sub (tys' := []) [] rfl).app hK1
  generalize H1 = H at hP hS ⊢
  have hP : va_P (dC, dI) vwCl [(zo14irriiiiiirriirrrrlriiii m0 th aS aI im (nI a) sp9_4 (nI E) wg9_5 2 aB aT se dn aG aO aN aD bv aY rn kd nu tv), (zaI aS cS 901 fS9_3)] H := hP
  have hD : va_D A [(zo14irriiiiiirriirrrrlriiii m0 th aS aI im (nI a) sp9_4 (nI E) wg9_5 2 aB aT se dn aG aO aN aD bv aY rn kd nu tv), (zaI aS cS 901 fS9_3)] := hD
  have hK : va_K (dC, dI) vwCl [(cS, .int)] s := hK
  obtain ⟨p_6, rfl, h_9, h_10, hF_11, q9⟩ := hw_2
  rcases q9 with ⟨rfl, eP_8⟩ | ⟨rfl, L_7, eP_8, h_12, hI_13, h_14⟩
  · skip
    have L4 : ∀ (nF : Nat) (p1 : Nat) (L1 : List Nat) (m1 : Nat) (w1 : Int32) (f1 : Nat → Int32), E - p1 < nF → (p0 ≤ p1 ∧ p1 ≤ E) → (PF a fS f1) → ((w1 = 1 ∧ pSm ss (pFac ss 3) p0 = (none, p1)) ∨ (w1 = 0 ∧ pSm ss (pFac ss 3) p0 = pSep ss 124 1803 (pEv ss (pFac ss 3)) m1 (some L1, p1) ∧ 101 ≤ m1 + p1 ∧ p0 + 3 ≤ p1 ∧ PI f1 a (K ++ L1) (d + 1) p1 E ∧ L1.length + p0 ≤ p1)) → ∀ (H : Heap) (locs : List Loc), va_K (dC, dI) vwCl [(cS, .int)] s → va_P (dC, dI) vwCl [(zo14irriiiiiirriirrrrlriiii m0 th aS aI im (nI a) (nI p1) (nI E) w1 2 aB aT se dn aG aO aN aD bv aY rn kd nu tv), (zaI aS cS 901 f1)] H → va_D A [(zo14irriiiiiirriirrrrlriiii m0 th aS aI im (nI a) (nI p1) (nI E) w1 2 aB aT se dn aG aO aN aD bv aY rn kd nu tv), (zaI aS cS 901 f1)] → va_S A s.heap H locs → ∀ (ls : Array Slot), lv_has ls 1 [(0, .ref m0)] → W p l e ({ frames := 16, cells := 0, slots := 0, locals := 343 } : Room) s m args below meth c H locs 0 0 Q (F0 m 4 ls []) := by
      intro nF
      induction nF with
      | zero => intro p1 L1 m1 w1 f1 hm; exact absurd hm (Nat.not_lt_zero _)
      | succ nF ih4 =>
        intro p1 L1 m1 w1 f1 hm h1 hF hw1 H locs hK hP hD hS ls hl
        obtain ⟨h1a, h1b⟩ := h1
        rcases hw1 with ⟨rfl, hE9⟩ | ⟨rfl, hE9, hm9, h3, hI, h4⟩
        · skip
          refine lv_aload_n hx hb dX12_some_4 rfl (lv_at hl 0 rfl) ?_
          refine va_get (D := (dC, dI)) (ci := 14) (v := .int 1) (C := RX12) (T := TX12) (N := 23) hx hb hts kc_some2_0 hown hK hP 0 rfl rfl 7 (by decide) (hts (.fieldLink RX12 65 "MistHeapsModel" "isWrong" "Z") kc_some2_1) (fun _ h9 => h9) rfl dX12_some_5 ?_
          refine lv_if_ne (tgt := 43) hx hb dX12_some_8 (by decide) (fun _ => ?_) (fun c_15 => absurd c_15 (by decide))
          rw [hQ]
          have hP9 := hP.sub (ws' := [(zo14irriiiiiirriirrrrlriiii m0 th aS aI im (nI a) (nI p1) (nI E) 1 2 aB aT se dn aG aO aN aD bv aY rn kd nu tv), (zaI aS cS 901 f1)]) [0, 1] rfl
          have hD9 := hD.sub (ws' := [(zo14irriiiiiirriirrrrlriiii m0 th aS aI im (nI a) (nI p1) (nI E) 1 2 aB aT se dn aG aO aN aD bv aY rn kd nu tv), (zaI aS cS 901 f1)]) [0, 1] (by decide) rfl
          have hK9 := hK.sub (tys' := [(cS, .int)]) [0] rfl
          exact W.vret hx hb hr (fun tQ htQ hWQ => ⟨⟨(f1, (nI p1), 1), rfl, ⟨p1, rfl, by omega, by omega, hF, Or.inl ⟨rfl, hE9⟩⟩, by rw [htQ]; exact hP9, va_K.moved hWQ.alike hK9, hD9⟩, hS.F htQ⟩) hS.2.2 dX12_some_43
        · skip
          have k5 := hI.2.2.2.2.1
          have hq1 : (K ++ L1).length = K.length + L1.length := List.length_append
          refine lv_aload_n hx hb dX12_some_4 rfl (lv_at hl 0 rfl) ?_
          refine va_get (D := (dC, dI)) (ci := 14) (v := .int 0) (C := RX12) (T := TX12) (N := 23) hx hb hts kc_some2_0 hown hK hP 0 rfl rfl 7 (by decide) (hts (.fieldLink RX12 65 "MistHeapsModel" "isWrong" "Z") kc_some2_1) (fun _ h9 => h9) rfl dX12_some_5 ?_
          refine lv_if_ne (tgt := 43) hx hb dX12_some_8 (by decide) (fun c_16 => absurd c_16 (by decide)) (fun _ => ?_)
          refine lv_aload_n hx hb dX12_some_11 rfl (lv_at hl 0 rfl) ?_
          have hPc := hP.sub (ws' := [(zo14irriiiiiirriirrrrlriiii m0 th aS aI im (nI a) (nI p1) (nI E) 0 2 aB aT se dn aG aO aN aD bv aY rn kd nu tv), (zaI aS cS 901 f1)]) [0, 1] rfl
          have hKc := hK.sub (tys' := [(cS, .int)]) [0] rfl
          refine vp_callSi (va_runV (As := []) (rest := []) ⟨hx, hb, hml, hown, hts⟩ (c_here l dC dI m0 aS aI aB aT aG aO aN aD aY th im (nI a) (nI p1) (nI E) 0 2 se dn rn kd nu tv bv cS f1 a p1 E (by omega) (by omega) (by omega)) (cwV 0 hts gX12_some_X12_here rfl rfl rfl hd_yX12_here ⟨Nat.le_of_ble_eq_true rfl, Nat.le_of_ble_eq_true rfl⟩) ⟨fun a U g mk q => by obtain ⟨q0, qP, qK⟩ := q; exact ⟨q0, mvP g mk a qP, mvK g mk a qK⟩, va_recv hK hP (ci := 14) (q := (RX12, TX12, 23)) (q0 := 0) rfl rfl, fun U hU hW => ⟨rfl, by rw [hU]; exact hPc, va_K.moved hW.alike hKc⟩⟩ rfl rfl hl.1 rfl (lv_room (Nat.le_of_ble_eq_true rfl)) dX12_some_12 ⟨Nat.le_of_ble_eq_true rfl, Nat.le_of_ble_eq_true rfl⟩).run (fun r_17 hw_18 => ?_)
          refine lv_bipush (v := 124) hx hb dX12_some_15 (by decide) ?_
          refine lv_icmp_ne (tgt := 43) hx hb dX12_some_17 (by decide) (fun c_19 => ?_) (fun c_19 => ?_)
          · skip
            have hn9 : ¬ ss p1 = 124 := fun z => c_19 (by rw [hw_18]; exact ((TP_PF gT gE hF).eq (c := 124) (by omega) (by omega)).mpr z)
            rw [hQ]
            have hP9 := hP.sub (ws' := [(zo14irriiiiiirriirrrrlriiii m0 th aS aI im (nI a) (nI p1) (nI E) 0 2 aB aT se dn aG aO aN aD bv aY rn kd nu tv), (zaI aS cS 901 f1)]) [0, 1] rfl
            have hD9 := hD.sub (ws' := [(zo14irriiiiiirriirrrrlriiii m0 th aS aI im (nI a) (nI p1) (nI E) 0 2 aB aT se dn aG aO aN aD bv aY rn kd nu tv), (zaI aS cS 901 f1)]) [0, 1] (by decide) rfl
            have hK9 := hK.sub (tys' := [(cS, .int)]) [0] rfl
            exact W.vret hx hb hr (fun tQ htQ hWQ => ⟨⟨(f1, (nI p1), 0), rfl, ⟨p1, rfl, by omega, by omega, hF, Or.inr ⟨rfl, L1, hE9.trans (ps_end hn9), by omega, hI, by (try simp only [List.length_append, List.length_cons, List.length_nil]); omega⟩⟩, by rw [htQ]; exact hP9, va_K.moved hWQ.alike hK9, hD9⟩, hS.F htQ⟩) hS.2.2 dX12_some_43
          · skip
            have hs9 : ss p1 = 124 := ((TP_PF gT gE hF).eq (c := 124) (by omega) (by omega)).mp (by rw [← hw_18, c_19]; rfl)
            have hlt : p1 < E := Nat.lt_of_not_le (fun z => by have := gT.2.1 p1 z; omega)
            obtain ⟨m2, rfl⟩ : ∃ q : Nat, m1 = q + 1 := ⟨m1 - 1, by omega⟩
            refine lv_aload_n hx hb dX12_some_20 rfl (lv_at hl 0 rfl) ?_
            refine lv_dup hx hb dX12_some_21 rfl ?_
            refine va_get (D := (dC, dI)) (ci := 14) (v := .int (nI p1)) (C := RX12) (T := TX12) (N := 23) hx hb hts kc_some2_0 hown hK hP 0 rfl rfl 5 (by decide) (hts (.fieldLink RX12 59 "MistHeapsModel" "spot" "I") kc_some2_2) (fun _ h9 => h9) rfl dX12_some_22 ?_
            refine lv_iconst (v := 1) hx hb dX12_some_25 (by decide) ?_
            refine lv_iadd hx hb dX12_some_26 ?_
            refine qi_as (y := nI (p1 + 1)) (nI_add p1 1) ?_
            refine va_put (D := (dC, dI)) (ci := 14) (v := .int (nI (p1 + 1))) (ty := .int) (C := RX12) (T := TX12) (N := 23) hx hb hts kc_some2_0 tyX12 tyX12_ok nmX12 hown hK hP hD hS 0 rfl rfl 5 (by decide) (hts (.fieldLink RX12 59 "MistHeapsModel" "spot" "I") kc_some2_2) (fun _ h9 => h9) rfl (by decide +kernel) rfl rfl (Nat.le_of_ble_eq_true rfl) dX12_some_27 (fun H locs hP hD hS => ?_)
            have hP : va_P (dC, dI) vwCl [(zo14irriiiiiirriirrrrlriiii m0 th aS aI im (nI a) (nI (p1 + 1)) (nI E) 0 2 aB aT se dn aG aO aN aD bv aY rn kd nu tv), (zaI aS cS 901 f1)] H := hP
            have hD : va_D A [(zo14irriiiiiirriirrrrlriiii m0 th aS aI im (nI a) (nI (p1 + 1)) (nI E) 0 2 aB aT se dn aG aO aN aD bv aY rn kd nu tv), (zaI aS cS 901 f1)] := hD
            refine lv_aload_n hx hb dX12_some_30 rfl (lv_at hl 0 rfl) ?_
            have hPc := hP.sub (ws' := [(zo14irriiiiiirriirrrrlriiii m0 th aS aI im (nI a) (nI (p1 + 1)) (nI E) 0 2 aB aT se dn aG aO aN aD bv aY rn kd nu tv), (zaI aS cS 901 f1)]) [0, 1] rfl
            have hDc := hD.sub (ws' := [(zo14irriiiiiirriirrrrlriiii m0 th aS aI im (nI a) (nI (p1 + 1)) (nI E) 0 2 aB aT se dn aG aO aN aD bv aY rn kd nu tv), (zaI aS cS 901 f1)]) [0, 1] (by decide) rfl
            have hKc := hK.sub (tys' := [(cS, .int)]) [0] rfl
            have hFc := va_free (wc := [(zo14irriiiiiirriirrrrlriiii m0 th aS aI im (nI a) (nI (p1 + 1)) (nI E) 0 2 aB aT se dn aG aO aN aD bv aY rn kd nu tv), (zaI aS cS 901 f1)]) hD hS hA [0, 1] rfl
            refine va_callv (va_runV (As := []) (rest := []) ⟨hx, hb, hml, hown, hts⟩ (c_every2 l dC dI sK sV m0 aS aI aB aT aG aO aN aD aY th im (nI a) (nI (p1 + 1)) (nI E) 0 2 se dn rn kd nu tv bv cS f1 a (p1 + 1) E (K ++ L1) (d + 1) ss H.size ((hI).mono (by omega) (by omega)) ((TP_PF gT gE (hF)))) (cwV 0 hts gX12_some_X12_every rfl rfl rfl hd_yX12_every ⟨Nat.le_of_ble_eq_true rfl, Nat.le_of_ble_eq_true rfl⟩) ⟨fun a U g mk q => by obtain ⟨q0, q1, qP, qK, qD, qhE⟩ := q; exact ⟨q0, mvz g mk a q1, mvP g mk a qP, mvK g mk a qK, qD, qhE.mv g mk a⟩, va_recv hK hP (ci := 14) (q := (RX12, TX12, 23)) (q0 := 0) rfl rfl, fun U hU hW => ⟨rfl, by rw [hU], by rw [hU]; exact hPc, va_K.moved hW.alike hKc, hDc.weaken (fun _ _ _ _ => trivial), hE.call hS hU hW (fun q h => hFc q h)⟩⟩ rfl rfl hl.1 rfl (lv_room (Nat.le_of_ble_eq_true rfl)) dX12_some_31 ⟨Nat.le_of_ble_eq_true rfl, Nat.le_of_ble_eq_true rfl⟩) hS (fun q _ h => hFc q h) hFc (fun u tC H1 locs htC hvm hw_21 hB hz1 hk1 hS => ?_)
            obtain ⟨fS9_22, sp9_23, wg9_24⟩ := u
            try dsimp only at hw_21 hB
            obtain ⟨hP1, hK1, hD1⟩ := hB
            rw [htC] at hP1
            have hK1 := va_K.moved hvm.symm hK1
            obtain ⟨hP, hD⟩ := va_join (wr := []) (w1 := [(zo14irriiiiiirriirrrrlriiii m0 th aS aI im (nI a) sp9_23 (nI E) wg9_24 2 aB aT se dn aG aO aN aD bv aY rn kd nu tv), (zaI aS cS 901 fS9_22)]) hP hD [0, 1] [] rfl rfl (by decide) (by decide) hk1 hFc hP1 hD1
            have hK := (hK.sub (tys' := []) [] rfl).app hK1
            generalize H1 = H at hP hS ⊢
            have hP : va_P (dC, dI) vwCl [(zo14irriiiiiirriirrrrlriiii m0 th aS aI im (nI a) sp9_23 (nI E) wg9_24 2 aB aT se dn aG aO aN aD bv aY rn kd nu tv), (zaI aS cS 901 fS9_22)] H := hP
            have hD : va_D A [(zo14irriiiiiirriirrrrlriiii m0 th aS aI im (nI a) sp9_23 (nI E) wg9_24 2 aB aT se dn aG aO aN aD bv aY rn kd nu tv), (zaI aS cS 901 fS9_22)] := hD
            have hK : va_K (dC, dI) vwCl [(cS, .int)] s := hK
            obtain ⟨p_25, rfl, h_28, h_29, hF_30, q9⟩ := hw_21
            rcases q9 with ⟨rfl, eP_27⟩ | ⟨rfl, L_26, eP_27, h_31, hI_32, h_33⟩
            · skip
              refine lv_aload_n hx hb dX12_some_34 rfl (lv_at hl 0 rfl) ?_
              refine lv_bipush (v := (-3)) hx hb dX12_some_35 (by decide) ?_
              have hPc := hP.sub (ws' := [(zo14irriiiiiirriirrrrlriiii m0 th aS aI im (nI a) (nI p_25) (nI E) 1 2 aB aT se dn aG aO aN aD bv aY rn kd nu tv)]) [0] rfl
              have hKc := hK.sub (tys' := []) [] rfl
              refine va_csv (va_runV (As := [.int (-3)]) (rest := []) ⟨hx, hb, hml, hown, hts⟩ (c_emitsW l dC dI m0 aS aI aB aT aG aO aN aD aY th im (nI a) (nI p_25) (nI E) 1 2 se dn rn kd nu tv bv (-3)) (cwV 1 hts gX12_some_X12_emits rfl rfl rfl hd_yX12_emits ⟨Nat.le_of_ble_eq_true rfl, Nat.le_of_ble_eq_true rfl⟩) ⟨fun a U g mk q => by obtain ⟨q0, qP, qK⟩ := q; exact ⟨q0, mvP g mk a qP, mvK g mk a qK⟩, va_recv hK hP (ci := 14) (q := (RX12, TX12, 23)) (q0 := 0) rfl rfl, fun U hU hW => ⟨rfl, by rw [hU]; exact hPc, va_K.moved hW.alike hKc⟩⟩ rfl rfl hl.1 rfl (lv_room (Nat.le_of_ble_eq_true rfl)) dX12_some_37 ⟨Nat.le_of_ble_eq_true rfl, Nat.le_of_ble_eq_true rfl⟩).run (fun hw_35 => ?_)
              refine lv_goto (tgt := 4) hx hb dX12_some_40 (by decide) ?_
              exact ih4 (p_25) ([]) (0) (1) (fS9_22) (by omega) (by omega) ((hF).tr hF_30) (Or.inl ⟨rfl, hE9.trans (ps_bad hs9 eP_27)⟩) _ _ (hK.sub [0] rfl) (hP.sub [0, 1] rfl) (hD.sub [0, 1] (by decide) rfl) hS ls (lv_sub hl [0] rfl)
            · skip
              have k5 := hI_32.2.2.2.2.1
              have hqL_26 : ((K ++ L1) ++ L_26).length = (K ++ L1).length + L_26.length := List.length_append
              refine lv_aload_n hx hb dX12_some_34 rfl (lv_at hl 0 rfl) ?_
              refine lv_bipush (v := (-3)) hx hb dX12_some_35 (by decide) ?_
              have hPc := hP.sub (ws' := [(zo14irriiiiiirriirrrrlriiii m0 th aS aI im (nI a) (nI p_25) (nI E) 0 2 aB aT se dn aG aO aN aD bv aY rn kd nu tv), (zaI aS cS 901 fS9_22)]) [0, 1] rfl
              have hDc := hD.sub (ws' := [(zo14irriiiiiirriirrrrlriiii m0 th aS aI im (nI a) (nI p_25) (nI E) 0 2 aB aT se dn aG aO aN aD bv aY rn kd nu tv), (zaI aS cS 901 fS9_22)]) [0, 1] (by decide) rfl
              have hKc := hK.sub (tys' := [(cS, .int)]) [0] rfl
              have hFc := va_free (wc := [(zo14irriiiiiirriirrrrlriiii m0 th aS aI im (nI a) (nI p_25) (nI E) 0 2 aB aT se dn aG aO aN aD bv aY rn kd nu tv), (zaI aS cS 901 fS9_22)]) hD hS hA [0, 1] rfl
              refine va_callv (va_runV (As := [.int (-3)]) (rest := []) ⟨hx, hb, hml, hown, hts⟩ (c_emits l dC dI m0 aS aI aB aT aG aO aN aD aY th im (nI a) (nI p_25) (nI E) 0 2 se dn rn kd nu tv bv cS fS9_22 a ((K ++ L1) ++ L_26).length (-3) H.size (ga) ((hI_32).2.2.2.1) (by have := (hI_32).2.2.2.2.1; omega)) (cwV 1 hts gX12_some_X12_emits rfl rfl rfl hd_yX12_emits ⟨Nat.le_of_ble_eq_true rfl, Nat.le_of_ble_eq_true rfl⟩) ⟨fun a U g mk q => by obtain ⟨q0, q1, qP, qK, qD⟩ := q; exact ⟨q0, mvz g mk a q1, mvP g mk a qP, mvK g mk a qK, qD⟩, va_recv hK hP (ci := 14) (q := (RX12, TX12, 23)) (q0 := 0) rfl rfl, fun U hU hW => ⟨rfl, by rw [hU], by rw [hU]; exact hPc, va_K.moved hW.alike hKc, hDc.weaken (fun _ _ _ _ => trivial)⟩⟩ rfl rfl hl.1 rfl (lv_room (Nat.le_of_ble_eq_true rfl)) dX12_some_37 ⟨Nat.le_of_ble_eq_true rfl, Nat.le_of_ble_eq_true rfl⟩) hS (fun q _ h => hFc q h) hFc (fun u tC H1 locs htC hvm hw_37 hB hz1 hk1 hS => ?_)
              obtain ⟨fS9_38, rfl⟩ : ∃ z, z = u := ⟨_, rfl⟩
              try dsimp only at hw_37 hB
              obtain ⟨hP1, hK1, hD1⟩ := hB
              rw [htC] at hP1
              have hK1 := va_K.moved hvm.symm hK1
              obtain ⟨hP, hD⟩ := va_join (wr := []) (w1 := [(zo14irriiiiiirriirrrrlriiii m0 th aS aI im (nI a) (nI p_25) (nI E) 0 2 aB aT se dn aG aO aN aD bv aY rn kd nu tv), (zaI aS cS 901 fS9_38)]) hP hD [0, 1] [] rfl rfl (by decide) (by decide) hk1 hFc hP1 hD1
              have hK := (hK.sub (tys' := []) [] rfl).app hK1
              generalize H1 = H at hP hS ⊢
              have hP : va_P (dC, dI) vwCl [(zo14irriiiiiirriirrrrlriiii m0 th aS aI im (nI a) (nI p_25) (nI E) 0 2 aB aT se dn aG aO aN aD bv aY rn kd nu tv), (zaI aS cS 901 fS9_38)] H := hP
              have hD : va_D A [(zo14irriiiiiirriirrrrlriiii m0 th aS aI im (nI a) (nI p_25) (nI E) 0 2 aB aT se dn aG aO aN aD bv aY rn kd nu tv), (zaI aS cS 901 fS9_38)] := hD
              have hK : va_K (dC, dI) vwCl [(cS, .int)] s := hK
              obtain rfl : fS9_38 = emt fS9_22 a ((K ++ L1) ++ L_26).length (-3) := by rcases hw_37 with ⟨q, _⟩ | ⟨_, q⟩; exact absurd rfl q; exact q
              have hI_39 : PI (emt fS9_22 a ((K ++ L1) ++ L_26).length (-3)) a (((K ++ L1) ++ L_26) ++ [1803]) (((d + 1) + 1) - 1) p_25 E := PI.em (t := 1803) ((hI_32).mono (by omega) (by omega)) (by omega) (by omega) (stepd_either (by omega)) (by decide)
              have hF_40 : PF a fS (emt fS9_22 a ((K ++ L1) ++ L_26).length (-3)) := ((hF).tr hF_30).tr (PF_emt (k := ((K ++ L1) ++ L_26).length) (x := (-3)) ga (by have := (hI_32).2.2.2.2.1; omega))
              have hKhI_39 : (((K ++ L1) ++ L_26) ++ [1803]).length = ((K ++ L1) ++ L_26).length + 1 := by rw [List.length_append]; rfl
              refine lv_goto (tgt := 4) hx hb dX12_some_40 (by decide) ?_
              exact ih4 (p_25) (L1 ++ (L_26 ++ [1803])) (m2) (0) (emt fS9_22 a ((K ++ L1) ++ L_26).length (-3)) (by omega) (by omega) (hF_40) (Or.inr ⟨rfl, hE9.trans (ps_go hs9 eP_27), by omega, by omega, PI.as (PI.as hI_39), by simp only [List.length_append, List.length_cons, List.length_nil]; omega⟩) _ _ (hK.sub [0] rfl) (hP.sub [0, 1] rfl) (hD.sub [0, 1] (by decide) rfl) hS ls (lv_sub hl [0] rfl)
    exact L4 _ (p_6) ([]) (0) (1) (fS9_3) (Nat.lt_succ_self _) (by omega) ((PF.rf).tr hF_11) (Or.inl ⟨rfl, pSm_n eP_8⟩) _ _ (hK.sub [0] rfl) (hP.sub [0, 1] rfl) (hD.sub [0, 1] (by decide) rfl) hS ls (lv_sub hl [0] rfl)
  · skip
    have k5 := hI_13.2.2.2.2.1
    have hqL_7 : (K ++ L_7).length = K.length + L_7.length := List.length_append
    have L4 : ∀ (nF : Nat) (p1 : Nat) (L1 : List Nat) (m1 : Nat) (w1 : Int32) (f1 : Nat → Int32), E - p1 < nF → (p0 ≤ p1 ∧ p1 ≤ E) → (PF a fS f1) → ((w1 = 1 ∧ pSm ss (pFac ss 3) p0 = (none, p1)) ∨ (w1 = 0 ∧ pSm ss (pFac ss 3) p0 = pSep ss 124 1803 (pEv ss (pFac ss 3)) m1 (some L1, p1) ∧ 101 ≤ m1 + p1 ∧ p0 + 3 ≤ p1 ∧ PI f1 a (K ++ L1) (d + 1) p1 E ∧ L1.length + p0 ≤ p1)) → ∀ (H : Heap) (locs : List Loc), va_K (dC, dI) vwCl [(cS, .int)] s → va_P (dC, dI) vwCl [(zo14irriiiiiirriirrrrlriiii m0 th aS aI im (nI a) (nI p1) (nI E) w1 2 aB aT se dn aG aO aN aD bv aY rn kd nu tv), (zaI aS cS 901 f1)] H → va_D A [(zo14irriiiiiirriirrrrlriiii m0 th aS aI im (nI a) (nI p1) (nI E) w1 2 aB aT se dn aG aO aN aD bv aY rn kd nu tv), (zaI aS cS 901 f1)] → va_S A s.heap H locs → ∀ (ls : Array Slot), lv_has ls 1 [(0, .ref m0)] → W p l e ({ frames := 16, cells := 0, slots := 0, locals := 343 } : Room) s m args below meth c H locs 0 0 Q (F0 m 4 ls []) := by
      intro nF
      induction nF with
      | zero => intro p1 L1 m1 w1 f1 hm; exact absurd hm (Nat.not_lt_zero _)
      | succ nF ih4 =>
        intro p1 L1 m1 w1 f1 hm h1 hF hw1 H locs hK hP hD hS ls hl
        obtain ⟨h1a, h1b⟩ := h1
        rcases hw1 with ⟨rfl, hE9⟩ | ⟨rfl, hE9, hm9, h3, hI, h4⟩
        · skip
          refine lv_aload_n hx hb dX12_some_4 rfl (lv_at hl 0 rfl) ?_
          refine va_get (D := (dC, dI)) (ci := 14) (v := .int 1) (C := RX12) (T := TX12) (N := 23) hx hb hts kc_some2_0 hown hK hP 0 rfl rfl 7 (by decide) (hts (.fieldLink RX12 65 "MistHeapsModel" "isWrong" "Z") kc_some2_1) (fun _ h9 => h9) rfl dX12_some_5 ?_
          refine lv_if_ne (tgt := 43) hx hb dX12_some_8 (by decide) (fun _ => ?_) (fun c_41 => absurd c_41 (by decide))
          rw [hQ]
          have hP9 := hP.sub (ws' := [(zo14irriiiiiirriirrrrlriiii m0 th aS aI im (nI a) (nI p1) (nI E) 1 2 aB aT se dn aG aO aN aD bv aY rn kd nu tv), (zaI aS cS 901 f1)]) [0, 1] rfl
          have hD9 := hD.sub (ws' := [(zo14irriiiiiirriirrrrlriiii m0 th aS aI im (nI a) (nI p1) (nI E) 1 2 aB aT se dn aG aO aN aD bv aY rn kd nu tv), (zaI aS cS 901 f1)]) [0, 1] (by decide) rfl
          have hK9 := hK.sub (tys' := [(cS, .int)]) [0] rfl
          exact W.vret hx hb hr (fun tQ htQ hWQ => ⟨⟨(f1, (nI p1), 1), rfl, ⟨p1, rfl, by omega, by omega, hF, Or.inl ⟨rfl, hE9⟩⟩, by rw [htQ]; exact hP9, va_K.moved hWQ.alike hK9, hD9⟩, hS.F htQ⟩) hS.2.2 dX12_some_43
        · skip
          have k5 := hI.2.2.2.2.1
          have hq1 : (K ++ L1).length = K.length + L1.length := List.length_append
          refine lv_aload_n hx hb dX12_some_4 rfl (lv_at hl 0 rfl) ?_
          refine va_get (D := (dC, dI)) (ci := 14) (v := .int 0) (C := RX12) (T := TX12) (N := 23) hx hb hts kc_some2_0 hown hK hP 0 rfl rfl 7 (by decide) (hts (.fieldLink RX12 65 "MistHeapsModel" "isWrong" "Z") kc_some2_1) (fun _ h9 => h9) rfl dX12_some_5 ?_
          refine lv_if_ne (tgt := 43) hx hb dX12_some_8 (by decide) (fun c_42 => absurd c_42 (by decide)) (fun _ => ?_)
          refine lv_aload_n hx hb dX12_some_11 rfl (lv_at hl 0 rfl) ?_
          have hPc := hP.sub (ws' := [(zo14irriiiiiirriirrrrlriiii m0 th aS aI im (nI a) (nI p1) (nI E) 0 2 aB aT se dn aG aO aN aD bv aY rn kd nu tv), (zaI aS cS 901 f1)]) [0, 1] rfl
          have hKc := hK.sub (tys' := [(cS, .int)]) [0] rfl
          refine vp_callSi (va_runV (As := []) (rest := []) ⟨hx, hb, hml, hown, hts⟩ (c_here l dC dI m0 aS aI aB aT aG aO aN aD aY th im (nI a) (nI p1) (nI E) 0 2 se dn rn kd nu tv bv cS f1 a p1 E (by omega) (by omega) (by omega)) (cwV 0 hts gX12_some_X12_here rfl rfl rfl hd_yX12_here ⟨Nat.le_of_ble_eq_true rfl, Nat.le_of_ble_eq_true rfl⟩) ⟨fun a U g mk q => by obtain ⟨q0, qP, qK⟩ := q; exact ⟨q0, mvP g mk a qP, mvK g mk a qK⟩, va_recv hK hP (ci := 14) (q := (RX12, TX12, 23)) (q0 := 0) rfl rfl, fun U hU hW => ⟨rfl, by rw [hU]; exact hPc, va_K.moved hW.alike hKc⟩⟩ rfl rfl hl.1 rfl (lv_room (Nat.le_of_ble_eq_true rfl)) dX12_some_12 ⟨Nat.le_of_ble_eq_true rfl, Nat.le_of_ble_eq_true rfl⟩).run (fun r_43 hw_44 => ?_)
          refine lv_bipush (v := 124) hx hb dX12_some_15 (by decide) ?_
          refine lv_icmp_ne (tgt := 43) hx hb dX12_some_17 (by decide) (fun c_45 => ?_) (fun c_45 => ?_)
          · skip
            have hn9 : ¬ ss p1 = 124 := fun z => c_45 (by rw [hw_44]; exact ((TP_PF gT gE hF).eq (c := 124) (by omega) (by omega)).mpr z)
            rw [hQ]
            have hP9 := hP.sub (ws' := [(zo14irriiiiiirriirrrrlriiii m0 th aS aI im (nI a) (nI p1) (nI E) 0 2 aB aT se dn aG aO aN aD bv aY rn kd nu tv), (zaI aS cS 901 f1)]) [0, 1] rfl
            have hD9 := hD.sub (ws' := [(zo14irriiiiiirriirrrrlriiii m0 th aS aI im (nI a) (nI p1) (nI E) 0 2 aB aT se dn aG aO aN aD bv aY rn kd nu tv), (zaI aS cS 901 f1)]) [0, 1] (by decide) rfl
            have hK9 := hK.sub (tys' := [(cS, .int)]) [0] rfl
            exact W.vret hx hb hr (fun tQ htQ hWQ => ⟨⟨(f1, (nI p1), 0), rfl, ⟨p1, rfl, by omega, by omega, hF, Or.inr ⟨rfl, L1, hE9.trans (ps_end hn9), by omega, hI, by (try simp only [List.length_append, List.length_cons, List.length_nil]); omega⟩⟩, by rw [htQ]; exact hP9, va_K.moved hWQ.alike hK9, hD9⟩, hS.F htQ⟩) hS.2.2 dX12_some_43
          · skip
            have hs9 : ss p1 = 124 := ((TP_PF gT gE hF).eq (c := 124) (by omega) (by omega)).mp (by rw [← hw_44, c_45]; rfl)
            have hlt : p1 < E := Nat.lt_of_not_le (fun z => by have := gT.2.1 p1 z; omega)
            obtain ⟨m2, rfl⟩ : ∃ q : Nat, m1 = q + 1 := ⟨m1 - 1, by omega⟩
            refine lv_aload_n hx hb dX12_some_20 rfl (lv_at hl 0 rfl) ?_
            refine lv_dup hx hb dX12_some_21 rfl ?_
            refine va_get (D := (dC, dI)) (ci := 14) (v := .int (nI p1)) (C := RX12) (T := TX12) (N := 23) hx hb hts kc_some2_0 hown hK hP 0 rfl rfl 5 (by decide) (hts (.fieldLink RX12 59 "MistHeapsModel" "spot" "I") kc_some2_2) (fun _ h9 => h9) rfl dX12_some_22 ?_
            refine lv_iconst (v := 1) hx hb dX12_some_25 (by decide) ?_
            refine lv_iadd hx hb dX12_some_26 ?_
            refine qi_as (y := nI (p1 + 1)) (nI_add p1 1) ?_
            refine va_put (D := (dC, dI)) (ci := 14) (v := .int (nI (p1 + 1))) (ty := .int) (C := RX12) (T := TX12) (N := 23) hx hb hts kc_some2_0 tyX12 tyX12_ok nmX12 hown hK hP hD hS 0 rfl rfl 5 (by decide) (hts (.fieldLink RX12 59 "MistHeapsModel" "spot" "I") kc_some2_2) (fun _ h9 => h9) rfl (by decide +kernel) rfl rfl (Nat.le_of_ble_eq_true rfl) dX12_some_27 (fun H locs hP hD hS => ?_)
            have hP : va_P (dC, dI) vwCl [(zo14irriiiiiirriirrrrlriiii m0 th aS aI im (nI a) (nI (p1 + 1)) (nI E) 0 2 aB aT se dn aG aO aN aD bv aY rn kd nu tv), (zaI aS cS 901 f1)] H := hP
            have hD : va_D A [(zo14irriiiiiirriirrrrlriiii m0 th aS aI im (nI a) (nI (p1 + 1)) (nI E) 0 2 aB aT se dn aG aO aN aD bv aY rn kd nu tv), (zaI aS cS 901 f1)] := hD
            refine lv_aload_n hx hb dX12_some_30 rfl (lv_at hl 0 rfl) ?_
            have hPc := hP.sub (ws' := [(zo14irriiiiiirriirrrrlriiii m0 th aS aI im (nI a) (nI (p1 + 1)) (nI E) 0 2 aB aT se dn aG aO aN aD bv aY rn kd nu tv), (zaI aS cS 901 f1)]) [0, 1] rfl
            have hDc := hD.sub (ws' := [(zo14irriiiiiirriirrrrlriiii m0 th aS aI im (nI a) (nI (p1 + 1)) (nI E) 0 2 aB aT se dn aG aO aN aD bv aY rn kd nu tv), (zaI aS cS 901 f1)]) [0, 1] (by decide) rfl
            have hKc := hK.sub (tys' := [(cS, .int)]) [0] rfl
            have hFc := va_free (wc := [(zo14irriiiiiirriirrrrlriiii m0 th aS aI im (nI a) (nI (p1 + 1)) (nI E) 0 2 aB aT se dn aG aO aN aD bv aY rn kd nu tv), (zaI aS cS 901 f1)]) hD hS hA [0, 1] rfl
            refine va_callv (va_runV (As := []) (rest := []) ⟨hx, hb, hml, hown, hts⟩ (c_every2 l dC dI sK sV m0 aS aI aB aT aG aO aN aD aY th im (nI a) (nI (p1 + 1)) (nI E) 0 2 se dn rn kd nu tv bv cS f1 a (p1 + 1) E (K ++ L1) (d + 1) ss H.size ((hI).mono (by omega) (by omega)) ((TP_PF gT gE (hF)))) (cwV 0 hts gX12_some_X12_every rfl rfl rfl hd_yX12_every ⟨Nat.le_of_ble_eq_true rfl, Nat.le_of_ble_eq_true rfl⟩) ⟨fun a U g mk q => by obtain ⟨q0, q1, qP, qK, qD, qhE⟩ := q; exact ⟨q0, mvz g mk a q1, mvP g mk a qP, mvK g mk a qK, qD, qhE.mv g mk a⟩, va_recv hK hP (ci := 14) (q := (RX12, TX12, 23)) (q0 := 0) rfl rfl, fun U hU hW => ⟨rfl, by rw [hU], by rw [hU]; exact hPc, va_K.moved hW.alike hKc, hDc.weaken (fun _ _ _ _ => trivial), hE.call hS hU hW (fun q h => hFc q h)⟩⟩ rfl rfl hl.1 rfl (lv_room (Nat.le_of_ble_eq_true rfl)) dX12_some_31 ⟨Nat.le_of_ble_eq_true rfl, Nat.le_of_ble_eq_true rfl⟩) hS (fun q _ h => hFc q h) hFc (fun u tC H1 locs htC hvm hw_47 hB hz1 hk1 hS => ?_)
            obtain ⟨fS9_48, sp9_49, wg9_50⟩ := u
            try dsimp only at hw_47 hB
            obtain ⟨hP1, hK1, hD1⟩ := hB
            rw [htC] at hP1
            have hK1 := va_K.moved hvm.symm hK1
            obtain ⟨hP, hD⟩ := va_join (wr := []) (w1 := [(zo14irriiiiiirriirrrrlriiii m0 th aS aI im (nI a) sp9_49 (nI E) wg9_50 2 aB aT se dn aG aO aN aD bv aY rn kd nu tv), (zaI aS cS 901 fS9_48)]) hP hD [0, 1] [] rfl rfl (by decide) (by decide) hk1 hFc hP1 hD1
            have hK := (hK.sub (tys' := []) [] rfl).app hK1
            generalize H1 = H at hP hS ⊢
            have hP : va_P (dC, dI) vwCl [(zo14irriiiiiirriirrrrlriiii m0 th aS aI im (nI a) sp9_49 (nI E) wg9_50 2 aB aT se dn aG aO aN aD bv aY rn kd nu tv), (zaI aS cS 901 fS9_48)] H := hP
            have hD : va_D A [(zo14irriiiiiirriirrrrlriiii m0 th aS aI im (nI a) sp9_49 (nI E) wg9_50 2 aB aT se dn aG aO aN aD bv aY rn kd nu tv), (zaI aS cS 901 fS9_48)] := hD
            have hK : va_K (dC, dI) vwCl [(cS, .int)] s := hK
            obtain ⟨p_51, rfl, h_54, h_55, hF_56, q9⟩ := hw_47
            rcases q9 with ⟨rfl, eP_53⟩ | ⟨rfl, L_52, eP_53, h_57, hI_58, h_59⟩
            · skip
              refine lv_aload_n hx hb dX12_some_34 rfl (lv_at hl 0 rfl) ?_
              refine lv_bipush (v := (-3)) hx hb dX12_some_35 (by decide) ?_
              have hPc := hP.sub (ws' := [(zo14irriiiiiirriirrrrlriiii m0 th aS aI im (nI a) (nI p_51) (nI E) 1 2 aB aT se dn aG aO aN aD bv aY rn kd nu tv)]) [0] rfl
              have hKc := hK.sub (tys' := []) [] rfl
              refine va_csv (va_runV (As := [.int (-3)]) (rest := []) ⟨hx, hb, hml, hown, hts⟩ (c_emitsW l dC dI m0 aS aI aB aT aG aO aN aD aY th im (nI a) (nI p_51) (nI E) 1 2 se dn rn kd nu tv bv (-3)) (cwV 1 hts gX12_some_X12_emits rfl rfl rfl hd_yX12_emits ⟨Nat.le_of_ble_eq_true rfl, Nat.le_of_ble_eq_true rfl⟩) ⟨fun a U g mk q => by obtain ⟨q0, qP, qK⟩ := q; exact ⟨q0, mvP g mk a qP, mvK g mk a qK⟩, va_recv hK hP (ci := 14) (q := (RX12, TX12, 23)) (q0 := 0) rfl rfl, fun U hU hW => ⟨rfl, by rw [hU]; exact hPc, va_K.moved hW.alike hKc⟩⟩ rfl rfl hl.1 rfl (lv_room (Nat.le_of_ble_eq_true rfl)) dX12_some_37 ⟨Nat.le_of_ble_eq_true rfl, Nat.le_of_ble_eq_true rfl⟩).run (fun hw_61 => ?_)
              refine lv_goto (tgt := 4) hx hb dX12_some_40 (by decide) ?_
              exact ih4 (p_51) ([]) (0) (1) (fS9_48) (by omega) (by omega) ((hF).tr hF_56) (Or.inl ⟨rfl, hE9.trans (ps_bad hs9 eP_53)⟩) _ _ (hK.sub [0] rfl) (hP.sub [0, 1] rfl) (hD.sub [0, 1] (by decide) rfl) hS ls (lv_sub hl [0] rfl)
            · skip
              have k5 := hI_58.2.2.2.2.1
              have hqL_52 : ((K ++ L1) ++ L_52).length = (K ++ L1).length + L_52.length := List.length_append
              refine lv_aload_n hx hb dX12_some_34 rfl (lv_at hl 0 rfl) ?_
              refine lv_bipush (v := (-3)) hx hb dX12_some_35 (by decide) ?_
              have hPc := hP.sub (ws' := [(zo14irriiiiiirriirrrrlriiii m0 th aS aI im (nI a) (nI p_51) (nI E) 0 2 aB aT se dn aG aO aN aD bv aY rn kd nu tv), (zaI aS cS 901 fS9_48)]) [0, 1] rfl
              have hDc := hD.sub (ws' := [(zo14irriiiiiirriirrrrlriiii m0 th aS aI im (nI a) (nI p_51) (nI E) 0 2 aB aT se dn aG aO aN aD bv aY rn kd nu tv), (zaI aS cS 901 fS9_48)]) [0, 1] (by decide) rfl
              have hKc := hK.sub (tys' := [(cS, .int)]) [0] rfl
              have hFc := va_free (wc := [(zo14irriiiiiirriirrrrlriiii m0 th aS aI im (nI a) (nI p_51) (nI E) 0 2 aB aT se dn aG aO aN aD bv aY rn kd nu tv), (zaI aS cS 901 fS9_48)]) hD hS hA [0, 1] rfl
              refine va_callv (va_runV (As := [.int (-3)]) (rest := []) ⟨hx, hb, hml, hown, hts⟩ (c_emits l dC dI m0 aS aI aB aT aG aO aN aD aY th im (nI a) (nI p_51) (nI E) 0 2 se dn rn kd nu tv bv cS fS9_48 a ((K ++ L1) ++ L_52).length (-3) H.size (ga) ((hI_58).2.2.2.1) (by have := (hI_58).2.2.2.2.1; omega)) (cwV 1 hts gX12_some_X12_emits rfl rfl rfl hd_yX12_emits ⟨Nat.le_of_ble_eq_true rfl, Nat.le_of_ble_eq_true rfl⟩) ⟨fun a U g mk q => by obtain ⟨q0, q1, qP, qK, qD⟩ := q; exact ⟨q0, mvz g mk a q1, mvP g mk a qP, mvK g mk a qK, qD⟩, va_recv hK hP (ci := 14) (q := (RX12, TX12, 23)) (q0 := 0) rfl rfl, fun U hU hW => ⟨rfl, by rw [hU], by rw [hU]; exact hPc, va_K.moved hW.alike hKc, hDc.weaken (fun _ _ _ _ => trivial)⟩⟩ rfl rfl hl.1 rfl (lv_room (Nat.le_of_ble_eq_true rfl)) dX12_some_37 ⟨Nat.le_of_ble_eq_true rfl, Nat.le_of_ble_eq_true rfl⟩) hS (fun q _ h => hFc q h) hFc (fun u tC H1 locs htC hvm hw_63 hB hz1 hk1 hS => ?_)
              obtain ⟨fS9_64, rfl⟩ : ∃ z, z = u := ⟨_, rfl⟩
              try dsimp only at hw_63 hB
              obtain ⟨hP1, hK1, hD1⟩ := hB
              rw [htC] at hP1
              have hK1 := va_K.moved hvm.symm hK1
              obtain ⟨hP, hD⟩ := va_join (wr := []) (w1 := [(zo14irriiiiiirriirrrrlriiii m0 th aS aI im (nI a) (nI p_51) (nI E) 0 2 aB aT se dn aG aO aN aD bv aY rn kd nu tv), (zaI aS cS 901 fS9_64)]) hP hD [0, 1] [] rfl rfl (by decide) (by decide) hk1 hFc hP1 hD1
              have hK := (hK.sub (tys' := []) [] rfl).app hK1
              generalize H1 = H at hP hS ⊢
              have hP : va_P (dC, dI) vwCl [(zo14irriiiiiirriirrrrlriiii m0 th aS aI im (nI a) (nI p_51) (nI E) 0 2 aB aT se dn aG aO aN aD bv aY rn kd nu tv), (zaI aS cS 901 fS9_64)] H := hP
              have hD : va_D A [(zo14irriiiiiirriirrrrlriiii m0 th aS aI im (nI a) (nI p_51) (nI E) 0 2 aB aT se dn aG aO aN aD bv aY rn kd nu tv), (zaI aS cS 901 fS9_64)] := hD
              have hK : va_K (dC, dI) vwCl [(cS, .int)] s := hK
              obtain rfl : fS9_64 = emt fS9_48 a ((K ++ L1) ++ L_52).length (-3) := by rcases hw_63 with ⟨q, _⟩ | ⟨_, q⟩; exact absurd rfl q; exact q
              have hI_65 : PI (emt fS9_48 a ((K ++ L1) ++ L_52).length (-3)) a (((K ++ L1) ++ L_52) ++ [1803]) (((d + 1) + 1) - 1) p_51 E := PI.em (t := 1803) ((hI_58).mono (by omega) (by omega)) (by omega) (by omega) (stepd_either (by omega)) (by decide)
              have hF_66 : PF a fS (emt fS9_48 a ((K ++ L1) ++ L_52).length (-3)) := ((hF).tr hF_56).tr (PF_emt (k := ((K ++ L1) ++ L_52).length) (x := (-3)) ga (by have := (hI_58).2.2.2.2.1; omega))
              have hKhI_65 : (((K ++ L1) ++ L_52) ++ [1803]).length = ((K ++ L1) ++ L_52).length + 1 := by rw [List.length_append]; rfl
              refine lv_goto (tgt := 4) hx hb dX12_some_40 (by decide) ?_
              exact ih4 (p_51) (L1 ++ (L_52 ++ [1803])) (m2) (0) (emt fS9_48 a ((K ++ L1) ++ L_52).length (-3)) (by omega) (by omega) (hF_66) (Or.inr ⟨rfl, hE9.trans (ps_go hs9 eP_53), by omega, by omega, PI.as (PI.as hI_65), by simp only [List.length_append, List.length_cons, List.length_nil]; omega⟩) _ _ (hK.sub [0] rfl) (hP.sub [0, 1] rfl) (hD.sub [0, 1] (by decide) rfl) hS ls (lv_sub hl [0] rfl)
    exact L4 _ (p_6) (L_7) (101) (0) (fS9_3) (Nat.lt_succ_self _) (by omega) ((PF.rf).tr hF_11) (Or.inr ⟨rfl, pSm_s eP_8, by omega, by omega, hI_13, by omega⟩) _ _ (hK.sub [0] rfl) (hP.sub [0, 1] rfl) (hD.sub [0, 1] (by decide) rfl) hS ls (lv_sub hl [0] rfl)
end mg12b
section mg12b

theorem kc_factor1_0 : ∀ w ∈ wsX120, w ∈ wsX12_factor := fun w h => List.mem_cons_of_mem _ (gin_wsX120 w h)
theorem kc_factor1_1 : (.fieldLink RX12 65 "MistHeapsModel" "isWrong" "Z" : Cond) ∈ wsX12_factor := kc_of 1147 rfl rfl rfl
theorem kc_factor1_2 : (.fieldLink RX12 89 "MistHeapsModel" "open" "I" : Cond) ∈ wsX12_factor := kc_of 1148 rfl rfl rfl
theorem kc_factor1_3 : (.fieldLink RX12 59 "MistHeapsModel" "spot" "I" : Cond) ∈ wsX12_factor := kc_of 1145 rfl rfl rfl
set_option maxHeartbeats 4000000 in
set_option maxRecDepth 100000 in
theorem c_factor1 (l : Launch) (dC : Nat → ClassId) (dI : Nat → Nat → Nat) (sK sV : Nat → Nat) (m0 aS aI aB aT aG aO aN aD aY : Nat) (th im ac sp en wg op se dn rn kd nu tv : Int32) (bv : Int64) (cS : ClassId) (fS : Nat → Int32) (a p0 E : Nat) (K : List Nat) (d : Nat) (ss : Nat → Nat) (sz : Nat) (gI : PI fS a K d p0 E) (gT : TP fS E ss) : Met l yX12_factor wsX12_factor ({ frames := 17, cells := 0, slots := 0, locals := 363 } : Room) (va_Pc [.ref m0] (fun U => U.heap.size = sz ∧ va_P (dC, dI) vwCl [(zo14irriiiiiirriirrrrlriiii m0 th aS aI im (nI a) (nI p0) (nI E) 0 1 aB aT se dn aG aO aN aD bv aY rn kd nu tv), (zaI aS cS 901 fS)] U.heap ∧ va_K (dC, dI) vwCl [(cS, .int)] U ∧ va_D (fun _ => True) [(zo14irriiiiiirriirrrrlriiii m0 th aS aI im (nI a) (nI p0) (nI E) 0 1 aB aT se dn aG aO aN aD bv aY rn kd nu tv), (zaI aS cS 901 fS)] ∧ Gs sK sV (va_A [(zo14irriiiiiirriirrrrlriiii m0 th aS aI im (nI a) (nI p0) (nI E) 0 1 aB aT se dn aG aO aN aD bv aY rn kd nu tv), (zaI aS cS 901 fS)] sz) U)) (va_Qv (fun (u : (Nat → Int32) × (Int32) × (Int32)) => match u with | (fS9, sp9, wg9) => ∃ p9 : Nat, sp9 = nI p9 ∧ p0 ≤ p9 ∧ p9 ≤ E ∧ PF a fS fS9 ∧ ((wg9 = 1 ∧ pFac ss 4 p0 = (none, p9)) ∨ (wg9 = 0 ∧ ∃ L : List Nat, pFac ss 4 p0 = (some L, p9) ∧ p0 + 3 ≤ p9 ∧ PI fS9 a (K ++ L) (d + 1) p9 E ∧ L.length + p0 ≤ p9))) (fun (u : (Nat → Int32) × (Int32) × (Int32)) (t : State) => match u with | (fS9, sp9, wg9) => va_P (dC, dI) vwCl [(zo14irriiiiiirriirrrrlriiii m0 th aS aI im (nI a) sp9 (nI E) wg9 1 aB aT se dn aG aO aN aD bv aY rn kd nu tv), (zaI aS cS 901 fS9)] t.heap ∧ va_K (dC, dI) vwCl [(cS, .int)] t ∧ va_D (va_A [(zo14irriiiiiirriirrrrlriiii m0 th aS aI im (nI a) (nI p0) (nI E) 0 1 aB aT se dn aG aO aN aD bv aY rn kd nu tv), (zaI aS cS 901 fS)] sz) [(zo14irriiiiiirriirrrrlriiii m0 th aS aI im (nI a) sp9 (nI E) wg9 1 aB aT se dn aG aO aN aD bv aY rn kd nu tv), (zaI aS cS 901 fS9)]) (va_A [(zo14irriiiiiirriirrrrlriiii m0 th aS aI im (nI a) (nI p0) (nI E) 0 1 aB aT se dn aG aO aN aD bv aY rn kd nu tv), (zaI aS cS 901 fS)] sz)) 0 0 (va_A [(zo14irriiiiiirriirrrrlriiii m0 th aS aI im (nI a) (nI p0) (nI E) 0 1 aB aT se dn aG aO aN aD bv aY rn kd nu tv), (zaI aS cS 901 fS)] sz) := by
  refine met_ofQ (cc := cX12_factor) (maxL := 5) (ret := none) (by decide) rfl ?_
  intro p e s m args below meth c s₁ Q B hml hv hQ
  obtain ⟨rfl, hsz, hP, hK, hD0, hE⟩ := hv
  have hx := B.exec
  have hb := B.bytes
  have hr := B.returns
  have hts := atoms_spec (ws := wsX12_factor) B.pre
  have hown : s.vm.findClass RX12 = some m.cls := findClass_of_methodNamed B.named
  have hlocks := B.notSynchronized
  subst hsz
  have hD := hD0.self (sz := s.heap.size)
  generalize hAe : va_A [(zo14irriiiiiirriirrrrlriiii m0 th aS aI im (nI a) (nI p0) (nI E) 0 1 aB aT se dn aG aO aN aD bv aY rn kd nu tv), (zaI aS cS 901 fS)] s.heap.size = A at hD hQ hE ⊢
  have hA : ∀ q : Nat, s.heap.size ≤ q → A q := fun q h => by rw [← hAe]; exact Or.inr h
  have hS : va_S A s.heap s.heap [] := va_S.rf
  have hl := lv_entry [.ref m0] (n := 5) (Nat.le_of_ble_eq_true rfl)
  rw [lg_entry_eq]
  generalize (lg_sl [.ref m0] ++ List.replicate (5 - (lg_sl [.ref m0]).length) Slot.unset).toArray = ls at hl ⊢
  generalize hag : ([.ref m0] : List Value).toArray = args at hts hQ ⊢
  have hl : lv_has ls 5 [(0, .ref m0)] := hl
  obtain ⟨H, hH⟩ : ∃ H : Heap, H = s.heap := ⟨_, rfl⟩
  rw [← hH] at hP
  rw [← hH]
  have hS : va_S A s.heap H [] := by rw [hH]; exact hS
  obtain ⟨locs, hlo⟩ : ∃ L : List Loc, L = [] := ⟨_, rfl⟩
  rw [← hlo] at hS
  rw [← hlo]
  clear hH hlo
  obtain ⟨ga, gp, gE, zk, gkp, gd, gs, gcd⟩ := id gI
  refine lv_aload_n hx hb dX12_factor_0 rfl (lv_at hl 0 rfl) ?_
  refine va_get (D := (dC, dI)) (ci := 14) (v := .int 0) (C := RX12) (T := TX12) (N := 23) hx hb hts kc_factor1_0 hown hK hP 0 rfl rfl 7 (by decide) (hts (.fieldLink RX12 65 "MistHeapsModel" "isWrong" "Z") kc_factor1_1) (fun _ h9 => h9) rfl dX12_factor_1 ?_
  refine lv_if_eq (tgt := 8) hx hb dX12_factor_4 (by decide) (fun _ => ?_) (fun c_1 => absurd c_1 (by decide))
  refine lv_aload_n hx hb dX12_factor_8 rfl (lv_at hl 0 rfl) ?_
  have hPc := hP.sub (ws' := [(zo14irriiiiiirriirrrrlriiii m0 th aS aI im (nI a) (nI p0) (nI E) 0 1 aB aT se dn aG aO aN aD bv aY rn kd nu tv), (zaI aS cS 901 fS)]) [0, 1] rfl
  have hKc := hK.sub (tys' := [(cS, .int)]) [0] rfl
  refine vp_callSi (va_runV (As := []) (rest := []) ⟨hx, hb, hml, hown, hts⟩ (c_here l dC dI m0 aS aI aB aT aG aO aN aD aY th im (nI a) (nI p0) (nI E) 0 1 se dn rn kd nu tv bv cS fS a p0 E (by omega) (by omega) (by omega)) (cwV 0 hts gX12_factor_X12_here rfl rfl rfl hd_yX12_here ⟨Nat.le_of_ble_eq_true rfl, Nat.le_of_ble_eq_true rfl⟩) ⟨fun a U g mk q => by obtain ⟨q0, qP, qK⟩ := q; exact ⟨q0, mvP g mk a qP, mvK g mk a qK⟩, va_recv hK hP (ci := 14) (q := (RX12, TX12, 23)) (q0 := 0) rfl rfl, fun U hU hW => ⟨rfl, by rw [hU]; exact hPc, va_K.moved hW.alike hKc⟩⟩ rfl rfl hl.1 rfl (lv_room (Nat.le_of_ble_eq_true rfl)) dX12_factor_9 ⟨Nat.le_of_ble_eq_true rfl, Nat.le_of_ble_eq_true rfl⟩).run (fun r_2 hw_3 => ?_)
  refine lv_istore_n (lv' := [(1, .int r_2), (0, .ref m0)]) hx hb dX12_factor_12 rfl hl (by decide) rfl (fun ls hl => ?_)
  refine lv_iload_n hx hb dX12_factor_13 rfl (lv_at hl 0 rfl) ?_
  refine lv_bipush (v := 33) hx hb dX12_factor_14 (by decide) ?_
  refine lv_icmp_eq (tgt := 25) hx hb dX12_factor_16 (by decide) (fun c_4 => ?_) (fun c_4 => ?_)
  · skip
    subst c_4
    have hs : ss p0 = 33 := (gT.eq (c := 33) (by omega) (by omega)).mp hw_3.symm
    have hlt : p0 < E := Nat.lt_of_not_le (fun z => by have := gT.2.1 p0 z; omega)
    refine lv_aload_n hx hb dX12_factor_25 rfl (lv_at hl 1 rfl) ?_
    refine lv_aload_n hx hb dX12_factor_26 rfl (lv_at hl 1 rfl) ?_
    refine va_get (D := (dC, dI)) (ci := 14) (v := .int 1) (C := RX12) (T := TX12) (N := 23) hx hb hts kc_factor1_0 hown hK hP 0 rfl rfl 8 (by decide) (hts (.fieldLink RX12 89 "MistHeapsModel" "open" "I") kc_factor1_2) (fun _ h9 => h9) rfl dX12_factor_27 ?_
    refine lv_iconst (v := 5) hx hb dX12_factor_30 (by decide) ?_
    refine lv_icmp_ne (tgt := 38) hx hb dX12_factor_31 (by decide) (fun _ => ?_) (fun c_5 => absurd c_5 (by decide))
    refine lv_iconst (v := 0) hx hb dX12_factor_38 (by decide) ?_
    refine va_put (D := (dC, dI)) (ci := 14) (v := .int 0) (ty := .boolean) (C := RX12) (T := TX12) (N := 23) hx hb hts kc_factor1_0 tyX12 tyX12_ok nmX12 hown hK hP hD hS 0 rfl rfl 7 (by decide) (hts (.fieldLink RX12 65 "MistHeapsModel" "isWrong" "Z") kc_factor1_1) (fun _ h9 => h9) rfl (by decide +kernel) rfl rfl (Nat.le_of_ble_eq_true rfl) dX12_factor_39 (fun H locs hP hD hS => ?_)
    have hP : va_P (dC, dI) vwCl [(zo14irriiiiiirriirrrrlriiii m0 th aS aI im (nI a) (nI p0) (nI E) 0 1 aB aT se dn aG aO aN aD bv aY rn kd nu tv), (zaI aS cS 901 fS)] H := hP
    have hD : va_D A [(zo14irriiiiiirriirrrrlriiii m0 th aS aI im (nI a) (nI p0) (nI E) 0 1 aB aT se dn aG aO aN aD bv aY rn kd nu tv), (zaI aS cS 901 fS)] := hD
    refine lv_aload_n hx hb dX12_factor_42 rfl (lv_at hl 1 rfl) ?_
    refine lv_dup hx hb dX12_factor_43 rfl ?_
    refine va_get (D := (dC, dI)) (ci := 14) (v := .int 1) (C := RX12) (T := TX12) (N := 23) hx hb hts kc_factor1_0 hown hK hP 0 rfl rfl 8 (by decide) (hts (.fieldLink RX12 89 "MistHeapsModel" "open" "I") kc_factor1_2) (fun _ h9 => h9) rfl dX12_factor_44 ?_
    refine lv_iconst (v := 1) hx hb dX12_factor_47 (by decide) ?_
    refine lv_iadd hx hb dX12_factor_48 ?_
    refine qi_as (y := 2) (by decide) ?_
    refine va_put (D := (dC, dI)) (ci := 14) (v := .int 2) (ty := .int) (C := RX12) (T := TX12) (N := 23) hx hb hts kc_factor1_0 tyX12 tyX12_ok nmX12 hown hK hP hD hS 0 rfl rfl 8 (by decide) (hts (.fieldLink RX12 89 "MistHeapsModel" "open" "I") kc_factor1_2) (fun _ h9 => h9) rfl (by decide +kernel) rfl rfl (Nat.le_of_ble_eq_true rfl) dX12_factor_49 (fun H locs hP hD hS => ?_)
    have hP : va_P (dC, dI) vwCl [(zo14irriiiiiirriirrrrlriiii m0 th aS aI im (nI a) (nI p0) (nI E) 0 2 aB aT se dn aG aO aN aD bv aY rn kd nu tv), (zaI aS cS 901 fS)] H := hP
    have hD : va_D A [(zo14irriiiiiirriirrrrlriiii m0 th aS aI im (nI a) (nI p0) (nI E) 0 2 aB aT se dn aG aO aN aD bv aY rn kd nu tv), (zaI aS cS 901 fS)] := hD
    refine lv_aload_n hx hb dX12_factor_52 rfl (lv_at hl 1 rfl) ?_
    refine lv_dup hx hb dX12_factor_53 rfl ?_
    refine va_get (D := (dC, dI)) (ci := 14) (v := .int (nI p0)) (C := RX12) (T := TX12) (N := 23) hx hb hts kc_factor1_0 hown hK hP 0 rfl rfl 5 (by decide) (hts (.fieldLink RX12 59 "MistHeapsModel" "spot" "I") kc_factor1_3) (fun _ h9 => h9) rfl dX12_factor_54 ?_
    refine lv_aload_n hx hb dX12_factor_57 rfl (lv_at hl 1 rfl) ?_
    refine va_get (D := (dC, dI)) (ci := 14) (v := .int 0) (C := RX12) (T := TX12) (N := 23) hx hb hts kc_factor1_0 hown hK hP 0 rfl rfl 7 (by decide) (hts (.fieldLink RX12 65 "MistHeapsModel" "isWrong" "Z") kc_factor1_1) (fun _ h9 => h9) rfl dX12_factor_58 ?_
    refine lv_if_eq (tgt := 68) hx hb dX12_factor_61 (by decide) (fun _ => ?_) (fun c_6 => absurd c_6 (by decide))
    refine lv_iconst (v := 1) hx hb dX12_factor_68 (by decide) ?_
    refine lv_iadd hx hb dX12_factor_69 ?_
    refine qi_as (y := nI (p0 + 1)) (nI_add p0 1) ?_
    refine va_put (D := (dC, dI)) (ci := 14) (v := .int (nI (p0 + 1))) (ty := .int) (C := RX12) (T := TX12) (N := 23) hx hb hts kc_factor1_0 tyX12 tyX12_ok nmX12 hown hK hP hD hS 0 rfl rfl 5 (by decide) (hts (.fieldLink RX12 59 "MistHeapsModel" "spot" "I") kc_factor1_3) (fun _ h9 => h9) rfl (by decide +kernel) rfl rfl (Nat.le_of_ble_eq_true rfl) dX12_factor_70 (fun H locs hP hD hS => ?_)
    have hP : va_P (dC, dI) vwCl [(zo14irriiiiiirriirrrrlriiii m0 th aS aI im (nI a) (nI (p0 + 1)) (nI E) 0 2 aB aT se dn aG aO aN aD bv aY rn kd nu tv), (zaI aS cS 901 fS)] H := hP
    have hD : va_D A [(zo14irriiiiiirriirrrrlriiii m0 th aS aI im (nI a) (nI (p0 + 1)) (nI E) 0 2 aB aT se dn aG aO aN aD bv aY rn kd nu tv), (zaI aS cS 901 fS)] := hD
    refine lv_iload_n hx hb dX12_factor_73 rfl (lv_at hl 0 rfl) ?_
    refine lv_bipush (v := 33) hx hb dX12_factor_74 (by decide) ?_
    refine lv_icmp_ne (tgt := 91) hx hb dX12_factor_76 (by decide) (fun c_7 => absurd c_7 (by decide)) (fun _ => ?_)
    refine lv_aload_n hx hb dX12_factor_79 rfl (lv_at hl 1 rfl) ?_
    have hPc := hP.sub (ws' := [(zo14irriiiiiirriirrrrlriiii m0 th aS aI im (nI a) (nI (p0 + 1)) (nI E) 0 2 aB aT se dn aG aO aN aD bv aY rn kd nu tv), (zaI aS cS 901 fS)]) [0, 1] rfl
    have hDc := hD.sub (ws' := [(zo14irriiiiiirriirrrrlriiii m0 th aS aI im (nI a) (nI (p0 + 1)) (nI E) 0 2 aB aT se dn aG aO aN aD bv aY rn kd nu tv), (zaI aS cS 901 fS)]) [0, 1] (by decide) rfl
    have hKc := hK.sub (tys' := [(cS, .int)]) [0] rfl
    have hFc := va_free (wc := [(zo14irriiiiiirriirrrrlriiii m0 th aS aI im (nI a) (nI (p0 + 1)) (nI E) 0 2 aB aT se dn aG aO aN aD bv aY rn kd nu tv), (zaI aS cS 901 fS)]) hD hS hA [0, 1] rfl
    refine va_callv (va_runV (As := []) (rest := []) ⟨hx, hb, hml, hown, hts⟩ (c_factor2 l dC dI sK sV m0 aS aI aB aT aG aO aN aD aY th im (nI a) (nI (p0 + 1)) (nI E) 0 2 se dn rn kd nu tv bv cS fS a (p0 + 1) E K d ss H.size ((gI).mono (by omega) (by omega)) (gT)) (cwV 0 hts gX12_factor_X12_factor rfl rfl rfl hd_yX12_factor ⟨Nat.le_of_ble_eq_true rfl, Nat.le_of_ble_eq_true rfl⟩) ⟨fun a U g mk q => by obtain ⟨q0, q1, qP, qK, qD, qhE⟩ := q; exact ⟨q0, mvz g mk a q1, mvP g mk a qP, mvK g mk a qK, qD, qhE.mv g mk a⟩, va_recv hK hP (ci := 14) (q := (RX12, TX12, 23)) (q0 := 0) rfl rfl, fun U hU hW => ⟨rfl, by rw [hU], by rw [hU]; exact hPc, va_K.moved hW.alike hKc, hDc.weaken (fun _ _ _ _ => trivial), hE.call hS hU hW (fun q h => hFc q h)⟩⟩ rfl rfl hl.1 rfl (lv_room (Nat.le_of_ble_eq_true rfl)) dX12_factor_80 ⟨Nat.le_of_ble_eq_true rfl, Nat.le_of_ble_eq_true rfl⟩) hS (fun q _ h => hFc q h) hFc (fun u tC H1 locs htC hvm hw_9 hB hz1 hk1 hS => ?_)
    obtain ⟨fS9_10, sp9_11, wg9_12⟩ := u
    try dsimp only at hw_9 hB
    obtain ⟨hP1, hK1, hD1⟩ := hB
    rw [htC] at hP1
    have hK1 := va_K.moved hvm.symm hK1
    obtain ⟨hP, hD⟩ := va_join (wr := []) (w1 := [(zo14irriiiiiirriirrrrlriiii m0 th aS aI im (nI a) sp9_11 (nI E) wg9_12 2 aB aT se dn aG aO aN aD bv aY rn kd nu tv), (zaI aS cS 901 fS9_10)]) hP hD [0, 1] [] rfl rfl (by decide) (by decide) hk1 hFc hP1 hD1
    have hK := (hK.sub (tys' := []) [] rfl).app hK1
    generalize H1 = H at hP hS ⊢
    have hP : va_P (dC, dI) vwCl [(zo14irriiiiiirriirrrrlriiii m0 th aS aI im (nI a) sp9_11 (nI E) wg9_12 2 aB aT se dn aG aO aN aD bv aY rn kd nu tv), (zaI aS cS 901 fS9_10)] H := hP
    have hD : va_D A [(zo14irriiiiiirriirrrrlriiii m0 th aS aI im (nI a) sp9_11 (nI E) wg9_12 2 aB aT se dn aG aO aN aD bv aY rn kd nu tv), (zaI aS cS 901 fS9_10)] := hD
    have hK : va_K (dC, dI) vwCl [(cS, .int)] s := hK
    obtain ⟨p_13, rfl, h_16, h_17, hF_18, q9⟩ := hw_9
    rcases q9 with ⟨rfl, eP_15⟩ | ⟨rfl, L_14, eP_15, h_19, hI_20, h_21⟩
    · skip
      refine lv_aload_n hx hb dX12_factor_83 rfl (lv_at hl 1 rfl) ?_
      refine lv_iconst (v := (-1)) hx hb dX12_factor_84 (by decide) ?_
      have hPc := hP.sub (ws' := [(zo14irriiiiiirriirrrrlriiii m0 th aS aI im (nI a) (nI p_13) (nI E) 1 2 aB aT se dn aG aO aN aD bv aY rn kd nu tv)]) [0] rfl
      have hKc := hK.sub (tys' := []) [] rfl
      refine va_csv (va_runV (As := [.int (-1)]) (rest := []) ⟨hx, hb, hml, hown, hts⟩ (c_emitsW l dC dI m0 aS aI aB aT aG aO aN aD aY th im (nI a) (nI p_13) (nI E) 1 2 se dn rn kd nu tv bv (-1)) (cwV 1 hts gX12_factor_X12_emits rfl rfl rfl hd_yX12_emits ⟨Nat.le_of_ble_eq_true rfl, Nat.le_of_ble_eq_true rfl⟩) ⟨fun a U g mk q => by obtain ⟨q0, qP, qK⟩ := q; exact ⟨q0, mvP g mk a qP, mvK g mk a qK⟩, va_recv hK hP (ci := 14) (q := (RX12, TX12, 23)) (q0 := 0) rfl rfl, fun U hU hW => ⟨rfl, by rw [hU]; exact hPc, va_K.moved hW.alike hKc⟩⟩ rfl rfl hl.1 rfl (lv_room (Nat.le_of_ble_eq_true rfl)) dX12_factor_85 ⟨Nat.le_of_ble_eq_true rfl, Nat.le_of_ble_eq_true rfl⟩).run (fun hw_23 => ?_)
      refine lv_goto (tgt := 101) hx hb dX12_factor_88 (by decide) ?_
      refine lv_aload_n hx hb dX12_factor_101 rfl (lv_at hl 1 rfl) ?_
      refine lv_dup hx hb dX12_factor_102 rfl ?_
      refine va_get (D := (dC, dI)) (ci := 14) (v := .int 2) (C := RX12) (T := TX12) (N := 23) hx hb hts kc_factor1_0 hown hK hP 0 rfl rfl 8 (by decide) (hts (.fieldLink RX12 89 "MistHeapsModel" "open" "I") kc_factor1_2) (fun _ h9 => h9) rfl dX12_factor_103 ?_
      refine lv_iconst (v := 1) hx hb dX12_factor_106 (by decide) ?_
      refine lv_isub hx hb dX12_factor_107 ?_
      refine qi_as (y := 1) (by decide) ?_
      refine va_put (D := (dC, dI)) (ci := 14) (v := .int 1) (ty := .int) (C := RX12) (T := TX12) (N := 23) hx hb hts kc_factor1_0 tyX12 tyX12_ok nmX12 hown hK hP hD hS 0 rfl rfl 8 (by decide) (hts (.fieldLink RX12 89 "MistHeapsModel" "open" "I") kc_factor1_2) (fun _ h9 => h9) rfl (by decide +kernel) rfl rfl (Nat.le_of_ble_eq_true rfl) dX12_factor_108 (fun H locs hP hD hS => ?_)
      have hP : va_P (dC, dI) vwCl [(zo14irriiiiiirriirrrrlriiii m0 th aS aI im (nI a) (nI p_13) (nI E) 1 1 aB aT se dn aG aO aN aD bv aY rn kd nu tv), (zaI aS cS 901 fS9_10)] H := hP
      have hD : va_D A [(zo14irriiiiiirriirrrrlriiii m0 th aS aI im (nI a) (nI p_13) (nI E) 1 1 aB aT se dn aG aO aN aD bv aY rn kd nu tv), (zaI aS cS 901 fS9_10)] := hD
      rw [hQ]
      have hP9 := hP.sub (ws' := [(zo14irriiiiiirriirrrrlriiii m0 th aS aI im (nI a) (nI p_13) (nI E) 1 1 aB aT se dn aG aO aN aD bv aY rn kd nu tv), (zaI aS cS 901 fS9_10)]) [0, 1] rfl
      have hD9 := hD.sub (ws' := [(zo14irriiiiiirriirrrrlriiii m0 th aS aI im (nI a) (nI p_13) (nI E) 1 1 aB aT se dn aG aO aN aD bv aY rn kd nu tv), (zaI aS cS 901 fS9_10)]) [0, 1] (by decide) rfl
      have hK9 := hK.sub (tys' := [(cS, .int)]) [0] rfl
      exact W.vret hx hb hr (fun tQ htQ hWQ => ⟨⟨(fS9_10, (nI p_13), 1), rfl, ⟨p_13, rfl, by omega, by omega, (PF.rf).tr hF_18, Or.inl ⟨rfl, pf_n0 (l := 3) hs eP_15⟩⟩, by rw [htQ]; exact hP9, va_K.moved hWQ.alike hK9, hD9⟩, hS.F htQ⟩) hS.2.2 dX12_factor_111
    · skip
      have k5 := hI_20.2.2.2.2.1
      have hqL_14 : (K ++ L_14).length = K.length + L_14.length := List.length_append
      refine lv_aload_n hx hb dX12_factor_83 rfl (lv_at hl 1 rfl) ?_
      refine lv_iconst (v := (-1)) hx hb dX12_factor_84 (by decide) ?_
      have hPc := hP.sub (ws' := [(zo14irriiiiiirriirrrrlriiii m0 th aS aI im (nI a) (nI p_13) (nI E) 0 2 aB aT se dn aG aO aN aD bv aY rn kd nu tv), (zaI aS cS 901 fS9_10)]) [0, 1] rfl
      have hDc := hD.sub (ws' := [(zo14irriiiiiirriirrrrlriiii m0 th aS aI im (nI a) (nI p_13) (nI E) 0 2 aB aT se dn aG aO aN aD bv aY rn kd nu tv), (zaI aS cS 901 fS9_10)]) [0, 1] (by decide) rfl
      have hKc := hK.sub (tys' := [(cS, .int)]) [0] rfl
      have hFc := va_free (wc := [(zo14irriiiiiirriirrrrlriiii m0 th aS aI im (nI a) (nI p_13) (nI E) 0 2 aB aT se dn aG aO aN aD bv aY rn kd nu tv), (zaI aS cS 901 fS9_10)]) hD hS hA [0, 1] rfl
      refine va_callv (va_runV (As := [.int (-1)]) (rest := []) ⟨hx, hb, hml, hown, hts⟩ (c_emits l dC dI m0 aS aI aB aT aG aO aN aD aY th im (nI a) (nI p_13) (nI E) 0 2 se dn rn kd nu tv bv cS fS9_10 a (K ++ L_14).length (-1) H.size (ga) ((hI_20).2.2.2.1) (by have := (hI_20).2.2.2.2.1; omega)) (cwV 1 hts gX12_factor_X12_emits rfl rfl rfl hd_yX12_emits ⟨Nat.le_of_ble_eq_true rfl, Nat.le_of_ble_eq_true rfl⟩) ⟨fun a U g mk q => by obtain ⟨q0, q1, qP, qK, qD⟩ := q; exact ⟨q0, mvz g mk a q1, mvP g mk a qP, mvK g mk a qK, qD⟩, va_recv hK hP (ci := 14) (q := (RX12, TX12, 23)) (q0 := 0) rfl rfl, fun U hU hW => ⟨rfl, by rw [hU], by rw [hU]; exact hPc, va_K.moved hW.alike hKc, hDc.weaken (fun _ _ _ _ => trivial)⟩⟩ rfl rfl hl.1 rfl (lv_room (Nat.le_of_ble_eq_true rfl)) dX12_factor_85 ⟨Nat.le_of_ble_eq_true rfl, Nat.le_of_ble_eq_true rfl⟩) hS (fun q _ h => hFc q h) hFc (fun u tC H1 locs htC hvm hw_25 hB hz1 hk1 hS => ?_)
      obtain ⟨fS9_26, rfl⟩ : ∃ z, z = u := ⟨_, rfl⟩
      try dsimp only at hw_25 hB
      obtain ⟨hP1, hK1, hD1⟩ := hB
      rw [htC] at hP1
      have hK1 := va_K.moved hvm.symm hK1
      obtain ⟨hP, hD⟩ := va_join (wr := []) (w1 := [(zo14irriiiiiirriirrrrlriiii m0 th aS aI im (nI a) (nI p_13) (nI E) 0 2 aB aT se dn aG aO aN aD bv aY rn kd nu tv), (zaI aS cS 901 fS9_26)]) hP hD [0, 1] [] rfl rfl (by decide) (by decide) hk1 hFc hP1 hD1
      have hK := (hK.sub (tys' := []) [] rfl).app hK1
      generalize H1 = H at hP hS ⊢
      have hP : va_P (dC, dI) vwCl [(zo14irriiiiiirriirrrrlriiii m0 th aS aI im (nI a) (nI p_13) (nI E) 0 2 aB aT se dn aG aO aN aD bv aY rn kd nu tv), (zaI aS cS 901 fS9_26)] H := hP
      have hD : va_D A [(zo14irriiiiiirriirrrrlriiii m0 th aS aI im (nI a) (nI p_13) (nI E) 0 2 aB aT se dn aG aO aN aD bv aY rn kd nu tv), (zaI aS cS 901 fS9_26)] := hD
      have hK : va_K (dC, dI) vwCl [(cS, .int)] s := hK
      obtain rfl : fS9_26 = emt fS9_10 a (K ++ L_14).length (-1) := by rcases hw_25 with ⟨q, _⟩ | ⟨_, q⟩; exact absurd rfl q; exact q
      have hI_27 : PI (emt fS9_10 a (K ++ L_14).length (-1)) a ((K ++ L_14) ++ [1801]) (d + 1) p_13 E := PI.em (t := 1801) ((hI_20).mono (by omega) (by omega)) (by omega) (by omega) (stepd_not (by omega)) (by decide)
      have hF_28 : PF a fS (emt fS9_10 a (K ++ L_14).length (-1)) := ((PF.rf).tr hF_18).tr (PF_emt (k := (K ++ L_14).length) (x := (-1)) ga (by have := (hI_20).2.2.2.2.1; omega))
      have hKhI_27 : ((K ++ L_14) ++ [1801]).length = (K ++ L_14).length + 1 := by rw [List.length_append]; rfl
      refine lv_goto (tgt := 101) hx hb dX12_factor_88 (by decide) ?_
      refine lv_aload_n hx hb dX12_factor_101 rfl (lv_at hl 1 rfl) ?_
      refine lv_dup hx hb dX12_factor_102 rfl ?_
      refine va_get (D := (dC, dI)) (ci := 14) (v := .int 2) (C := RX12) (T := TX12) (N := 23) hx hb hts kc_factor1_0 hown hK hP 0 rfl rfl 8 (by decide) (hts (.fieldLink RX12 89 "MistHeapsModel" "open" "I") kc_factor1_2) (fun _ h9 => h9) rfl dX12_factor_103 ?_
      refine lv_iconst (v := 1) hx hb dX12_factor_106 (by decide) ?_
      refine lv_isub hx hb dX12_factor_107 ?_
      refine qi_as (y := 1) (by decide) ?_
      refine va_put (D := (dC, dI)) (ci := 14) (v := .int 1) (ty := .int) (C := RX12) (T := TX12) (N := 23) hx hb hts kc_factor1_0 tyX12 tyX12_ok nmX12 hown hK hP hD hS 0 rfl rfl 8 (by decide) (hts (.fieldLink RX12 89 "MistHeapsModel" "open" "I") kc_factor1_2) (fun _ h9 => h9) rfl (by decide +kernel) rfl rfl (Nat.le_of_ble_eq_true rfl) dX12_factor_108 (fun H locs hP hD hS => ?_)
      have hP : va_P (dC, dI) vwCl [(zo14irriiiiiirriirrrrlriiii m0 th aS aI im (nI a) (nI p_13) (nI E) 0 1 aB aT se dn aG aO aN aD bv aY rn kd nu tv), (zaI aS cS 901 (emt fS9_10 a (K ++ L_14).length (-1)))] H := hP
      have hD : va_D A [(zo14irriiiiiirriirrrrlriiii m0 th aS aI im (nI a) (nI p_13) (nI E) 0 1 aB aT se dn aG aO aN aD bv aY rn kd nu tv), (zaI aS cS 901 (emt fS9_10 a (K ++ L_14).length (-1)))] := hD
      rw [hQ]
      have hP9 := hP.sub (ws' := [(zo14irriiiiiirriirrrrlriiii m0 th aS aI im (nI a) (nI p_13) (nI E) 0 1 aB aT se dn aG aO aN aD bv aY rn kd nu tv), (zaI aS cS 901 (emt fS9_10 a (K ++ L_14).length (-1)))]) [0, 1] rfl
      have hD9 := hD.sub (ws' := [(zo14irriiiiiirriirrrrlriiii m0 th aS aI im (nI a) (nI p_13) (nI E) 0 1 aB aT se dn aG aO aN aD bv aY rn kd nu tv), (zaI aS cS 901 (emt fS9_10 a (K ++ L_14).length (-1)))]) [0, 1] (by decide) rfl
      have hK9 := hK.sub (tys' := [(cS, .int)]) [0] rfl
      exact W.vret hx hb hr (fun tQ htQ hWQ => ⟨⟨((emt fS9_10 a (K ++ L_14).length (-1)), (nI p_13), 0), rfl, ⟨p_13, rfl, by omega, by omega, hF_28, Or.inr ⟨rfl, (L_14 ++ [1801]), pf_n1 (l := 3) hs eP_15, by omega, PI.as ((hI_27).mono (by omega) (by omega)), by (try simp only [List.length_append, List.length_cons, List.length_nil]); omega⟩⟩, by rw [htQ]; exact hP9, va_K.moved hWQ.alike hK9, hD9⟩, hS.F htQ⟩) hS.2.2 dX12_factor_111
  · skip
    have hn33 : ¬ ss p0 = 33 := fun z => c_4 (hw_3.trans ((gT.eq (c := 33) (by omega) (by omega)).mpr z))
    refine lv_iload_n hx hb dX12_factor_19 rfl (lv_at hl 0 rfl) ?_
    refine lv_bipush (v := 40) hx hb dX12_factor_20 (by decide) ?_
    refine lv_icmp_ne (tgt := 112) hx hb dX12_factor_22 (by decide) (fun c_29 => ?_) (fun c_29 => ?_)
    · skip
      have hn40 : ¬ ss p0 = 40 := fun z => c_29 (hw_3.trans ((gT.eq (c := 40) (by omega) (by omega)).mpr z))
      refine lv_aload_n hx hb dX12_factor_112 rfl (lv_at hl 1 rfl) ?_
      refine va_ldcS hx hb hown (show vk_R RX12 101 "hkrcms" (sK 6) s from hE.1 6 (by decide)) dX12_factor_113 ?_
      have hPc := hP.sub (ws' := [(zo14irriiiiiirriirrrrlriiii m0 th aS aI im (nI a) (nI p0) (nI E) 0 1 aB aT se dn aG aO aN aD bv aY rn kd nu tv), (zaI aS cS 901 fS)]) [0, 1] rfl
      have hDc := hD.sub (ws' := [(zo14irriiiiiirriirrrrlriiii m0 th aS aI im (nI a) (nI p0) (nI E) 0 1 aB aT se dn aG aO aN aD bv aY rn kd nu tv), (zaI aS cS 901 fS)]) [0, 1] (by decide) rfl
      have hKc := hK.sub (tys' := [(cS, .int)]) [0] rfl
      have hFc := va_free (wc := [(zo14irriiiiiirriirrrrlriiii m0 th aS aI im (nI a) (nI p0) (nI E) 0 1 aB aT se dn aG aO aN aD bv aY rn kd nu tv), (zaI aS cS 901 fS)]) hD hS hA [0, 1] rfl
      refine va_calli (va_runV (As := [.ref (sK 6)]) (rest := []) ⟨hx, hb, hml, hown, hts⟩ (c_among l dC dI sK sV m0 aS aI aB aT aG aO aN aD aY th im (nI a) (nI p0) (nI E) 0 1 se dn rn kd nu tv bv cS fS a p0 E 6 ss H.size (by omega) (by omega) (by omega) (by decide) (gT)) (cwV 1 hts gX12_factor_X12_among rfl rfl rfl hd_yX12_among ⟨Nat.le_of_ble_eq_true rfl, Nat.le_of_ble_eq_true rfl⟩) ⟨fun a U g mk q => by obtain ⟨q0, q1, qP, qK, qD, qhE⟩ := q; exact ⟨q0, mvz g mk a q1, mvP g mk a qP, mvK g mk a qK, qD, qhE.mv g mk a⟩, va_recv hK hP (ci := 14) (q := (RX12, TX12, 23)) (q0 := 0) rfl rfl, fun U hU hW => ⟨rfl, by rw [hU], by rw [hU]; exact hPc, va_K.moved hW.alike hKc, hDc.weaken (fun _ _ _ _ => trivial), hE.call hS hU hW (fun q h => hFc q h)⟩⟩ rfl rfl hl.1 rfl (lv_room (Nat.le_of_ble_eq_true rfl)) dX12_factor_115 ⟨Nat.le_of_ble_eq_true rfl, Nat.le_of_ble_eq_true rfl⟩) hS (fun q _ h => hFc q h) hFc (fun r_30 u tC H1 locs htC hvm hw_31 hB hz1 hk1 hS => ?_)
      obtain ⟨sp9_32, rfl⟩ : ∃ z, z = u := ⟨_, rfl⟩
      try dsimp only at hw_31 hB
      obtain ⟨hP1, hK1, hD1⟩ := hB
      rw [htC] at hP1
      have hK1 := va_K.moved hvm.symm hK1
      obtain ⟨hP, hD⟩ := va_join (wr := []) (w1 := [(zo14irriiiiiirriirrrrlriiii m0 th aS aI im (nI a) sp9_32 (nI E) 0 1 aB aT se dn aG aO aN aD bv aY rn kd nu tv), (zaI aS cS 901 fS)]) hP hD [0, 1] [] rfl rfl (by decide) (by decide) hk1 hFc hP1 hD1
      have hK := (hK.sub (tys' := []) [] rfl).app hK1
      generalize H1 = H at hP hS ⊢
      have hP : va_P (dC, dI) vwCl [(zo14irriiiiiirriirrrrlriiii m0 th aS aI im (nI a) sp9_32 (nI E) 0 1 aB aT se dn aG aO aN aD bv aY rn kd nu tv), (zaI aS cS 901 fS)] H := hP
      have hD : va_D A [(zo14irriiiiiirriirrrrlriiii m0 th aS aI im (nI a) sp9_32 (nI E) 0 1 aB aT se dn aG aO aN aD bv aY rn kd nu tv), (zaI aS cS 901 fS)] := hD
      have hK : va_K (dC, dI) vwCl [(cS, .int)] s := hK
      rcases hw_31 with ⟨rfl, rfl, h_36⟩ | ⟨j_33, hj_34, rfl, h_35, rfl, h_36⟩
      · skip
        have hx6 := am6_n (fun q hq => h_36 q hq)
        refine lv_istore_n (lv' := [(2, .int (-1)), (1, .int r_2), (0, .ref m0)]) hx hb dX12_factor_118 rfl hl (by decide) rfl (fun ls hl => ?_)
        refine lv_aload_n hx hb dX12_factor_119 rfl (lv_at hl 2 rfl) ?_
        refine lv_iload_n hx hb dX12_factor_120 rfl (lv_at hl 0 rfl) ?_
        refine lv_iconst (v := (-1)) hx hb dX12_factor_121 (by decide) ?_
        refine lv_icmp_ne (tgt := 129) hx hb dX12_factor_122 (by decide) (fun c_37 => absurd c_37 (by decide)) (fun _ => ?_)
        refine lv_iconst (v := 1) hx hb dX12_factor_125 (by decide) ?_
        refine lv_goto (tgt := 130) hx hb dX12_factor_126 (by decide) ?_
        refine va_put (D := (dC, dI)) (ci := 14) (v := .int 1) (ty := .boolean) (C := RX12) (T := TX12) (N := 23) hx hb hts kc_factor1_0 tyX12 tyX12_ok nmX12 hown hK hP hD hS 0 rfl rfl 7 (by decide) (hts (.fieldLink RX12 65 "MistHeapsModel" "isWrong" "Z") kc_factor1_1) (fun _ h9 => h9) rfl (by decide +kernel) rfl rfl (Nat.le_of_ble_eq_true rfl) dX12_factor_130 (fun H locs hP hD hS => ?_)
        have hP : va_P (dC, dI) vwCl [(zo14irriiiiiirriirrrrlriiii m0 th aS aI im (nI a) (nI p0) (nI E) 1 1 aB aT se dn aG aO aN aD bv aY rn kd nu tv), (zaI aS cS 901 fS)] H := hP
        have hD : va_D A [(zo14irriiiiiirriirrrrlriiii m0 th aS aI im (nI a) (nI p0) (nI E) 1 1 aB aT se dn aG aO aN aD bv aY rn kd nu tv), (zaI aS cS 901 fS)] := hD
        refine lv_aload_n hx hb dX12_factor_133 rfl (lv_at hl 2 rfl) ?_
        refine va_get (D := (dC, dI)) (ci := 14) (v := .int 1) (C := RX12) (T := TX12) (N := 23) hx hb hts kc_factor1_0 hown hK hP 0 rfl rfl 7 (by decide) (hts (.fieldLink RX12 65 "MistHeapsModel" "isWrong" "Z") kc_factor1_1) (fun _ h9 => h9) rfl dX12_factor_134 ?_
        refine lv_if_eq (tgt := 144) hx hb dX12_factor_137 (by decide) (fun c_38 => absurd c_38 (by decide)) (fun _ => ?_)
        refine lv_iconst (v := 0) hx hb dX12_factor_140 (by decide) ?_
        refine lv_goto (tgt := 150) hx hb dX12_factor_141 (by decide) ?_
        refine lv_istore_n (lv' := [(3, .int 0), (2, .int (-1)), (1, .int r_2), (0, .ref m0)]) hx hb dX12_factor_150 rfl hl (by decide) rfl (fun ls hl => ?_)
        refine lv_aload_n hx hb dX12_factor_151 rfl (lv_at hl 3 rfl) ?_
        refine lv_aload_n hx hb dX12_factor_152 rfl (lv_at hl 3 rfl) ?_
        refine va_get (D := (dC, dI)) (ci := 14) (v := .int 1) (C := RX12) (T := TX12) (N := 23) hx hb hts kc_factor1_0 hown hK hP 0 rfl rfl 7 (by decide) (hts (.fieldLink RX12 65 "MistHeapsModel" "isWrong" "Z") kc_factor1_1) (fun _ h9 => h9) rfl dX12_factor_153 ?_
        refine lv_if_ne (tgt := 164) hx hb dX12_factor_156 (by decide) (fun _ => ?_) (fun c_39 => absurd c_39 (by decide))
        refine lv_iconst (v := 1) hx hb dX12_factor_164 (by decide) ?_
        refine lv_goto (tgt := 169) hx hb dX12_factor_165 (by decide) ?_
        refine va_put (D := (dC, dI)) (ci := 14) (v := .int 1) (ty := .boolean) (C := RX12) (T := TX12) (N := 23) hx hb hts kc_factor1_0 tyX12 tyX12_ok nmX12 hown hK hP hD hS 0 rfl rfl 7 (by decide) (hts (.fieldLink RX12 65 "MistHeapsModel" "isWrong" "Z") kc_factor1_1) (fun _ h9 => h9) rfl (by decide +kernel) rfl rfl (Nat.le_of_ble_eq_true rfl) dX12_factor_169 (fun H locs hP hD hS => ?_)
        have hP : va_P (dC, dI) vwCl [(zo14irriiiiiirriirrrrlriiii m0 th aS aI im (nI a) (nI p0) (nI E) 1 1 aB aT se dn aG aO aN aD bv aY rn kd nu tv), (zaI aS cS 901 fS)] H := hP
        have hD : va_D A [(zo14irriiiiiirriirrrrlriiii m0 th aS aI im (nI a) (nI p0) (nI E) 1 1 aB aT se dn aG aO aN aD bv aY rn kd nu tv), (zaI aS cS 901 fS)] := hD
        refine lv_aload_n hx hb dX12_factor_172 rfl (lv_at hl 3 rfl) ?_
        have hPc := hP.sub (ws' := [(zo14irriiiiiirriirrrrlriiii m0 th aS aI im (nI a) (nI p0) (nI E) 1 1 aB aT se dn aG aO aN aD bv aY rn kd nu tv), (zaI aS cS 901 fS)]) [0, 1] rfl
        have hDc := hD.sub (ws' := [(zo14irriiiiiirriirrrrlriiii m0 th aS aI im (nI a) (nI p0) (nI E) 1 1 aB aT se dn aG aO aN aD bv aY rn kd nu tv), (zaI aS cS 901 fS)]) [0, 1] (by decide) rfl
        have hKc := hK.sub (tys' := [(cS, .int)]) [0] rfl
        have hFc := va_free (wc := [(zo14irriiiiiirriirrrrlriiii m0 th aS aI im (nI a) (nI p0) (nI E) 1 1 aB aT se dn aG aO aN aD bv aY rn kd nu tv), (zaI aS cS 901 fS)]) hD hS hA [0, 1] rfl
        refine va_calli (va_runV (As := []) (rest := []) ⟨hx, hb, hml, hown, hts⟩ (c_figures l dC dI m0 aS aI aB aT aG aO aN aD aY th im (nI a) (nI p0) (nI E) 1 1 se dn rn kd nu tv bv cS fS a p0 E ss H.size (by omega) (by omega) (by omega) (Or.inr rfl) (gT)) (cwV 0 hts gX12_factor_X12_figures rfl rfl rfl hd_yX12_figures ⟨Nat.le_of_ble_eq_true rfl, Nat.le_of_ble_eq_true rfl⟩) ⟨fun a U g mk q => by obtain ⟨q0, q1, qP, qK, qD⟩ := q; exact ⟨q0, mvz g mk a q1, mvP g mk a qP, mvK g mk a qK, qD⟩, va_recv hK hP (ci := 14) (q := (RX12, TX12, 23)) (q0 := 0) rfl rfl, fun U hU hW => ⟨rfl, by rw [hU], by rw [hU]; exact hPc, va_K.moved hW.alike hKc, hDc.weaken (fun _ _ _ _ => trivial)⟩⟩ rfl rfl hl.1 rfl (lv_room (Nat.le_of_ble_eq_true rfl)) dX12_factor_173 ⟨Nat.le_of_ble_eq_true rfl, Nat.le_of_ble_eq_true rfl⟩) hS (fun q _ h => hFc q h) hFc (fun r_40 u tC H1 locs htC hvm hw_41 hB hz1 hk1 hS => ?_)
        obtain ⟨sp9_42, wg9_43⟩ := u
        try dsimp only at hw_41 hB
        obtain ⟨hP1, hK1, hD1⟩ := hB
        rw [htC] at hP1
        have hK1 := va_K.moved hvm.symm hK1
        obtain ⟨hP, hD⟩ := va_join (wr := []) (w1 := [(zo14irriiiiiirriirrrrlriiii m0 th aS aI im (nI a) sp9_42 (nI E) wg9_43 1 aB aT se dn aG aO aN aD bv aY rn kd nu tv), (zaI aS cS 901 fS)]) hP hD [0, 1] [] rfl rfl (by decide) (by decide) hk1 hFc hP1 hD1
        have hK := (hK.sub (tys' := []) [] rfl).app hK1
        generalize H1 = H at hP hS ⊢
        have hP : va_P (dC, dI) vwCl [(zo14irriiiiiirriirrrrlriiii m0 th aS aI im (nI a) sp9_42 (nI E) wg9_43 1 aB aT se dn aG aO aN aD bv aY rn kd nu tv), (zaI aS cS 901 fS)] H := hP
        have hD : va_D A [(zo14irriiiiiirriirrrrlriiii m0 th aS aI im (nI a) sp9_42 (nI E) wg9_43 1 aB aT se dn aG aO aN aD bv aY rn kd nu tv), (zaI aS cS 901 fS)] := hD
        have hK : va_K (dC, dI) vwCl [(cS, .int)] s := hK
        rcases hw_41 with ⟨rfl, rfl, hN_51, v_44, h_46, rfl⟩ | ⟨rfl, h_50, v_44, p_45, h_46, h_47, h_48, rfl, rfl, hN_51⟩
        · skip
          refine lv_istore (lv' := [(4, .int (nI v_44)), (3, .int 0), (2, .int (-1)), (1, .int r_2), (0, .ref m0)]) hx hb dX12_factor_176 hl (by decide) rfl (fun ls hl => ?_)
          refine lv_aload_n hx hb dX12_factor_178 rfl (lv_at hl 4 rfl) ?_
          refine lv_iload_n hx hb dX12_factor_179 rfl (lv_at hl 2 rfl) ?_
          refine lv_bipush (v := 8) hx hb dX12_factor_180 (by decide) ?_
          refine lv_iload_n hx hb dX12_factor_182 rfl (lv_at hl 1 rfl) ?_
          refine lv_imul hx hb dX12_factor_183 ?_
          refine qi_as (y := 0) (by decide) ?_
          refine lv_iadd hx hb dX12_factor_184 ?_
          refine qi_as (y := (-1)) (by decide) ?_
          refine lv_bipush (v := 32) hx hb dX12_factor_185 (by decide) ?_
          refine lv_iload hx hb dX12_factor_187 (lv_at hl 0 rfl) ?_
          refine lv_imul hx hb dX12_factor_189 ?_
          refine qi_as (y := nI (32 * v_44)) (pk_mul 32 v_44) ?_
          refine lv_iadd hx hb dX12_factor_190 ?_
          have hPc := hP.sub (ws' := [(zo14irriiiiiirriirrrrlriiii m0 th aS aI im (nI a) (nI p0) (nI E) 1 1 aB aT se dn aG aO aN aD bv aY rn kd nu tv)]) [0] rfl
          have hKc := hK.sub (tys' := []) [] rfl
          refine va_csv (va_runV (As := [.int ((-1) + (nI (32 * v_44)))]) (rest := []) ⟨hx, hb, hml, hown, hts⟩ (c_emitsW l dC dI m0 aS aI aB aT aG aO aN aD aY th im (nI a) (nI p0) (nI E) 1 1 se dn rn kd nu tv bv ((-1) + (nI (32 * v_44)))) (cwV 1 hts gX12_factor_X12_emits rfl rfl rfl hd_yX12_emits ⟨Nat.le_of_ble_eq_true rfl, Nat.le_of_ble_eq_true rfl⟩) ⟨fun a U g mk q => by obtain ⟨q0, qP, qK⟩ := q; exact ⟨q0, mvP g mk a qP, mvK g mk a qK⟩, va_recv hK hP (ci := 14) (q := (RX12, TX12, 23)) (q0 := 0) rfl rfl, fun U hU hW => ⟨rfl, by rw [hU]; exact hPc, va_K.moved hW.alike hKc⟩⟩ rfl rfl hl.1 rfl (lv_room (Nat.le_of_ble_eq_true rfl)) dX12_factor_191 ⟨Nat.le_of_ble_eq_true rfl, Nat.le_of_ble_eq_true rfl⟩).run (fun hw_53 => ?_)
          rw [hQ]
          have hP9 := hP.sub (ws' := [(zo14irriiiiiirriirrrrlriiii m0 th aS aI im (nI a) (nI p0) (nI E) 1 1 aB aT se dn aG aO aN aD bv aY rn kd nu tv), (zaI aS cS 901 fS)]) [0, 1] rfl
          have hD9 := hD.sub (ws' := [(zo14irriiiiiirriirrrrlriiii m0 th aS aI im (nI a) (nI p0) (nI E) 1 1 aB aT se dn aG aO aN aD bv aY rn kd nu tv), (zaI aS cS 901 fS)]) [0, 1] (by decide) rfl
          have hK9 := hK.sub (tys' := [(cS, .int)]) [0] rfl
          exact W.vret hx hb hr (fun tQ htQ hWQ => ⟨⟨(fS, (nI p0), 1), rfl, ⟨p0, rfl, by omega, by omega, PF.rf, Or.inl ⟨rfl, (pf_t hn33 hn40).trans (pt_1 hx6)⟩⟩, by rw [htQ]; exact hP9, va_K.moved hWQ.alike hK9, hD9⟩, hS.F htQ⟩) hS.2.2 dX12_factor_194
        · skip
          exact absurd h_50 (by decide)
      · skip
        have hj_34 : j_33 < 6 := hj_34
        have hx6 := am6_y hj_34 h_36
        refine lv_istore_n (lv' := [(2, .int (nI j_33)), (1, .int r_2), (0, .ref m0)]) hx hb dX12_factor_118 rfl hl (by decide) rfl (fun ls hl => ?_)
        refine lv_aload_n hx hb dX12_factor_119 rfl (lv_at hl 2 rfl) ?_
        refine lv_iload_n hx hb dX12_factor_120 rfl (lv_at hl 0 rfl) ?_
        refine lv_iconst (v := (-1)) hx hb dX12_factor_121 (by decide) ?_
        refine lv_icmp_ne (tgt := 129) hx hb dX12_factor_122 (by decide) (fun c_54 => ?_) (fun c_54 => absurd c_54 (nI_nm1 (by omega)))
        refine lv_iconst (v := 0) hx hb dX12_factor_129 (by decide) ?_
        refine va_put (D := (dC, dI)) (ci := 14) (v := .int 0) (ty := .boolean) (C := RX12) (T := TX12) (N := 23) hx hb hts kc_factor1_0 tyX12 tyX12_ok nmX12 hown hK hP hD hS 0 rfl rfl 7 (by decide) (hts (.fieldLink RX12 65 "MistHeapsModel" "isWrong" "Z") kc_factor1_1) (fun _ h9 => h9) rfl (by decide +kernel) rfl rfl (Nat.le_of_ble_eq_true rfl) dX12_factor_130 (fun H locs hP hD hS => ?_)
        have hP : va_P (dC, dI) vwCl [(zo14irriiiiiirriirrrrlriiii m0 th aS aI im (nI a) (nI (p0 + 1)) (nI E) 0 1 aB aT se dn aG aO aN aD bv aY rn kd nu tv), (zaI aS cS 901 fS)] H := hP
        have hD : va_D A [(zo14irriiiiiirriirrrrlriiii m0 th aS aI im (nI a) (nI (p0 + 1)) (nI E) 0 1 aB aT se dn aG aO aN aD bv aY rn kd nu tv), (zaI aS cS 901 fS)] := hD
        refine lv_aload_n hx hb dX12_factor_133 rfl (lv_at hl 2 rfl) ?_
        refine va_get (D := (dC, dI)) (ci := 14) (v := .int 0) (C := RX12) (T := TX12) (N := 23) hx hb hts kc_factor1_0 hown hK hP 0 rfl rfl 7 (by decide) (hts (.fieldLink RX12 65 "MistHeapsModel" "isWrong" "Z") kc_factor1_1) (fun _ h9 => h9) rfl dX12_factor_134 ?_
        refine lv_if_eq (tgt := 144) hx hb dX12_factor_137 (by decide) (fun _ => ?_) (fun c_55 => absurd c_55 (by decide))
        refine lv_aload_n hx hb dX12_factor_144 rfl (lv_at hl 2 rfl) ?_
        refine va_ldcS hx hb hown (show vk_R RX12 107 "<=>" (sK 7) s from hE.1 7 (by decide)) dX12_factor_145 ?_
        have hPc := hP.sub (ws' := [(zo14irriiiiiirriirrrrlriiii m0 th aS aI im (nI a) (nI (p0 + 1)) (nI E) 0 1 aB aT se dn aG aO aN aD bv aY rn kd nu tv), (zaI aS cS 901 fS)]) [0, 1] rfl
        have hDc := hD.sub (ws' := [(zo14irriiiiiirriirrrrlriiii m0 th aS aI im (nI a) (nI (p0 + 1)) (nI E) 0 1 aB aT se dn aG aO aN aD bv aY rn kd nu tv), (zaI aS cS 901 fS)]) [0, 1] (by decide) rfl
        have hKc := hK.sub (tys' := [(cS, .int)]) [0] rfl
        have hFc := va_free (wc := [(zo14irriiiiiirriirrrrlriiii m0 th aS aI im (nI a) (nI (p0 + 1)) (nI E) 0 1 aB aT se dn aG aO aN aD bv aY rn kd nu tv), (zaI aS cS 901 fS)]) hD hS hA [0, 1] rfl
        refine va_calli (va_runV (As := [.ref (sK 7)]) (rest := []) ⟨hx, hb, hml, hown, hts⟩ (c_among l dC dI sK sV m0 aS aI aB aT aG aO aN aD aY th im (nI a) (nI (p0 + 1)) (nI E) 0 1 se dn rn kd nu tv bv cS fS a (p0 + 1) E 7 ss H.size (by omega) (by omega) (by omega) (by decide) (gT)) (cwV 1 hts gX12_factor_X12_among rfl rfl rfl hd_yX12_among ⟨Nat.le_of_ble_eq_true rfl, Nat.le_of_ble_eq_true rfl⟩) ⟨fun a U g mk q => by obtain ⟨q0, q1, qP, qK, qD, qhE⟩ := q; exact ⟨q0, mvz g mk a q1, mvP g mk a qP, mvK g mk a qK, qD, qhE.mv g mk a⟩, va_recv hK hP (ci := 14) (q := (RX12, TX12, 23)) (q0 := 0) rfl rfl, fun U hU hW => ⟨rfl, by rw [hU], by rw [hU]; exact hPc, va_K.moved hW.alike hKc, hDc.weaken (fun _ _ _ _ => trivial), hE.call hS hU hW (fun q h => hFc q h)⟩⟩ rfl rfl hl.1 rfl (lv_room (Nat.le_of_ble_eq_true rfl)) dX12_factor_147 ⟨Nat.le_of_ble_eq_true rfl, Nat.le_of_ble_eq_true rfl⟩) hS (fun q _ h => hFc q h) hFc (fun r_56 u tC H1 locs htC hvm hw_57 hB hz1 hk1 hS => ?_)
        obtain ⟨sp9_58, rfl⟩ : ∃ z, z = u := ⟨_, rfl⟩
        try dsimp only at hw_57 hB
        obtain ⟨hP1, hK1, hD1⟩ := hB
        rw [htC] at hP1
        have hK1 := va_K.moved hvm.symm hK1
        obtain ⟨hP, hD⟩ := va_join (wr := []) (w1 := [(zo14irriiiiiirriirrrrlriiii m0 th aS aI im (nI a) sp9_58 (nI E) 0 1 aB aT se dn aG aO aN aD bv aY rn kd nu tv), (zaI aS cS 901 fS)]) hP hD [0, 1] [] rfl rfl (by decide) (by decide) hk1 hFc hP1 hD1
        have hK := (hK.sub (tys' := []) [] rfl).app hK1
        generalize H1 = H at hP hS ⊢
        have hP : va_P (dC, dI) vwCl [(zo14irriiiiiirriirrrrlriiii m0 th aS aI im (nI a) sp9_58 (nI E) 0 1 aB aT se dn aG aO aN aD bv aY rn kd nu tv), (zaI aS cS 901 fS)] H := hP
        have hD : va_D A [(zo14irriiiiiirriirrrrlriiii m0 th aS aI im (nI a) sp9_58 (nI E) 0 1 aB aT se dn aG aO aN aD bv aY rn kd nu tv), (zaI aS cS 901 fS)] := hD
        have hK : va_K (dC, dI) vwCl [(cS, .int)] s := hK
        rcases hw_57 with ⟨rfl, rfl, h_62⟩ | ⟨j_59, hj_60, rfl, h_61, rfl, h_62⟩
        · skip
          have hx3 := am3_n (fun q hq => h_62 q hq)
          refine lv_istore_n (lv' := [(3, .int (-1)), (2, .int (nI j_33)), (1, .int r_2), (0, .ref m0)]) hx hb dX12_factor_150 rfl hl (by decide) rfl (fun ls hl => ?_)
          refine lv_aload_n hx hb dX12_factor_151 rfl (lv_at hl 3 rfl) ?_
          refine lv_aload_n hx hb dX12_factor_152 rfl (lv_at hl 3 rfl) ?_
          refine va_get (D := (dC, dI)) (ci := 14) (v := .int 0) (C := RX12) (T := TX12) (N := 23) hx hb hts kc_factor1_0 hown hK hP 0 rfl rfl 7 (by decide) (hts (.fieldLink RX12 65 "MistHeapsModel" "isWrong" "Z") kc_factor1_1) (fun _ h9 => h9) rfl dX12_factor_153 ?_
          refine lv_if_ne (tgt := 164) hx hb dX12_factor_156 (by decide) (fun c_63 => absurd c_63 (by decide)) (fun _ => ?_)
          refine lv_iload_n hx hb dX12_factor_159 rfl (lv_at hl 0 rfl) ?_
          refine lv_iconst (v := (-1)) hx hb dX12_factor_160 (by decide) ?_
          refine lv_icmp_ne (tgt := 168) hx hb dX12_factor_161 (by decide) (fun c_64 => absurd c_64 (by decide)) (fun _ => ?_)
          refine lv_iconst (v := 1) hx hb dX12_factor_164 (by decide) ?_
          refine lv_goto (tgt := 169) hx hb dX12_factor_165 (by decide) ?_
          refine va_put (D := (dC, dI)) (ci := 14) (v := .int 1) (ty := .boolean) (C := RX12) (T := TX12) (N := 23) hx hb hts kc_factor1_0 tyX12 tyX12_ok nmX12 hown hK hP hD hS 0 rfl rfl 7 (by decide) (hts (.fieldLink RX12 65 "MistHeapsModel" "isWrong" "Z") kc_factor1_1) (fun _ h9 => h9) rfl (by decide +kernel) rfl rfl (Nat.le_of_ble_eq_true rfl) dX12_factor_169 (fun H locs hP hD hS => ?_)
          have hP : va_P (dC, dI) vwCl [(zo14irriiiiiirriirrrrlriiii m0 th aS aI im (nI a) (nI (p0 + 1)) (nI E) 1 1 aB aT se dn aG aO aN aD bv aY rn kd nu tv), (zaI aS cS 901 fS)] H := hP
          have hD : va_D A [(zo14irriiiiiirriirrrrlriiii m0 th aS aI im (nI a) (nI (p0 + 1)) (nI E) 1 1 aB aT se dn aG aO aN aD bv aY rn kd nu tv), (zaI aS cS 901 fS)] := hD
          refine lv_aload_n hx hb dX12_factor_172 rfl (lv_at hl 3 rfl) ?_
          have hPc := hP.sub (ws' := [(zo14irriiiiiirriirrrrlriiii m0 th aS aI im (nI a) (nI (p0 + 1)) (nI E) 1 1 aB aT se dn aG aO aN aD bv aY rn kd nu tv), (zaI aS cS 901 fS)]) [0, 1] rfl
          have hDc := hD.sub (ws' := [(zo14irriiiiiirriirrrrlriiii m0 th aS aI im (nI a) (nI (p0 + 1)) (nI E) 1 1 aB aT se dn aG aO aN aD bv aY rn kd nu tv), (zaI aS cS 901 fS)]) [0, 1] (by decide) rfl
          have hKc := hK.sub (tys' := [(cS, .int)]) [0] rfl
          have hFc := va_free (wc := [(zo14irriiiiiirriirrrrlriiii m0 th aS aI im (nI a) (nI (p0 + 1)) (nI E) 1 1 aB aT se dn aG aO aN aD bv aY rn kd nu tv), (zaI aS cS 901 fS)]) hD hS hA [0, 1] rfl
          refine va_calli (va_runV (As := []) (rest := []) ⟨hx, hb, hml, hown, hts⟩ (c_figures l dC dI m0 aS aI aB aT aG aO aN aD aY th im (nI a) (nI (p0 + 1)) (nI E) 1 1 se dn rn kd nu tv bv cS fS a (p0 + 1) E ss H.size (by omega) (by omega) (by omega) (Or.inr rfl) (gT)) (cwV 0 hts gX12_factor_X12_figures rfl rfl rfl hd_yX12_figures ⟨Nat.le_of_ble_eq_true rfl, Nat.le_of_ble_eq_true rfl⟩) ⟨fun a U g mk q => by obtain ⟨q0, q1, qP, qK, qD⟩ := q; exact ⟨q0, mvz g mk a q1, mvP g mk a qP, mvK g mk a qK, qD⟩, va_recv hK hP (ci := 14) (q := (RX12, TX12, 23)) (q0 := 0) rfl rfl, fun U hU hW => ⟨rfl, by rw [hU], by rw [hU]; exact hPc, va_K.moved hW.alike hKc, hDc.weaken (fun _ _ _ _ => trivial)⟩⟩ rfl rfl hl.1 rfl (lv_room (Nat.le_of_ble_eq_true rfl)) dX12_factor_173 ⟨Nat.le_of_ble_eq_true rfl, Nat.le_of_ble_eq_true rfl⟩) hS (fun q _ h => hFc q h) hFc (fun r_65 u tC H1 locs htC hvm hw_66 hB hz1 hk1 hS => ?_)
          obtain ⟨sp9_67, wg9_68⟩ := u
          try dsimp only at hw_66 hB
          obtain ⟨hP1, hK1, hD1⟩ := hB
          rw [htC] at hP1
          have hK1 := va_K.moved hvm.symm hK1
          obtain ⟨hP, hD⟩ := va_join (wr := []) (w1 := [(zo14irriiiiiirriirrrrlriiii m0 th aS aI im (nI a) sp9_67 (nI E) wg9_68 1 aB aT se dn aG aO aN aD bv aY rn kd nu tv), (zaI aS cS 901 fS)]) hP hD [0, 1] [] rfl rfl (by decide) (by decide) hk1 hFc hP1 hD1
          have hK := (hK.sub (tys' := []) [] rfl).app hK1
          generalize H1 = H at hP hS ⊢
          have hP : va_P (dC, dI) vwCl [(zo14irriiiiiirriirrrrlriiii m0 th aS aI im (nI a) sp9_67 (nI E) wg9_68 1 aB aT se dn aG aO aN aD bv aY rn kd nu tv), (zaI aS cS 901 fS)] H := hP
          have hD : va_D A [(zo14irriiiiiirriirrrrlriiii m0 th aS aI im (nI a) sp9_67 (nI E) wg9_68 1 aB aT se dn aG aO aN aD bv aY rn kd nu tv), (zaI aS cS 901 fS)] := hD
          have hK : va_K (dC, dI) vwCl [(cS, .int)] s := hK
          rcases hw_66 with ⟨rfl, rfl, hN_76, v_69, h_71, rfl⟩ | ⟨rfl, h_75, v_69, p_70, h_71, h_72, h_73, rfl, rfl, hN_76⟩
          · skip
            refine lv_istore (lv' := [(4, .int (nI v_69)), (3, .int (-1)), (2, .int (nI j_33)), (1, .int r_2), (0, .ref m0)]) hx hb dX12_factor_176 hl (by decide) rfl (fun ls hl => ?_)
            refine lv_aload_n hx hb dX12_factor_178 rfl (lv_at hl 4 rfl) ?_
            refine lv_iload_n hx hb dX12_factor_179 rfl (lv_at hl 2 rfl) ?_
            refine lv_bipush (v := 8) hx hb dX12_factor_180 (by decide) ?_
            refine lv_iload_n hx hb dX12_factor_182 rfl (lv_at hl 1 rfl) ?_
            refine lv_imul hx hb dX12_factor_183 ?_
            refine qi_as (y := (-8)) (by decide) ?_
            refine lv_iadd hx hb dX12_factor_184 ?_
            refine lv_bipush (v := 32) hx hb dX12_factor_185 (by decide) ?_
            refine lv_iload hx hb dX12_factor_187 (lv_at hl 0 rfl) ?_
            refine lv_imul hx hb dX12_factor_189 ?_
            refine qi_as (y := nI (32 * v_69)) (pk_mul 32 v_69) ?_
            refine lv_iadd hx hb dX12_factor_190 ?_
            have hPc := hP.sub (ws' := [(zo14irriiiiiirriirrrrlriiii m0 th aS aI im (nI a) (nI (p0 + 1)) (nI E) 1 1 aB aT se dn aG aO aN aD bv aY rn kd nu tv)]) [0] rfl
            have hKc := hK.sub (tys' := []) [] rfl
            refine va_csv (va_runV (As := [.int (((nI j_33) + (-8)) + (nI (32 * v_69)))]) (rest := []) ⟨hx, hb, hml, hown, hts⟩ (c_emitsW l dC dI m0 aS aI aB aT aG aO aN aD aY th im (nI a) (nI (p0 + 1)) (nI E) 1 1 se dn rn kd nu tv bv (((nI j_33) + (-8)) + (nI (32 * v_69)))) (cwV 1 hts gX12_factor_X12_emits rfl rfl rfl hd_yX12_emits ⟨Nat.le_of_ble_eq_true rfl, Nat.le_of_ble_eq_true rfl⟩) ⟨fun a U g mk q => by obtain ⟨q0, qP, qK⟩ := q; exact ⟨q0, mvP g mk a qP, mvK g mk a qK⟩, va_recv hK hP (ci := 14) (q := (RX12, TX12, 23)) (q0 := 0) rfl rfl, fun U hU hW => ⟨rfl, by rw [hU]; exact hPc, va_K.moved hW.alike hKc⟩⟩ rfl rfl hl.1 rfl (lv_room (Nat.le_of_ble_eq_true rfl)) dX12_factor_191 ⟨Nat.le_of_ble_eq_true rfl, Nat.le_of_ble_eq_true rfl⟩).run (fun hw_78 => ?_)
            rw [hQ]
            have hP9 := hP.sub (ws' := [(zo14irriiiiiirriirrrrlriiii m0 th aS aI im (nI a) (nI (p0 + 1)) (nI E) 1 1 aB aT se dn aG aO aN aD bv aY rn kd nu tv), (zaI aS cS 901 fS)]) [0, 1] rfl
            have hD9 := hD.sub (ws' := [(zo14irriiiiiirriirrrrlriiii m0 th aS aI im (nI a) (nI (p0 + 1)) (nI E) 1 1 aB aT se dn aG aO aN aD bv aY rn kd nu tv), (zaI aS cS 901 fS)]) [0, 1] (by decide) rfl
            have hK9 := hK.sub (tys' := [(cS, .int)]) [0] rfl
            exact W.vret hx hb hr (fun tQ htQ hWQ => ⟨⟨(fS, (nI (p0 + 1)), 1), rfl, ⟨p0 + 1, rfl, by omega, by omega, PF.rf, Or.inl ⟨rfl, (pf_t hn33 hn40).trans (pt_2 hx6 hx3)⟩⟩, by rw [htQ]; exact hP9, va_K.moved hWQ.alike hK9, hD9⟩, hS.F htQ⟩) hS.2.2 dX12_factor_194
          · skip
            exact absurd h_75 (by decide)
        · skip
          have hj_60 : j_59 < 3 := hj_60
          have hx3 := am3_y hj_60 h_62
          refine lv_istore_n (lv' := [(3, .int (nI j_59)), (2, .int (nI j_33)), (1, .int r_2), (0, .ref m0)]) hx hb dX12_factor_150 rfl hl (by decide) rfl (fun ls hl => ?_)
          refine lv_aload_n hx hb dX12_factor_151 rfl (lv_at hl 3 rfl) ?_
          refine lv_aload_n hx hb dX12_factor_152 rfl (lv_at hl 3 rfl) ?_
          refine va_get (D := (dC, dI)) (ci := 14) (v := .int 0) (C := RX12) (T := TX12) (N := 23) hx hb hts kc_factor1_0 hown hK hP 0 rfl rfl 7 (by decide) (hts (.fieldLink RX12 65 "MistHeapsModel" "isWrong" "Z") kc_factor1_1) (fun _ h9 => h9) rfl dX12_factor_153 ?_
          refine lv_if_ne (tgt := 164) hx hb dX12_factor_156 (by decide) (fun c_79 => absurd c_79 (by decide)) (fun _ => ?_)
          refine lv_iload_n hx hb dX12_factor_159 rfl (lv_at hl 0 rfl) ?_
          refine lv_iconst (v := (-1)) hx hb dX12_factor_160 (by decide) ?_
          refine lv_icmp_ne (tgt := 168) hx hb dX12_factor_161 (by decide) (fun c_80 => ?_) (fun c_80 => absurd c_80 (nI_nm1 (by omega)))
          refine lv_iconst (v := 0) hx hb dX12_factor_168 (by decide) ?_
          refine va_put (D := (dC, dI)) (ci := 14) (v := .int 0) (ty := .boolean) (C := RX12) (T := TX12) (N := 23) hx hb hts kc_factor1_0 tyX12 tyX12_ok nmX12 hown hK hP hD hS 0 rfl rfl 7 (by decide) (hts (.fieldLink RX12 65 "MistHeapsModel" "isWrong" "Z") kc_factor1_1) (fun _ h9 => h9) rfl (by decide +kernel) rfl rfl (Nat.le_of_ble_eq_true rfl) dX12_factor_169 (fun H locs hP hD hS => ?_)
          have hP : va_P (dC, dI) vwCl [(zo14irriiiiiirriirrrrlriiii m0 th aS aI im (nI a) (nI ((p0 + 1) + 1)) (nI E) 0 1 aB aT se dn aG aO aN aD bv aY rn kd nu tv), (zaI aS cS 901 fS)] H := hP
          have hD : va_D A [(zo14irriiiiiirriirrrrlriiii m0 th aS aI im (nI a) (nI ((p0 + 1) + 1)) (nI E) 0 1 aB aT se dn aG aO aN aD bv aY rn kd nu tv), (zaI aS cS 901 fS)] := hD
          refine lv_aload_n hx hb dX12_factor_172 rfl (lv_at hl 3 rfl) ?_
          have hPc := hP.sub (ws' := [(zo14irriiiiiirriirrrrlriiii m0 th aS aI im (nI a) (nI ((p0 + 1) + 1)) (nI E) 0 1 aB aT se dn aG aO aN aD bv aY rn kd nu tv), (zaI aS cS 901 fS)]) [0, 1] rfl
          have hDc := hD.sub (ws' := [(zo14irriiiiiirriirrrrlriiii m0 th aS aI im (nI a) (nI ((p0 + 1) + 1)) (nI E) 0 1 aB aT se dn aG aO aN aD bv aY rn kd nu tv), (zaI aS cS 901 fS)]) [0, 1] (by decide) rfl
          have hKc := hK.sub (tys' := [(cS, .int)]) [0] rfl
          have hFc := va_free (wc := [(zo14irriiiiiirriirrrrlriiii m0 th aS aI im (nI a) (nI ((p0 + 1) + 1)) (nI E) 0 1 aB aT se dn aG aO aN aD bv aY rn kd nu tv), (zaI aS cS 901 fS)]) hD hS hA [0, 1] rfl
          refine va_calli (va_runV (As := []) (rest := []) ⟨hx, hb, hml, hown, hts⟩ (c_figures l dC dI m0 aS aI aB aT aG aO aN aD aY th im (nI a) (nI ((p0 + 1) + 1)) (nI E) 0 1 se dn rn kd nu tv bv cS fS a ((p0 + 1) + 1) E ss H.size (by omega) (by omega) (by omega) (Or.inl rfl) (gT)) (cwV 0 hts gX12_factor_X12_figures rfl rfl rfl hd_yX12_figures ⟨Nat.le_of_ble_eq_true rfl, Nat.le_of_ble_eq_true rfl⟩) ⟨fun a U g mk q => by obtain ⟨q0, q1, qP, qK, qD⟩ := q; exact ⟨q0, mvz g mk a q1, mvP g mk a qP, mvK g mk a qK, qD⟩, va_recv hK hP (ci := 14) (q := (RX12, TX12, 23)) (q0 := 0) rfl rfl, fun U hU hW => ⟨rfl, by rw [hU], by rw [hU]; exact hPc, va_K.moved hW.alike hKc, hDc.weaken (fun _ _ _ _ => trivial)⟩⟩ rfl rfl hl.1 rfl (lv_room (Nat.le_of_ble_eq_true rfl)) dX12_factor_173 ⟨Nat.le_of_ble_eq_true rfl, Nat.le_of_ble_eq_true rfl⟩) hS (fun q _ h => hFc q h) hFc (fun r_81 u tC H1 locs htC hvm hw_82 hB hz1 hk1 hS => ?_)
          obtain ⟨sp9_83, wg9_84⟩ := u
          try dsimp only at hw_82 hB
          obtain ⟨hP1, hK1, hD1⟩ := hB
          rw [htC] at hP1
          have hK1 := va_K.moved hvm.symm hK1
          obtain ⟨hP, hD⟩ := va_join (wr := []) (w1 := [(zo14irriiiiiirriirrrrlriiii m0 th aS aI im (nI a) sp9_83 (nI E) wg9_84 1 aB aT se dn aG aO aN aD bv aY rn kd nu tv), (zaI aS cS 901 fS)]) hP hD [0, 1] [] rfl rfl (by decide) (by decide) hk1 hFc hP1 hD1
          have hK := (hK.sub (tys' := []) [] rfl).app hK1
          generalize H1 = H at hP hS ⊢
          have hP : va_P (dC, dI) vwCl [(zo14irriiiiiirriirrrrlriiii m0 th aS aI im (nI a) sp9_83 (nI E) wg9_84 1 aB aT se dn aG aO aN aD bv aY rn kd nu tv), (zaI aS cS 901 fS)] H := hP
          have hD : va_D A [(zo14irriiiiiirriirrrrlriiii m0 th aS aI im (nI a) sp9_83 (nI E) wg9_84 1 aB aT se dn aG aO aN aD bv aY rn kd nu tv), (zaI aS cS 901 fS)] := hD
          have hK : va_K (dC, dI) vwCl [(cS, .int)] s := hK
          rcases hw_82 with ⟨rfl, rfl, hN_92, v_85, h_87, rfl⟩ | ⟨rfl, h_91, v_85, p_86, h_87, h_88, h_89, rfl, rfl, hN_92⟩
          · skip
            have hN := hN_92 rfl
            refine lv_istore (lv' := [(4, .int (nI v_85)), (3, .int (nI j_59)), (2, .int (nI j_33)), (1, .int r_2), (0, .ref m0)]) hx hb dX12_factor_176 hl (by decide) rfl (fun ls hl => ?_)
            refine lv_aload_n hx hb dX12_factor_178 rfl (lv_at hl 4 rfl) ?_
            refine lv_iload_n hx hb dX12_factor_179 rfl (lv_at hl 2 rfl) ?_
            refine lv_bipush (v := 8) hx hb dX12_factor_180 (by decide) ?_
            refine lv_iload_n hx hb dX12_factor_182 rfl (lv_at hl 1 rfl) ?_
            refine lv_imul hx hb dX12_factor_183 ?_
            refine qi_as (y := nI (8 * j_59)) (pk_mul 8 j_59) ?_
            refine lv_iadd hx hb dX12_factor_184 ?_
            refine qi_as (y := nI (j_33 + (8 * j_59))) (nI_add j_33 (8 * j_59)) ?_
            refine lv_bipush (v := 32) hx hb dX12_factor_185 (by decide) ?_
            refine lv_iload hx hb dX12_factor_187 (lv_at hl 0 rfl) ?_
            refine lv_imul hx hb dX12_factor_189 ?_
            refine qi_as (y := nI (32 * v_85)) (pk_mul 32 v_85) ?_
            refine lv_iadd hx hb dX12_factor_190 ?_
            refine qi_as (y := nI ((j_33 + (8 * j_59)) + (32 * v_85))) (nI_add (j_33 + (8 * j_59)) (32 * v_85)) ?_
            have hPc := hP.sub (ws' := [(zo14irriiiiiirriirrrrlriiii m0 th aS aI im (nI a) (nI ((p0 + 1) + 1)) (nI E) 1 1 aB aT se dn aG aO aN aD bv aY rn kd nu tv)]) [0] rfl
            have hKc := hK.sub (tys' := []) [] rfl
            refine va_csv (va_runV (As := [.int (nI ((j_33 + (8 * j_59)) + (32 * v_85)))]) (rest := []) ⟨hx, hb, hml, hown, hts⟩ (c_emitsW l dC dI m0 aS aI aB aT aG aO aN aD aY th im (nI a) (nI ((p0 + 1) + 1)) (nI E) 1 1 se dn rn kd nu tv bv (nI ((j_33 + (8 * j_59)) + (32 * v_85)))) (cwV 1 hts gX12_factor_X12_emits rfl rfl rfl hd_yX12_emits ⟨Nat.le_of_ble_eq_true rfl, Nat.le_of_ble_eq_true rfl⟩) ⟨fun a U g mk q => by obtain ⟨q0, qP, qK⟩ := q; exact ⟨q0, mvP g mk a qP, mvK g mk a qK⟩, va_recv hK hP (ci := 14) (q := (RX12, TX12, 23)) (q0 := 0) rfl rfl, fun U hU hW => ⟨rfl, by rw [hU]; exact hPc, va_K.moved hW.alike hKc⟩⟩ rfl rfl hl.1 rfl (lv_room (Nat.le_of_ble_eq_true rfl)) dX12_factor_191 ⟨Nat.le_of_ble_eq_true rfl, Nat.le_of_ble_eq_true rfl⟩).run (fun hw_94 => ?_)
            rw [hQ]
            have hP9 := hP.sub (ws' := [(zo14irriiiiiirriirrrrlriiii m0 th aS aI im (nI a) (nI ((p0 + 1) + 1)) (nI E) 1 1 aB aT se dn aG aO aN aD bv aY rn kd nu tv), (zaI aS cS 901 fS)]) [0, 1] rfl
            have hD9 := hD.sub (ws' := [(zo14irriiiiiirriirrrrlriiii m0 th aS aI im (nI a) (nI ((p0 + 1) + 1)) (nI E) 1 1 aB aT se dn aG aO aN aD bv aY rn kd nu tv), (zaI aS cS 901 fS)]) [0, 1] (by decide) rfl
            have hK9 := hK.sub (tys' := [(cS, .int)]) [0] rfl
            exact W.vret hx hb hr (fun tQ htQ hWQ => ⟨⟨(fS, (nI ((p0 + 1) + 1)), 1), rfl, ⟨(p0 + 1) + 1, rfl, by omega, by omega, PF.rf, Or.inl ⟨rfl, (pf_t hn33 hn40).trans (pt_3 hx6 hx3 hN)⟩⟩, by rw [htQ]; exact hP9, va_K.moved hWQ.alike hK9, hD9⟩, hS.F htQ⟩) hS.2.2 dX12_factor_194
          · skip
            have hN := hN_92
            refine lv_istore (lv' := [(4, .int (nI v_85)), (3, .int (nI j_59)), (2, .int (nI j_33)), (1, .int r_2), (0, .ref m0)]) hx hb dX12_factor_176 hl (by decide) rfl (fun ls hl => ?_)
            refine lv_aload_n hx hb dX12_factor_178 rfl (lv_at hl 4 rfl) ?_
            refine lv_iload_n hx hb dX12_factor_179 rfl (lv_at hl 2 rfl) ?_
            refine lv_bipush (v := 8) hx hb dX12_factor_180 (by decide) ?_
            refine lv_iload_n hx hb dX12_factor_182 rfl (lv_at hl 1 rfl) ?_
            refine lv_imul hx hb dX12_factor_183 ?_
            refine qi_as (y := nI (8 * j_59)) (pk_mul 8 j_59) ?_
            refine lv_iadd hx hb dX12_factor_184 ?_
            refine qi_as (y := nI (j_33 + (8 * j_59))) (nI_add j_33 (8 * j_59)) ?_
            refine lv_bipush (v := 32) hx hb dX12_factor_185 (by decide) ?_
            refine lv_iload hx hb dX12_factor_187 (lv_at hl 0 rfl) ?_
            refine lv_imul hx hb dX12_factor_189 ?_
            refine qi_as (y := nI (32 * v_85)) (pk_mul 32 v_85) ?_
            refine lv_iadd hx hb dX12_factor_190 ?_
            refine qi_as (y := nI ((j_33 + (8 * j_59)) + (32 * v_85))) (nI_add (j_33 + (8 * j_59)) (32 * v_85)) ?_
            have hPc := hP.sub (ws' := [(zo14irriiiiiirriirrrrlriiii m0 th aS aI im (nI a) (nI p_86) (nI E) 0 1 aB aT se dn aG aO aN aD bv aY rn kd nu tv), (zaI aS cS 901 fS)]) [0, 1] rfl
            have hDc := hD.sub (ws' := [(zo14irriiiiiirriirrrrlriiii m0 th aS aI im (nI a) (nI p_86) (nI E) 0 1 aB aT se dn aG aO aN aD bv aY rn kd nu tv), (zaI aS cS 901 fS)]) [0, 1] (by decide) rfl
            have hKc := hK.sub (tys' := [(cS, .int)]) [0] rfl
            have hFc := va_free (wc := [(zo14irriiiiiirriirrrrlriiii m0 th aS aI im (nI a) (nI p_86) (nI E) 0 1 aB aT se dn aG aO aN aD bv aY rn kd nu tv), (zaI aS cS 901 fS)]) hD hS hA [0, 1] rfl
            refine va_callv (va_runV (As := [.int (nI ((j_33 + (8 * j_59)) + (32 * v_85)))]) (rest := []) ⟨hx, hb, hml, hown, hts⟩ (c_emits l dC dI m0 aS aI aB aT aG aO aN aD aY th im (nI a) (nI p_86) (nI E) 0 1 se dn rn kd nu tv bv cS fS a K.length (nI ((j_33 + (8 * j_59)) + (32 * v_85))) H.size (ga) ((gI).2.2.2.1) (by have := (gI).2.2.2.2.1; omega)) (cwV 1 hts gX12_factor_X12_emits rfl rfl rfl hd_yX12_emits ⟨Nat.le_of_ble_eq_true rfl, Nat.le_of_ble_eq_true rfl⟩) ⟨fun a U g mk q => by obtain ⟨q0, q1, qP, qK, qD⟩ := q; exact ⟨q0, mvz g mk a q1, mvP g mk a qP, mvK g mk a qK, qD⟩, va_recv hK hP (ci := 14) (q := (RX12, TX12, 23)) (q0 := 0) rfl rfl, fun U hU hW => ⟨rfl, by rw [hU], by rw [hU]; exact hPc, va_K.moved hW.alike hKc, hDc.weaken (fun _ _ _ _ => trivial)⟩⟩ rfl rfl hl.1 rfl (lv_room (Nat.le_of_ble_eq_true rfl)) dX12_factor_191 ⟨Nat.le_of_ble_eq_true rfl, Nat.le_of_ble_eq_true rfl⟩) hS (fun q _ h => hFc q h) hFc (fun u tC H1 locs htC hvm hw_96 hB hz1 hk1 hS => ?_)
            obtain ⟨fS9_97, rfl⟩ : ∃ z, z = u := ⟨_, rfl⟩
            try dsimp only at hw_96 hB
            obtain ⟨hP1, hK1, hD1⟩ := hB
            rw [htC] at hP1
            have hK1 := va_K.moved hvm.symm hK1
            obtain ⟨hP, hD⟩ := va_join (wr := []) (w1 := [(zo14irriiiiiirriirrrrlriiii m0 th aS aI im (nI a) (nI p_86) (nI E) 0 1 aB aT se dn aG aO aN aD bv aY rn kd nu tv), (zaI aS cS 901 fS9_97)]) hP hD [0, 1] [] rfl rfl (by decide) (by decide) hk1 hFc hP1 hD1
            have hK := (hK.sub (tys' := []) [] rfl).app hK1
            generalize H1 = H at hP hS ⊢
            have hP : va_P (dC, dI) vwCl [(zo14irriiiiiirriirrrrlriiii m0 th aS aI im (nI a) (nI p_86) (nI E) 0 1 aB aT se dn aG aO aN aD bv aY rn kd nu tv), (zaI aS cS 901 fS9_97)] H := hP
            have hD : va_D A [(zo14irriiiiiirriirrrrlriiii m0 th aS aI im (nI a) (nI p_86) (nI E) 0 1 aB aT se dn aG aO aN aD bv aY rn kd nu tv), (zaI aS cS 901 fS9_97)] := hD
            have hK : va_K (dC, dI) vwCl [(cS, .int)] s := hK
            obtain rfl : fS9_97 = emt fS a K.length (nI ((j_33 + (8 * j_59)) + (32 * v_85))) := by rcases hw_96 with ⟨q, _⟩ | ⟨_, q⟩; exact absurd rfl q; exact q
            have hI_98 : PI (emt fS a K.length (nI ((j_33 + (8 * j_59)) + (32 * v_85)))) a (K ++ [j_33 * 300 + j_59 * 100 + v_85]) (d + 1) p_86 E := PI.em (t := j_33 * 300 + j_59 * 100 + v_85) ((gI).mono (by omega) (by omega)) (by omega) (by omega) (stepd_test (by omega) (by omega) (by omega) (by omega)) (rcd_t (by omega) (by omega) (by omega))
            have hF_99 : PF a fS (emt fS a K.length (nI ((j_33 + (8 * j_59)) + (32 * v_85)))) := (PF.rf).tr (PF_emt (k := K.length) (x := nI ((j_33 + (8 * j_59)) + (32 * v_85))) ga (by have := (gI).2.2.2.2.1; omega))
            have hKhI_98 : (K ++ [j_33 * 300 + j_59 * 100 + v_85]).length = K.length + 1 := by rw [List.length_append]; rfl
            rw [hQ]
            have hP9 := hP.sub (ws' := [(zo14irriiiiiirriirrrrlriiii m0 th aS aI im (nI a) (nI p_86) (nI E) 0 1 aB aT se dn aG aO aN aD bv aY rn kd nu tv), (zaI aS cS 901 (emt fS a K.length (nI ((j_33 + (8 * j_59)) + (32 * v_85)))))]) [0, 1] rfl
            have hD9 := hD.sub (ws' := [(zo14irriiiiiirriirrrrlriiii m0 th aS aI im (nI a) (nI p_86) (nI E) 0 1 aB aT se dn aG aO aN aD bv aY rn kd nu tv), (zaI aS cS 901 (emt fS a K.length (nI ((j_33 + (8 * j_59)) + (32 * v_85)))))]) [0, 1] (by decide) rfl
            have hK9 := hK.sub (tys' := [(cS, .int)]) [0] rfl
            exact W.vret hx hb hr (fun tQ htQ hWQ => ⟨⟨((emt fS a K.length (nI ((j_33 + (8 * j_59)) + (32 * v_85)))), (nI p_86), 0), rfl, ⟨p_86, rfl, by omega, by omega, hF_99, Or.inr ⟨rfl, [j_33 * 300 + j_59 * 100 + v_85], (pf_t hn33 hn40).trans (pt_4 hx6 hx3 hN), by omega, (hI_98).mono (by omega) (by omega), by (try simp only [List.length_append, List.length_cons, List.length_nil]); omega⟩⟩, by rw [htQ]; exact hP9, va_K.moved hWQ.alike hK9, hD9⟩, hS.F htQ⟩) hS.2.2 dX12_factor_194
    · skip
      subst c_29
      have hs : ss p0 = 40 := (gT.eq (c := 40) (by omega) (by omega)).mp hw_3.symm
      have hlt : p0 < E := Nat.lt_of_not_le (fun z => by have := gT.2.1 p0 z; omega)
      refine lv_aload_n hx hb dX12_factor_25 rfl (lv_at hl 1 rfl) ?_
      refine lv_aload_n hx hb dX12_factor_26 rfl (lv_at hl 1 rfl) ?_
      refine va_get (D := (dC, dI)) (ci := 14) (v := .int 1) (C := RX12) (T := TX12) (N := 23) hx hb hts kc_factor1_0 hown hK hP 0 rfl rfl 8 (by decide) (hts (.fieldLink RX12 89 "MistHeapsModel" "open" "I") kc_factor1_2) (fun _ h9 => h9) rfl dX12_factor_27 ?_
      refine lv_iconst (v := 5) hx hb dX12_factor_30 (by decide) ?_
      refine lv_icmp_ne (tgt := 38) hx hb dX12_factor_31 (by decide) (fun _ => ?_) (fun c_100 => absurd c_100 (by decide))
      refine lv_iconst (v := 0) hx hb dX12_factor_38 (by decide) ?_
      refine va_put (D := (dC, dI)) (ci := 14) (v := .int 0) (ty := .boolean) (C := RX12) (T := TX12) (N := 23) hx hb hts kc_factor1_0 tyX12 tyX12_ok nmX12 hown hK hP hD hS 0 rfl rfl 7 (by decide) (hts (.fieldLink RX12 65 "MistHeapsModel" "isWrong" "Z") kc_factor1_1) (fun _ h9 => h9) rfl (by decide +kernel) rfl rfl (Nat.le_of_ble_eq_true rfl) dX12_factor_39 (fun H locs hP hD hS => ?_)
      have hP : va_P (dC, dI) vwCl [(zo14irriiiiiirriirrrrlriiii m0 th aS aI im (nI a) (nI p0) (nI E) 0 1 aB aT se dn aG aO aN aD bv aY rn kd nu tv), (zaI aS cS 901 fS)] H := hP
      have hD : va_D A [(zo14irriiiiiirriirrrrlriiii m0 th aS aI im (nI a) (nI p0) (nI E) 0 1 aB aT se dn aG aO aN aD bv aY rn kd nu tv), (zaI aS cS 901 fS)] := hD
      refine lv_aload_n hx hb dX12_factor_42 rfl (lv_at hl 1 rfl) ?_
      refine lv_dup hx hb dX12_factor_43 rfl ?_
      refine va_get (D := (dC, dI)) (ci := 14) (v := .int 1) (C := RX12) (T := TX12) (N := 23) hx hb hts kc_factor1_0 hown hK hP 0 rfl rfl 8 (by decide) (hts (.fieldLink RX12 89 "MistHeapsModel" "open" "I") kc_factor1_2) (fun _ h9 => h9) rfl dX12_factor_44 ?_
      refine lv_iconst (v := 1) hx hb dX12_factor_47 (by decide) ?_
      refine lv_iadd hx hb dX12_factor_48 ?_
      refine qi_as (y := 2) (by decide) ?_
      refine va_put (D := (dC, dI)) (ci := 14) (v := .int 2) (ty := .int) (C := RX12) (T := TX12) (N := 23) hx hb hts kc_factor1_0 tyX12 tyX12_ok nmX12 hown hK hP hD hS 0 rfl rfl 8 (by decide) (hts (.fieldLink RX12 89 "MistHeapsModel" "open" "I") kc_factor1_2) (fun _ h9 => h9) rfl (by decide +kernel) rfl rfl (Nat.le_of_ble_eq_true rfl) dX12_factor_49 (fun H locs hP hD hS => ?_)
      have hP : va_P (dC, dI) vwCl [(zo14irriiiiiirriirrrrlriiii m0 th aS aI im (nI a) (nI p0) (nI E) 0 2 aB aT se dn aG aO aN aD bv aY rn kd nu tv), (zaI aS cS 901 fS)] H := hP
      have hD : va_D A [(zo14irriiiiiirriirrrrlriiii m0 th aS aI im (nI a) (nI p0) (nI E) 0 2 aB aT se dn aG aO aN aD bv aY rn kd nu tv), (zaI aS cS 901 fS)] := hD
      refine lv_aload_n hx hb dX12_factor_52 rfl (lv_at hl 1 rfl) ?_
      refine lv_dup hx hb dX12_factor_53 rfl ?_
      refine va_get (D := (dC, dI)) (ci := 14) (v := .int (nI p0)) (C := RX12) (T := TX12) (N := 23) hx hb hts kc_factor1_0 hown hK hP 0 rfl rfl 5 (by decide) (hts (.fieldLink RX12 59 "MistHeapsModel" "spot" "I") kc_factor1_3) (fun _ h9 => h9) rfl dX12_factor_54 ?_
      refine lv_aload_n hx hb dX12_factor_57 rfl (lv_at hl 1 rfl) ?_
      refine va_get (D := (dC, dI)) (ci := 14) (v := .int 0) (C := RX12) (T := TX12) (N := 23) hx hb hts kc_factor1_0 hown hK hP 0 rfl rfl 7 (by decide) (hts (.fieldLink RX12 65 "MistHeapsModel" "isWrong" "Z") kc_factor1_1) (fun _ h9 => h9) rfl dX12_factor_58 ?_
      refine lv_if_eq (tgt := 68) hx hb dX12_factor_61 (by decide) (fun _ => ?_) (fun c_101 => absurd c_101 (by decide))
      refine lv_iconst (v := 1) hx hb dX12_factor_68 (by decide) ?_
      refine lv_iadd hx hb dX12_factor_69 ?_
      refine qi_as (y := nI (p0 + 1)) (nI_add p0 1) ?_
      refine va_put (D := (dC, dI)) (ci := 14) (v := .int (nI (p0 + 1))) (ty := .int) (C := RX12) (T := TX12) (N := 23) hx hb hts kc_factor1_0 tyX12 tyX12_ok nmX12 hown hK hP hD hS 0 rfl rfl 5 (by decide) (hts (.fieldLink RX12 59 "MistHeapsModel" "spot" "I") kc_factor1_3) (fun _ h9 => h9) rfl (by decide +kernel) rfl rfl (Nat.le_of_ble_eq_true rfl) dX12_factor_70 (fun H locs hP hD hS => ?_)
      have hP : va_P (dC, dI) vwCl [(zo14irriiiiiirriirrrrlriiii m0 th aS aI im (nI a) (nI (p0 + 1)) (nI E) 0 2 aB aT se dn aG aO aN aD bv aY rn kd nu tv), (zaI aS cS 901 fS)] H := hP
      have hD : va_D A [(zo14irriiiiiirriirrrrlriiii m0 th aS aI im (nI a) (nI (p0 + 1)) (nI E) 0 2 aB aT se dn aG aO aN aD bv aY rn kd nu tv), (zaI aS cS 901 fS)] := hD
      refine lv_iload_n hx hb dX12_factor_73 rfl (lv_at hl 0 rfl) ?_
      refine lv_bipush (v := 33) hx hb dX12_factor_74 (by decide) ?_
      refine lv_icmp_ne (tgt := 91) hx hb dX12_factor_76 (by decide) (fun _ => ?_) (fun c_102 => absurd c_102 (by decide))
      refine lv_aload_n hx hb dX12_factor_91 rfl (lv_at hl 1 rfl) ?_
      have hPc := hP.sub (ws' := [(zo14irriiiiiirriirrrrlriiii m0 th aS aI im (nI a) (nI (p0 + 1)) (nI E) 0 2 aB aT se dn aG aO aN aD bv aY rn kd nu tv), (zaI aS cS 901 fS)]) [0, 1] rfl
      have hDc := hD.sub (ws' := [(zo14irriiiiiirriirrrrlriiii m0 th aS aI im (nI a) (nI (p0 + 1)) (nI E) 0 2 aB aT se dn aG aO aN aD bv aY rn kd nu tv), (zaI aS cS 901 fS)]) [0, 1] (by decide) rfl
      have hKc := hK.sub (tys' := [(cS, .int)]) [0] rfl
      have hFc := va_free (wc := [(zo14irriiiiiirriirrrrlriiii m0 th aS aI im (nI a) (nI (p0 + 1)) (nI E) 0 2 aB aT se dn aG aO aN aD bv aY rn kd nu tv), (zaI aS cS 901 fS)]) hD hS hA [0, 1] rfl
      refine va_callv (va_runV (As := []) (rest := []) ⟨hx, hb, hml, hown, hts⟩ (c_some2 l dC dI sK sV m0 aS aI aB aT aG aO aN aD aY th im (nI a) (nI (p0 + 1)) (nI E) 0 2 se dn rn kd nu tv bv cS fS a (p0 + 1) E K d ss H.size ((gI).mono (by omega) (by omega)) (gT)) (cwV 0 hts gX12_factor_X12_some rfl rfl rfl hd_yX12_some ⟨Nat.le_of_ble_eq_true rfl, Nat.le_of_ble_eq_true rfl⟩) ⟨fun a U g mk q => by obtain ⟨q0, q1, qP, qK, qD, qhE⟩ := q; exact ⟨q0, mvz g mk a q1, mvP g mk a qP, mvK g mk a qK, qD, qhE.mv g mk a⟩, va_recv hK hP (ci := 14) (q := (RX12, TX12, 23)) (q0 := 0) rfl rfl, fun U hU hW => ⟨rfl, by rw [hU], by rw [hU]; exact hPc, va_K.moved hW.alike hKc, hDc.weaken (fun _ _ _ _ => trivial), hE.call hS hU hW (fun q h => hFc q h)⟩⟩ rfl rfl hl.1 rfl (lv_room (Nat.le_of_ble_eq_true rfl)) dX12_factor_92 ⟨Nat.le_of_ble_eq_true rfl, Nat.le_of_ble_eq_true rfl⟩) hS (fun q _ h => hFc q h) hFc (fun u tC H1 locs htC hvm hw_104 hB hz1 hk1 hS => ?_)
      obtain ⟨fS9_105, sp9_106, wg9_107⟩ := u
      try dsimp only at hw_104 hB
      obtain ⟨hP1, hK1, hD1⟩ := hB
      rw [htC] at hP1
      have hK1 := va_K.moved hvm.symm hK1
      obtain ⟨hP, hD⟩ := va_join (wr := []) (w1 := [(zo14irriiiiiirriirrrrlriiii m0 th aS aI im (nI a) sp9_106 (nI E) wg9_107 2 aB aT se dn aG aO aN aD bv aY rn kd nu tv), (zaI aS cS 901 fS9_105)]) hP hD [0, 1] [] rfl rfl (by decide) (by decide) hk1 hFc hP1 hD1
      have hK := (hK.sub (tys' := []) [] rfl).app hK1
      generalize H1 = H at hP hS ⊢
      have hP : va_P (dC, dI) vwCl [(zo14irriiiiiirriirrrrlriiii m0 th aS aI im (nI a) sp9_106 (nI E) wg9_107 2 aB aT se dn aG aO aN aD bv aY rn kd nu tv), (zaI aS cS 901 fS9_105)] H := hP
      have hD : va_D A [(zo14irriiiiiirriirrrrlriiii m0 th aS aI im (nI a) sp9_106 (nI E) wg9_107 2 aB aT se dn aG aO aN aD bv aY rn kd nu tv), (zaI aS cS 901 fS9_105)] := hD
      have hK : va_K (dC, dI) vwCl [(cS, .int)] s := hK
      obtain ⟨p_108, rfl, h_111, h_112, hF_113, q9⟩ := hw_104
      rcases q9 with ⟨rfl, eP_110⟩ | ⟨rfl, L_109, eP_110, h_114, hI_115, h_116⟩
      · skip
        refine lv_aload_n hx hb dX12_factor_95 rfl (lv_at hl 1 rfl) ?_
        refine lv_bipush (v := 41) hx hb dX12_factor_96 (by decide) ?_
        have hPc := hP.sub (ws' := [(zo14irriiiiiirriirrrrlriiii m0 th aS aI im (nI a) (nI p_108) (nI E) 1 2 aB aT se dn aG aO aN aD bv aY rn kd nu tv), (zaI aS cS 901 fS9_105)]) [0, 1] rfl
        have hDc := hD.sub (ws' := [(zo14irriiiiiirriirrrrlriiii m0 th aS aI im (nI a) (nI p_108) (nI E) 1 2 aB aT se dn aG aO aN aD bv aY rn kd nu tv), (zaI aS cS 901 fS9_105)]) [0, 1] (by decide) rfl
        have hKc := hK.sub (tys' := [(cS, .int)]) [0] rfl
        have hFc := va_free (wc := [(zo14irriiiiiirriirrrrlriiii m0 th aS aI im (nI a) (nI p_108) (nI E) 1 2 aB aT se dn aG aO aN aD bv aY rn kd nu tv), (zaI aS cS 901 fS9_105)]) hD hS hA [0, 1] rfl
        refine va_callv (va_runV (As := [.int 41]) (rest := []) ⟨hx, hb, hml, hown, hts⟩ (c_must l dC dI m0 aS aI aB aT aG aO aN aD aY th im (nI a) (nI p_108) (nI E) 1 2 se dn rn kd nu tv bv cS fS9_105 a p_108 E 41 H.size (by omega) (by omega) (by omega) (Or.inr rfl) (by decide)) (cwV 1 hts gX12_factor_X12_must rfl rfl rfl hd_yX12_must ⟨Nat.le_of_ble_eq_true rfl, Nat.le_of_ble_eq_true rfl⟩) ⟨fun a U g mk q => by obtain ⟨q0, q1, qP, qK, qD⟩ := q; exact ⟨q0, mvz g mk a q1, mvP g mk a qP, mvK g mk a qK, qD⟩, va_recv hK hP (ci := 14) (q := (RX12, TX12, 23)) (q0 := 0) rfl rfl, fun U hU hW => ⟨rfl, by rw [hU], by rw [hU]; exact hPc, va_K.moved hW.alike hKc, hDc.weaken (fun _ _ _ _ => trivial)⟩⟩ rfl rfl hl.1 rfl (lv_room (Nat.le_of_ble_eq_true rfl)) dX12_factor_98 ⟨Nat.le_of_ble_eq_true rfl, Nat.le_of_ble_eq_true rfl⟩) hS (fun q _ h => hFc q h) hFc (fun u tC H1 locs htC hvm hw_118 hB hz1 hk1 hS => ?_)
        obtain ⟨sp9_119, wg9_120⟩ := u
        try dsimp only at hw_118 hB
        obtain ⟨hP1, hK1, hD1⟩ := hB
        rw [htC] at hP1
        have hK1 := va_K.moved hvm.symm hK1
        obtain ⟨hP, hD⟩ := va_join (wr := []) (w1 := [(zo14irriiiiiirriirrrrlriiii m0 th aS aI im (nI a) sp9_119 (nI E) wg9_120 2 aB aT se dn aG aO aN aD bv aY rn kd nu tv), (zaI aS cS 901 fS9_105)]) hP hD [0, 1] [] rfl rfl (by decide) (by decide) hk1 hFc hP1 hD1
        have hK := (hK.sub (tys' := []) [] rfl).app hK1
        generalize H1 = H at hP hS ⊢
        have hP : va_P (dC, dI) vwCl [(zo14irriiiiiirriirrrrlriiii m0 th aS aI im (nI a) sp9_119 (nI E) wg9_120 2 aB aT se dn aG aO aN aD bv aY rn kd nu tv), (zaI aS cS 901 fS9_105)] H := hP
        have hD : va_D A [(zo14irriiiiiirriirrrrlriiii m0 th aS aI im (nI a) sp9_119 (nI E) wg9_120 2 aB aT se dn aG aO aN aD bv aY rn kd nu tv), (zaI aS cS 901 fS9_105)] := hD
        have hK : va_K (dC, dI) vwCl [(cS, .int)] s := hK
        obtain ⟨rfl, rfl⟩ : _ ∧ _ := by rcases hw_118 with ⟨q, q2, _⟩ | ⟨_, q, _⟩; exact ⟨q, q2⟩; exact absurd q (by decide)
        refine lv_aload_n hx hb dX12_factor_101 rfl (lv_at hl 1 rfl) ?_
        refine lv_dup hx hb dX12_factor_102 rfl ?_
        refine va_get (D := (dC, dI)) (ci := 14) (v := .int 2) (C := RX12) (T := TX12) (N := 23) hx hb hts kc_factor1_0 hown hK hP 0 rfl rfl 8 (by decide) (hts (.fieldLink RX12 89 "MistHeapsModel" "open" "I") kc_factor1_2) (fun _ h9 => h9) rfl dX12_factor_103 ?_
        refine lv_iconst (v := 1) hx hb dX12_factor_106 (by decide) ?_
        refine lv_isub hx hb dX12_factor_107 ?_
        refine qi_as (y := 1) (by decide) ?_
        refine va_put (D := (dC, dI)) (ci := 14) (v := .int 1) (ty := .int) (C := RX12) (T := TX12) (N := 23) hx hb hts kc_factor1_0 tyX12 tyX12_ok nmX12 hown hK hP hD hS 0 rfl rfl 8 (by decide) (hts (.fieldLink RX12 89 "MistHeapsModel" "open" "I") kc_factor1_2) (fun _ h9 => h9) rfl (by decide +kernel) rfl rfl (Nat.le_of_ble_eq_true rfl) dX12_factor_108 (fun H locs hP hD hS => ?_)
        have hP : va_P (dC, dI) vwCl [(zo14irriiiiiirriirrrrlriiii m0 th aS aI im (nI a) (nI p_108) (nI E) 1 1 aB aT se dn aG aO aN aD bv aY rn kd nu tv), (zaI aS cS 901 fS9_105)] H := hP
        have hD : va_D A [(zo14irriiiiiirriirrrrlriiii m0 th aS aI im (nI a) (nI p_108) (nI E) 1 1 aB aT se dn aG aO aN aD bv aY rn kd nu tv), (zaI aS cS 901 fS9_105)] := hD
        rw [hQ]
        have hP9 := hP.sub (ws' := [(zo14irriiiiiirriirrrrlriiii m0 th aS aI im (nI a) (nI p_108) (nI E) 1 1 aB aT se dn aG aO aN aD bv aY rn kd nu tv), (zaI aS cS 901 fS9_105)]) [0, 1] rfl
        have hD9 := hD.sub (ws' := [(zo14irriiiiiirriirrrrlriiii m0 th aS aI im (nI a) (nI p_108) (nI E) 1 1 aB aT se dn aG aO aN aD bv aY rn kd nu tv), (zaI aS cS 901 fS9_105)]) [0, 1] (by decide) rfl
        have hK9 := hK.sub (tys' := [(cS, .int)]) [0] rfl
        exact W.vret hx hb hr (fun tQ htQ hWQ => ⟨⟨(fS9_105, (nI p_108), 1), rfl, ⟨p_108, rfl, by omega, by omega, (PF.rf).tr hF_113, Or.inl ⟨rfl, pf_b0 (l := 3) hs eP_110⟩⟩, by rw [htQ]; exact hP9, va_K.moved hWQ.alike hK9, hD9⟩, hS.F htQ⟩) hS.2.2 dX12_factor_111
      · skip
        have k5 := hI_115.2.2.2.2.1
        have hqL_109 : (K ++ L_109).length = K.length + L_109.length := List.length_append
        refine lv_aload_n hx hb dX12_factor_95 rfl (lv_at hl 1 rfl) ?_
        refine lv_bipush (v := 41) hx hb dX12_factor_96 (by decide) ?_
        have hPc := hP.sub (ws' := [(zo14irriiiiiirriirrrrlriiii m0 th aS aI im (nI a) (nI p_108) (nI E) 0 2 aB aT se dn aG aO aN aD bv aY rn kd nu tv), (zaI aS cS 901 fS9_105)]) [0, 1] rfl
        have hDc := hD.sub (ws' := [(zo14irriiiiiirriirrrrlriiii m0 th aS aI im (nI a) (nI p_108) (nI E) 0 2 aB aT se dn aG aO aN aD bv aY rn kd nu tv), (zaI aS cS 901 fS9_105)]) [0, 1] (by decide) rfl
        have hKc := hK.sub (tys' := [(cS, .int)]) [0] rfl
        have hFc := va_free (wc := [(zo14irriiiiiirriirrrrlriiii m0 th aS aI im (nI a) (nI p_108) (nI E) 0 2 aB aT se dn aG aO aN aD bv aY rn kd nu tv), (zaI aS cS 901 fS9_105)]) hD hS hA [0, 1] rfl
        refine va_callv (va_runV (As := [.int 41]) (rest := []) ⟨hx, hb, hml, hown, hts⟩ (c_must l dC dI m0 aS aI aB aT aG aO aN aD aY th im (nI a) (nI p_108) (nI E) 0 2 se dn rn kd nu tv bv cS fS9_105 a p_108 E 41 H.size (by omega) (by omega) (by omega) (Or.inl rfl) (by decide)) (cwV 1 hts gX12_factor_X12_must rfl rfl rfl hd_yX12_must ⟨Nat.le_of_ble_eq_true rfl, Nat.le_of_ble_eq_true rfl⟩) ⟨fun a U g mk q => by obtain ⟨q0, q1, qP, qK, qD⟩ := q; exact ⟨q0, mvz g mk a q1, mvP g mk a qP, mvK g mk a qK, qD⟩, va_recv hK hP (ci := 14) (q := (RX12, TX12, 23)) (q0 := 0) rfl rfl, fun U hU hW => ⟨rfl, by rw [hU], by rw [hU]; exact hPc, va_K.moved hW.alike hKc, hDc.weaken (fun _ _ _ _ => trivial)⟩⟩ rfl rfl hl.1 rfl (lv_room (Nat.le_of_ble_eq_true rfl)) dX12_factor_98 ⟨Nat.le_of_ble_eq_true rfl, Nat.le_of_ble_eq_true rfl⟩) hS (fun q _ h => hFc q h) hFc (fun u tC H1 locs htC hvm hw_122 hB hz1 hk1 hS => ?_)
        obtain ⟨sp9_123, wg9_124⟩ := u
        try dsimp only at hw_122 hB
        obtain ⟨hP1, hK1, hD1⟩ := hB
        rw [htC] at hP1
        have hK1 := va_K.moved hvm.symm hK1
        obtain ⟨hP, hD⟩ := va_join (wr := []) (w1 := [(zo14irriiiiiirriirrrrlriiii m0 th aS aI im (nI a) sp9_123 (nI E) wg9_124 2 aB aT se dn aG aO aN aD bv aY rn kd nu tv), (zaI aS cS 901 fS9_105)]) hP hD [0, 1] [] rfl rfl (by decide) (by decide) hk1 hFc hP1 hD1
        have hK := (hK.sub (tys' := []) [] rfl).app hK1
        generalize H1 = H at hP hS ⊢
        have hP : va_P (dC, dI) vwCl [(zo14irriiiiiirriirrrrlriiii m0 th aS aI im (nI a) sp9_123 (nI E) wg9_124 2 aB aT se dn aG aO aN aD bv aY rn kd nu tv), (zaI aS cS 901 fS9_105)] H := hP
        have hD : va_D A [(zo14irriiiiiirriirrrrlriiii m0 th aS aI im (nI a) sp9_123 (nI E) wg9_124 2 aB aT se dn aG aO aN aD bv aY rn kd nu tv), (zaI aS cS 901 fS9_105)] := hD
        have hK : va_K (dC, dI) vwCl [(cS, .int)] s := hK
        rcases hw_122 with ⟨rfl, rfl, h_125⟩ | ⟨rfl, _, h_125, h_126, rfl⟩
        · skip
          have hn41 : ¬ ss (p_108) = 41 := fun z => h_125 rfl ((((TP_PF gT gE ((PF.rf).tr hF_113))).eq (c := 41) (by omega) (by omega)).mpr z)
          refine lv_aload_n hx hb dX12_factor_101 rfl (lv_at hl 1 rfl) ?_
          refine lv_dup hx hb dX12_factor_102 rfl ?_
          refine va_get (D := (dC, dI)) (ci := 14) (v := .int 2) (C := RX12) (T := TX12) (N := 23) hx hb hts kc_factor1_0 hown hK hP 0 rfl rfl 8 (by decide) (hts (.fieldLink RX12 89 "MistHeapsModel" "open" "I") kc_factor1_2) (fun _ h9 => h9) rfl dX12_factor_103 ?_
          refine lv_iconst (v := 1) hx hb dX12_factor_106 (by decide) ?_
          refine lv_isub hx hb dX12_factor_107 ?_
          refine qi_as (y := 1) (by decide) ?_
          refine va_put (D := (dC, dI)) (ci := 14) (v := .int 1) (ty := .int) (C := RX12) (T := TX12) (N := 23) hx hb hts kc_factor1_0 tyX12 tyX12_ok nmX12 hown hK hP hD hS 0 rfl rfl 8 (by decide) (hts (.fieldLink RX12 89 "MistHeapsModel" "open" "I") kc_factor1_2) (fun _ h9 => h9) rfl (by decide +kernel) rfl rfl (Nat.le_of_ble_eq_true rfl) dX12_factor_108 (fun H locs hP hD hS => ?_)
          have hP : va_P (dC, dI) vwCl [(zo14irriiiiiirriirrrrlriiii m0 th aS aI im (nI a) (nI p_108) (nI E) 1 1 aB aT se dn aG aO aN aD bv aY rn kd nu tv), (zaI aS cS 901 fS9_105)] H := hP
          have hD : va_D A [(zo14irriiiiiirriirrrrlriiii m0 th aS aI im (nI a) (nI p_108) (nI E) 1 1 aB aT se dn aG aO aN aD bv aY rn kd nu tv), (zaI aS cS 901 fS9_105)] := hD
          rw [hQ]
          have hP9 := hP.sub (ws' := [(zo14irriiiiiirriirrrrlriiii m0 th aS aI im (nI a) (nI p_108) (nI E) 1 1 aB aT se dn aG aO aN aD bv aY rn kd nu tv), (zaI aS cS 901 fS9_105)]) [0, 1] rfl
          have hD9 := hD.sub (ws' := [(zo14irriiiiiirriirrrrlriiii m0 th aS aI im (nI a) (nI p_108) (nI E) 1 1 aB aT se dn aG aO aN aD bv aY rn kd nu tv), (zaI aS cS 901 fS9_105)]) [0, 1] (by decide) rfl
          have hK9 := hK.sub (tys' := [(cS, .int)]) [0] rfl
          exact W.vret hx hb hr (fun tQ htQ hWQ => ⟨⟨(fS9_105, (nI p_108), 1), rfl, ⟨p_108, rfl, by omega, by omega, (PF.rf).tr hF_113, Or.inl ⟨rfl, pf_b1 (l := 3) hs eP_110 hn41⟩⟩, by rw [htQ]; exact hP9, va_K.moved hWQ.alike hK9, hD9⟩, hS.F htQ⟩) hS.2.2 dX12_factor_111
        · skip
          have hs41 : ss (p_108) = 41 := (((TP_PF gT gE ((PF.rf).tr hF_113))).eq (c := 41) (by omega) (by omega)).mp h_125
          refine lv_aload_n hx hb dX12_factor_101 rfl (lv_at hl 1 rfl) ?_
          refine lv_dup hx hb dX12_factor_102 rfl ?_
          refine va_get (D := (dC, dI)) (ci := 14) (v := .int 2) (C := RX12) (T := TX12) (N := 23) hx hb hts kc_factor1_0 hown hK hP 0 rfl rfl 8 (by decide) (hts (.fieldLink RX12 89 "MistHeapsModel" "open" "I") kc_factor1_2) (fun _ h9 => h9) rfl dX12_factor_103 ?_
          refine lv_iconst (v := 1) hx hb dX12_factor_106 (by decide) ?_
          refine lv_isub hx hb dX12_factor_107 ?_
          refine qi_as (y := 1) (by decide) ?_
          refine va_put (D := (dC, dI)) (ci := 14) (v := .int 1) (ty := .int) (C := RX12) (T := TX12) (N := 23) hx hb hts kc_factor1_0 tyX12 tyX12_ok nmX12 hown hK hP hD hS 0 rfl rfl 8 (by decide) (hts (.fieldLink RX12 89 "MistHeapsModel" "open" "I") kc_factor1_2) (fun _ h9 => h9) rfl (by decide +kernel) rfl rfl (Nat.le_of_ble_eq_true rfl) dX12_factor_108 (fun H locs hP hD hS => ?_)
          have hP : va_P (dC, dI) vwCl [(zo14irriiiiiirriirrrrlriiii m0 th aS aI im (nI a) (nI (p_108 + 1)) (nI E) 0 1 aB aT se dn aG aO aN aD bv aY rn kd nu tv), (zaI aS cS 901 fS9_105)] H := hP
          have hD : va_D A [(zo14irriiiiiirriirrrrlriiii m0 th aS aI im (nI a) (nI (p_108 + 1)) (nI E) 0 1 aB aT se dn aG aO aN aD bv aY rn kd nu tv), (zaI aS cS 901 fS9_105)] := hD
          rw [hQ]
          have hP9 := hP.sub (ws' := [(zo14irriiiiiirriirrrrlriiii m0 th aS aI im (nI a) (nI (p_108 + 1)) (nI E) 0 1 aB aT se dn aG aO aN aD bv aY rn kd nu tv), (zaI aS cS 901 fS9_105)]) [0, 1] rfl
          have hD9 := hD.sub (ws' := [(zo14irriiiiiirriirrrrlriiii m0 th aS aI im (nI a) (nI (p_108 + 1)) (nI E) 0 1 aB aT se dn aG aO aN aD bv aY rn kd nu tv), (zaI aS cS 901 fS9_105)]) [0, 1] (by decide) rfl
          have hK9 := hK.sub (tys' := [(cS, .int)]) [0] rfl
          exact W.vret hx hb hr (fun tQ htQ hWQ => ⟨⟨(fS9_105, (nI (p_108 + 1)), 0), rfl, ⟨p_108 + 1, rfl, by omega, by omega, (PF.rf).tr hF_113, Or.inr ⟨rfl, L_109, pf_b2 (l := 3) hs eP_110 hs41, by omega, (hI_115).mono (by omega) (by omega), by (try simp only [List.length_append, List.length_cons, List.length_nil]); omega⟩⟩, by rw [htQ]; exact hP9, va_K.moved hWQ.alike hK9, hD9⟩, hS.F htQ⟩) hS.2.2 dX12_factor_111

theorem kc_every1_0 : ∀ w ∈ wsX120, w ∈ wsX12_every := fun w h => List.mem_cons_of_mem _ (gin_wsX120 w h)
theorem kc_every1_1 : (.fieldLink RX12 65 "MistHeapsModel" "isWrong" "Z" : Cond) ∈ wsX12_every := kc_of 1147 rfl rfl rfl
theorem kc_every1_2 : (.fieldLink RX12 59 "MistHeapsModel" "spot" "I" : Cond) ∈ wsX12_every := kc_of 1145 rfl rfl rfl
set_option maxHeartbeats 4000000 in
set_option maxRecDepth 100000 in
theorem c_every1 (l : Launch) (dC : Nat → ClassId) (dI : Nat → Nat → Nat) (sK sV : Nat → Nat) (m0 aS aI aB aT aG aO aN aD aY : Nat) (th im ac sp en wg op se dn rn kd nu tv : Int32) (bv : Int64) (cS : ClassId) (fS : Nat → Int32) (a p0 E : Nat) (K : List Nat) (d : Nat) (ss : Nat → Nat) (sz : Nat) (gI : PI fS a K d p0 E) (gT : TP fS E ss) : Met l yX12_every wsX12_every ({ frames := 18, cells := 0, slots := 0, locals := 387 } : Room) (va_Pc [.ref m0] (fun U => U.heap.size = sz ∧ va_P (dC, dI) vwCl [(zo14irriiiiiirriirrrrlriiii m0 th aS aI im (nI a) (nI p0) (nI E) 0 1 aB aT se dn aG aO aN aD bv aY rn kd nu tv), (zaI aS cS 901 fS)] U.heap ∧ va_K (dC, dI) vwCl [(cS, .int)] U ∧ va_D (fun _ => True) [(zo14irriiiiiirriirrrrlriiii m0 th aS aI im (nI a) (nI p0) (nI E) 0 1 aB aT se dn aG aO aN aD bv aY rn kd nu tv), (zaI aS cS 901 fS)] ∧ Gs sK sV (va_A [(zo14irriiiiiirriirrrrlriiii m0 th aS aI im (nI a) (nI p0) (nI E) 0 1 aB aT se dn aG aO aN aD bv aY rn kd nu tv), (zaI aS cS 901 fS)] sz) U)) (va_Qv (fun (u : (Nat → Int32) × (Int32) × (Int32)) => match u with | (fS9, sp9, wg9) => ∃ p9 : Nat, sp9 = nI p9 ∧ p0 ≤ p9 ∧ p9 ≤ E ∧ PF a fS fS9 ∧ ((wg9 = 1 ∧ pEv ss (pFac ss 4) p0 = (none, p9)) ∨ (wg9 = 0 ∧ ∃ L : List Nat, pEv ss (pFac ss 4) p0 = (some L, p9) ∧ p0 + 3 ≤ p9 ∧ PI fS9 a (K ++ L) (d + 1) p9 E ∧ L.length + p0 ≤ p9))) (fun (u : (Nat → Int32) × (Int32) × (Int32)) (t : State) => match u with | (fS9, sp9, wg9) => va_P (dC, dI) vwCl [(zo14irriiiiiirriirrrrlriiii m0 th aS aI im (nI a) sp9 (nI E) wg9 1 aB aT se dn aG aO aN aD bv aY rn kd nu tv), (zaI aS cS 901 fS9)] t.heap ∧ va_K (dC, dI) vwCl [(cS, .int)] t ∧ va_D (va_A [(zo14irriiiiiirriirrrrlriiii m0 th aS aI im (nI a) (nI p0) (nI E) 0 1 aB aT se dn aG aO aN aD bv aY rn kd nu tv), (zaI aS cS 901 fS)] sz) [(zo14irriiiiiirriirrrrlriiii m0 th aS aI im (nI a) sp9 (nI E) wg9 1 aB aT se dn aG aO aN aD bv aY rn kd nu tv), (zaI aS cS 901 fS9)]) (va_A [(zo14irriiiiiirriirrrrlriiii m0 th aS aI im (nI a) (nI p0) (nI E) 0 1 aB aT se dn aG aO aN aD bv aY rn kd nu tv), (zaI aS cS 901 fS)] sz)) 0 0 (va_A [(zo14irriiiiiirriirrrrlriiii m0 th aS aI im (nI a) (nI p0) (nI E) 0 1 aB aT se dn aG aO aN aD bv aY rn kd nu tv), (zaI aS cS 901 fS)] sz) := by
  refine met_ofQ (cc := cX12_every) (maxL := 1) (ret := none) (by decide) rfl ?_
  intro p e s m args below meth c s₁ Q B hml hv hQ
  obtain ⟨rfl, hsz, hP, hK, hD0, hE⟩ := hv
  have hx := B.exec
  have hb := B.bytes
  have hr := B.returns
  have hts := atoms_spec (ws := wsX12_every) B.pre
  have hown : s.vm.findClass RX12 = some m.cls := findClass_of_methodNamed B.named
  have hlocks := B.notSynchronized
  subst hsz
  have hD := hD0.self (sz := s.heap.size)
  generalize hAe : va_A [(zo14irriiiiiirriirrrrlriiii m0 th aS aI im (nI a) (nI p0) (nI E) 0 1 aB aT se dn aG aO aN aD bv aY rn kd nu tv), (zaI aS cS 901 fS)] s.heap.size = A at hD hQ hE ⊢
  have hA : ∀ q : Nat, s.heap.size ≤ q → A q := fun q h => by rw [← hAe]; exact Or.inr h
  have hS : va_S A s.heap s.heap [] := va_S.rf
  have hl := lv_entry [.ref m0] (n := 1) (Nat.le_of_ble_eq_true rfl)
  rw [lg_entry_eq]
  generalize (lg_sl [.ref m0] ++ List.replicate (1 - (lg_sl [.ref m0]).length) Slot.unset).toArray = ls at hl ⊢
  generalize hag : ([.ref m0] : List Value).toArray = args at hts hQ ⊢
  have hl : lv_has ls 1 [(0, .ref m0)] := hl
  obtain ⟨H, hH⟩ : ∃ H : Heap, H = s.heap := ⟨_, rfl⟩
  rw [← hH] at hP
  rw [← hH]
  have hS : va_S A s.heap H [] := by rw [hH]; exact hS
  obtain ⟨locs, hlo⟩ : ∃ L : List Loc, L = [] := ⟨_, rfl⟩
  rw [← hlo] at hS
  rw [← hlo]
  clear hH hlo
  obtain ⟨ga, gp, gE, zk, gkp, gd, gs, gcd⟩ := id gI
  refine lv_aload_n hx hb dX12_every_0 rfl (lv_at hl 0 rfl) ?_
  have hPc := hP.sub (ws' := [(zo14irriiiiiirriirrrrlriiii m0 th aS aI im (nI a) (nI p0) (nI E) 0 1 aB aT se dn aG aO aN aD bv aY rn kd nu tv), (zaI aS cS 901 fS)]) [0, 1] rfl
  have hDc := hD.sub (ws' := [(zo14irriiiiiirriirrrrlriiii m0 th aS aI im (nI a) (nI p0) (nI E) 0 1 aB aT se dn aG aO aN aD bv aY rn kd nu tv), (zaI aS cS 901 fS)]) [0, 1] (by decide) rfl
  have hKc := hK.sub (tys' := [(cS, .int)]) [0] rfl
  have hFc := va_free (wc := [(zo14irriiiiiirriirrrrlriiii m0 th aS aI im (nI a) (nI p0) (nI E) 0 1 aB aT se dn aG aO aN aD bv aY rn kd nu tv), (zaI aS cS 901 fS)]) hD hS hA [0, 1] rfl
  refine va_callv (va_runV (As := []) (rest := []) ⟨hx, hb, hml, hown, hts⟩ (c_factor1 l dC dI sK sV m0 aS aI aB aT aG aO aN aD aY th im (nI a) (nI p0) (nI E) 0 1 se dn rn kd nu tv bv cS fS a p0 E K d ss H.size ((gI).mono (by omega) (by omega)) (gT)) (cwV 0 hts gX12_every_X12_factor rfl rfl rfl hd_yX12_factor ⟨Nat.le_of_ble_eq_true rfl, Nat.le_of_ble_eq_true rfl⟩) ⟨fun a U g mk q => by obtain ⟨q0, q1, qP, qK, qD, qhE⟩ := q; exact ⟨q0, mvz g mk a q1, mvP g mk a qP, mvK g mk a qK, qD, qhE.mv g mk a⟩, va_recv hK hP (ci := 14) (q := (RX12, TX12, 23)) (q0 := 0) rfl rfl, fun U hU hW => ⟨rfl, by rw [hU], by rw [hU]; exact hPc, va_K.moved hW.alike hKc, hDc.weaken (fun _ _ _ _ => trivial), hE.call hS hU hW (fun q h => hFc q h)⟩⟩ rfl rfl hl.1 rfl (lv_room (Nat.le_of_ble_eq_true rfl)) dX12_every_1 ⟨Nat.le_of_ble_eq_true rfl, Nat.le_of_ble_eq_true rfl⟩) hS (fun q _ h => hFc q h) hFc (fun u tC H1 locs htC hvm hw_2 hB hz1 hk1 hS => ?_)
  obtain ⟨fS9_3, sp9_4, wg9_5⟩ := u
  try dsimp only at hw_2 hB
  obtain ⟨hP1, hK1, hD1⟩ := hB
  rw [htC] at hP1
  have hK1 := va_K.moved hvm.symm hK1
  obtain ⟨hP, hD⟩ := va_join (wr := []) (w1 := [(zo14irriiiiiirriirrrrlriiii m0 th aS aI im (nI a) sp9_4 (nI E) wg9_5 1 aB aT se dn aG aO aN aD bv aY rn kd nu tv), (zaI aS cS 901 fS9_3)]) hP hD [0, 1] [] rfl rfl (by decide) (by decide) hk1 hFc hP1 hD1
  have hK := (hK.sub (tys' := []) [] rfl).app hK1
  generalize H1 = H at hP hS ⊢
  have hP : va_P (dC, dI) vwCl [(zo14irriiiiiirriirrrrlriiii m0 th aS aI im (nI a) sp9_4 (nI E) wg9_5 1 aB aT se dn aG aO aN aD bv aY rn kd nu tv), (zaI aS cS 901 fS9_3)] H := hP
  have hD : va_D A [(zo14irriiiiiirriirrrrlriiii m0 th aS aI im (nI a) sp9_4 (nI E) wg9_5 1 aB aT se dn aG aO aN aD bv aY rn kd nu tv), (zaI aS cS 901 fS9_3)] := hD
  have hK : va_K (dC, dI) vwCl [(cS, .int)] s := hK
  obtain ⟨p_6, rfl, h_9, h_10, hF_11, q9⟩ := hw_2
  rcases q9 with ⟨rfl, eP_8⟩ | ⟨rfl, L_7, eP_8, h_12, hI_13, h_14⟩
  · skip
    have L4 : ∀ (nF : Nat) (p1 : Nat) (L1 : List Nat) (m1 : Nat) (w1 : Int32) (f1 : Nat → Int32), E - p1 < nF → (p0 ≤ p1 ∧ p1 ≤ E) → (PF a fS f1) → ((w1 = 1 ∧ pEv ss (pFac ss 4) p0 = (none, p1)) ∨ (w1 = 0 ∧ pEv ss (pFac ss 4) p0 = pSep ss 38 1802 (pFac ss 4) m1 (some L1, p1) ∧ 101 ≤ m1 + p1 ∧ p0 + 3 ≤ p1 ∧ PI f1 a (K ++ L1) (d + 1) p1 E ∧ L1.length + p0 ≤ p1)) → ∀ (H : Heap) (locs : List Loc), va_K (dC, dI) vwCl [(cS, .int)] s → va_P (dC, dI) vwCl [(zo14irriiiiiirriirrrrlriiii m0 th aS aI im (nI a) (nI p1) (nI E) w1 1 aB aT se dn aG aO aN aD bv aY rn kd nu tv), (zaI aS cS 901 f1)] H → va_D A [(zo14irriiiiiirriirrrrlriiii m0 th aS aI im (nI a) (nI p1) (nI E) w1 1 aB aT se dn aG aO aN aD bv aY rn kd nu tv), (zaI aS cS 901 f1)] → va_S A s.heap H locs → ∀ (ls : Array Slot), lv_has ls 1 [(0, .ref m0)] → W p l e ({ frames := 18, cells := 0, slots := 0, locals := 387 } : Room) s m args below meth c H locs 0 0 Q (F0 m 4 ls []) := by
      intro nF
      induction nF with
      | zero => intro p1 L1 m1 w1 f1 hm; exact absurd hm (Nat.not_lt_zero _)
      | succ nF ih4 =>
        intro p1 L1 m1 w1 f1 hm h1 hF hw1 H locs hK hP hD hS ls hl
        obtain ⟨h1a, h1b⟩ := h1
        rcases hw1 with ⟨rfl, hE9⟩ | ⟨rfl, hE9, hm9, h3, hI, h4⟩
        · skip
          refine lv_aload_n hx hb dX12_every_4 rfl (lv_at hl 0 rfl) ?_
          refine va_get (D := (dC, dI)) (ci := 14) (v := .int 1) (C := RX12) (T := TX12) (N := 23) hx hb hts kc_every1_0 hown hK hP 0 rfl rfl 7 (by decide) (hts (.fieldLink RX12 65 "MistHeapsModel" "isWrong" "Z") kc_every1_1) (fun _ h9 => h9) rfl dX12_every_5 ?_
          refine lv_if_ne (tgt := 43) hx hb dX12_every_8 (by decide) (fun _ => ?_) (fun c_15 => absurd c_15 (by decide))
          rw [hQ]
          have hP9 := hP.sub (ws' := [(zo14irriiiiiirriirrrrlriiii m0 th aS aI im (nI a) (nI p1) (nI E) 1 1 aB aT se dn aG aO aN aD bv aY rn kd nu tv), (zaI aS cS 901 f1)]) [0, 1] rfl
          have hD9 := hD.sub (ws' := [(zo14irriiiiiirriirrrrlriiii m0 th aS aI im (nI a) (nI p1) (nI E) 1 1 aB aT se dn aG aO aN aD bv aY rn kd nu tv), (zaI aS cS 901 f1)]) [0, 1] (by decide) rfl
          have hK9 := hK.sub (tys' := [(cS, .int)]) [0] rfl
          exact W.vret hx hb hr (fun tQ htQ hWQ => ⟨⟨(f1, (nI p1), 1), rfl, ⟨p1, rfl, by omega, by omega, hF, Or.inl ⟨rfl, hE9⟩⟩, by rw [htQ]; exact hP9, va_K.moved hWQ.alike hK9, hD9⟩, hS.F htQ⟩) hS.2.2 dX12_every_43
        · skip
          have k5 := hI.2.2.2.2.1
          have hq1 : (K ++ L1).length = K.length + L1.length := List.length_append
          refine lv_aload_n hx hb dX12_every_4 rfl (lv_at hl 0 rfl) ?_
          refine va_get (D := (dC, dI)) (ci := 14) (v := .int 0) (C := RX12) (T := TX12) (N := 23) hx hb hts kc_every1_0 hown hK hP 0 rfl rfl 7 (by decide) (hts (.fieldLink RX12 65 "MistHeapsModel" "isWrong" "Z") kc_every1_1) (fun _ h9 => h9) rfl dX12_every_5 ?_
          refine lv_if_ne (tgt := 43) hx hb dX12_every_8 (by decide) (fun c_16 => absurd c_16 (by decide)) (fun _ => ?_)
          refine lv_aload_n hx hb dX12_every_11 rfl (lv_at hl 0 rfl) ?_
          have hPc := hP.sub (ws' := [(zo14irriiiiiirriirrrrlriiii m0 th aS aI im (nI a) (nI p1) (nI E) 0 1 aB aT se dn aG aO aN aD bv aY rn kd nu tv), (zaI aS cS 901 f1)]) [0, 1] rfl
          have hKc := hK.sub (tys' := [(cS, .int)]) [0] rfl
          refine vp_callSi (va_runV (As := []) (rest := []) ⟨hx, hb, hml, hown, hts⟩ (c_here l dC dI m0 aS aI aB aT aG aO aN aD aY th im (nI a) (nI p1) (nI E) 0 1 se dn rn kd nu tv bv cS f1 a p1 E (by omega) (by omega) (by omega)) (cwV 0 hts gX12_every_X12_here rfl rfl rfl hd_yX12_here ⟨Nat.le_of_ble_eq_true rfl, Nat.le_of_ble_eq_true rfl⟩) ⟨fun a U g mk q => by obtain ⟨q0, qP, qK⟩ := q; exact ⟨q0, mvP g mk a qP, mvK g mk a qK⟩, va_recv hK hP (ci := 14) (q := (RX12, TX12, 23)) (q0 := 0) rfl rfl, fun U hU hW => ⟨rfl, by rw [hU]; exact hPc, va_K.moved hW.alike hKc⟩⟩ rfl rfl hl.1 rfl (lv_room (Nat.le_of_ble_eq_true rfl)) dX12_every_12 ⟨Nat.le_of_ble_eq_true rfl, Nat.le_of_ble_eq_true rfl⟩).run (fun r_17 hw_18 => ?_)
          refine lv_bipush (v := 38) hx hb dX12_every_15 (by decide) ?_
          refine lv_icmp_ne (tgt := 43) hx hb dX12_every_17 (by decide) (fun c_19 => ?_) (fun c_19 => ?_)
          · skip
            have hn9 : ¬ ss p1 = 38 := fun z => c_19 (by rw [hw_18]; exact ((TP_PF gT gE hF).eq (c := 38) (by omega) (by omega)).mpr z)
            rw [hQ]
            have hP9 := hP.sub (ws' := [(zo14irriiiiiirriirrrrlriiii m0 th aS aI im (nI a) (nI p1) (nI E) 0 1 aB aT se dn aG aO aN aD bv aY rn kd nu tv), (zaI aS cS 901 f1)]) [0, 1] rfl
            have hD9 := hD.sub (ws' := [(zo14irriiiiiirriirrrrlriiii m0 th aS aI im (nI a) (nI p1) (nI E) 0 1 aB aT se dn aG aO aN aD bv aY rn kd nu tv), (zaI aS cS 901 f1)]) [0, 1] (by decide) rfl
            have hK9 := hK.sub (tys' := [(cS, .int)]) [0] rfl
            exact W.vret hx hb hr (fun tQ htQ hWQ => ⟨⟨(f1, (nI p1), 0), rfl, ⟨p1, rfl, by omega, by omega, hF, Or.inr ⟨rfl, L1, hE9.trans (ps_end hn9), by omega, hI, by (try simp only [List.length_append, List.length_cons, List.length_nil]); omega⟩⟩, by rw [htQ]; exact hP9, va_K.moved hWQ.alike hK9, hD9⟩, hS.F htQ⟩) hS.2.2 dX12_every_43
          · skip
            have hs9 : ss p1 = 38 := ((TP_PF gT gE hF).eq (c := 38) (by omega) (by omega)).mp (by rw [← hw_18, c_19]; rfl)
            have hlt : p1 < E := Nat.lt_of_not_le (fun z => by have := gT.2.1 p1 z; omega)
            obtain ⟨m2, rfl⟩ : ∃ q : Nat, m1 = q + 1 := ⟨m1 - 1, by omega⟩
            refine lv_aload_n hx hb dX12_every_20 rfl (lv_at hl 0 rfl) ?_
            refine lv_dup hx hb dX12_every_21 rfl ?_
            refine va_get (D := (dC, dI)) (ci := 14) (v := .int (nI p1)) (C := RX12) (T := TX12) (N := 23) hx hb hts kc_every1_0 hown hK hP 0 rfl rfl 5 (by decide) (hts (.fieldLink RX12 59 "MistHeapsModel" "spot" "I") kc_every1_2) (fun _ h9 => h9) rfl dX12_every_22 ?_
            refine lv_iconst (v := 1) hx hb dX12_every_25 (by decide) ?_
            refine lv_iadd hx hb dX12_every_26 ?_
            refine qi_as (y := nI (p1 + 1)) (nI_add p1 1) ?_
            refine va_put (D := (dC, dI)) (ci := 14) (v := .int (nI (p1 + 1))) (ty := .int) (C := RX12) (T := TX12) (N := 23) hx hb hts kc_every1_0 tyX12 tyX12_ok nmX12 hown hK hP hD hS 0 rfl rfl 5 (by decide) (hts (.fieldLink RX12 59 "MistHeapsModel" "spot" "I") kc_every1_2) (fun _ h9 => h9) rfl (by decide +kernel) rfl rfl (Nat.le_of_ble_eq_true rfl) dX12_every_27 (fun H locs hP hD hS => ?_)
            have hP : va_P (dC, dI) vwCl [(zo14irriiiiiirriirrrrlriiii m0 th aS aI im (nI a) (nI (p1 + 1)) (nI E) 0 1 aB aT se dn aG aO aN aD bv aY rn kd nu tv), (zaI aS cS 901 f1)] H := hP
            have hD : va_D A [(zo14irriiiiiirriirrrrlriiii m0 th aS aI im (nI a) (nI (p1 + 1)) (nI E) 0 1 aB aT se dn aG aO aN aD bv aY rn kd nu tv), (zaI aS cS 901 f1)] := hD
            refine lv_aload_n hx hb dX12_every_30 rfl (lv_at hl 0 rfl) ?_
            have hPc := hP.sub (ws' := [(zo14irriiiiiirriirrrrlriiii m0 th aS aI im (nI a) (nI (p1 + 1)) (nI E) 0 1 aB aT se dn aG aO aN aD bv aY rn kd nu tv), (zaI aS cS 901 f1)]) [0, 1] rfl
            have hDc := hD.sub (ws' := [(zo14irriiiiiirriirrrrlriiii m0 th aS aI im (nI a) (nI (p1 + 1)) (nI E) 0 1 aB aT se dn aG aO aN aD bv aY rn kd nu tv), (zaI aS cS 901 f1)]) [0, 1] (by decide) rfl
            have hKc := hK.sub (tys' := [(cS, .int)]) [0] rfl
            have hFc := va_free (wc := [(zo14irriiiiiirriirrrrlriiii m0 th aS aI im (nI a) (nI (p1 + 1)) (nI E) 0 1 aB aT se dn aG aO aN aD bv aY rn kd nu tv), (zaI aS cS 901 f1)]) hD hS hA [0, 1] rfl
            refine va_callv (va_runV (As := []) (rest := []) ⟨hx, hb, hml, hown, hts⟩ (c_factor1 l dC dI sK sV m0 aS aI aB aT aG aO aN aD aY th im (nI a) (nI (p1 + 1)) (nI E) 0 1 se dn rn kd nu tv bv cS f1 a (p1 + 1) E (K ++ L1) (d + 1) ss H.size ((hI).mono (by omega) (by omega)) ((TP_PF gT gE (hF)))) (cwV 0 hts gX12_every_X12_factor rfl rfl rfl hd_yX12_factor ⟨Nat.le_of_ble_eq_true rfl, Nat.le_of_ble_eq_true rfl⟩) ⟨fun a U g mk q => by obtain ⟨q0, q1, qP, qK, qD, qhE⟩ := q; exact ⟨q0, mvz g mk a q1, mvP g mk a qP, mvK g mk a qK, qD, qhE.mv g mk a⟩, va_recv hK hP (ci := 14) (q := (RX12, TX12, 23)) (q0 := 0) rfl rfl, fun U hU hW => ⟨rfl, by rw [hU], by rw [hU]; exact hPc, va_K.moved hW.alike hKc, hDc.weaken (fun _ _ _ _ => trivial), hE.call hS hU hW (fun q h => hFc q h)⟩⟩ rfl rfl hl.1 rfl (lv_room (Nat.le_of_ble_eq_true rfl)) dX12_every_31 ⟨Nat.le_of_ble_eq_true rfl, Nat.le_of_ble_eq_true rfl⟩) hS (fun q _ h => hFc q h) hFc (fun u tC H1 locs htC hvm hw_21 hB hz1 hk1 hS => ?_)
            obtain ⟨fS9_22, sp9_23, wg9_24⟩ := u
            try dsimp only at hw_21 hB
            obtain ⟨hP1, hK1, hD1⟩ := hB
            rw [htC] at hP1
            have hK1 := va_K.moved hvm.symm hK1
            obtain ⟨hP, hD⟩ := va_join (wr := []) (w1 := [(zo14irriiiiiirriirrrrlriiii m0 th aS aI im (nI a) sp9_23 (nI E) wg9_24 1 aB aT se dn aG aO aN aD bv aY rn kd nu tv), (zaI aS cS 901 fS9_22)]) hP hD [0, 1] [] rfl rfl (by decide) (by decide) hk1 hFc hP1 hD1
            have hK := (hK.sub (tys' := []) [] rfl).app hK1
            generalize H1 = H at hP hS ⊢
            have hP : va_P (dC, dI) vwCl [(zo14irriiiiiirriirrrrlriiii m0 th aS aI im (nI a) sp9_23 (nI E) wg9_24 1 aB aT se dn aG aO aN aD bv aY rn kd nu tv), (zaI aS cS 901 fS9_22)] H := hP
            have hD : va_D A [(zo14irriiiiiirriirrrrlriiii m0 th aS aI im (nI a) sp9_23 (nI E) wg9_24 1 aB aT se dn aG aO aN aD bv aY rn kd nu tv), (zaI aS cS 901 fS9_22)] := hD
            have hK : va_K (dC, dI) vwCl [(cS, .int)] s := hK
            obtain ⟨p_25, rfl, h_28, h_29, hF_30, q9⟩ := hw_21
            rcases q9 with ⟨rfl, eP_27⟩ | ⟨rfl, L_26, eP_27, h_31, hI_32, h_33⟩
            · skip
              refine lv_aload_n hx hb dX12_every_34 rfl (lv_at hl 0 rfl) ?_
              refine lv_bipush (v := (-2)) hx hb dX12_every_35 (by decide) ?_
              have hPc := hP.sub (ws' := [(zo14irriiiiiirriirrrrlriiii m0 th aS aI im (nI a) (nI p_25) (nI E) 1 1 aB aT se dn aG aO aN aD bv aY rn kd nu tv)]) [0] rfl
              have hKc := hK.sub (tys' := []) [] rfl
              refine va_csv (va_runV (As := [.int (-2)]) (rest := []) ⟨hx, hb, hml, hown, hts⟩ (c_emitsW l dC dI m0 aS aI aB aT aG aO aN aD aY th im (nI a) (nI p_25) (nI E) 1 1 se dn rn kd nu tv bv (-2)) (cwV 1 hts gX12_every_X12_emits rfl rfl rfl hd_yX12_emits ⟨Nat.le_of_ble_eq_true rfl, Nat.le_of_ble_eq_true rfl⟩) ⟨fun a U g mk q => by obtain ⟨q0, qP, qK⟩ := q; exact ⟨q0, mvP g mk a qP, mvK g mk a qK⟩, va_recv hK hP (ci := 14) (q := (RX12, TX12, 23)) (q0 := 0) rfl rfl, fun U hU hW => ⟨rfl, by rw [hU]; exact hPc, va_K.moved hW.alike hKc⟩⟩ rfl rfl hl.1 rfl (lv_room (Nat.le_of_ble_eq_true rfl)) dX12_every_37 ⟨Nat.le_of_ble_eq_true rfl, Nat.le_of_ble_eq_true rfl⟩).run (fun hw_35 => ?_)
              refine lv_goto (tgt := 4) hx hb dX12_every_40 (by decide) ?_
              exact ih4 (p_25) ([]) (0) (1) (fS9_22) (by omega) (by omega) ((hF).tr hF_30) (Or.inl ⟨rfl, hE9.trans (ps_bad hs9 eP_27)⟩) _ _ (hK.sub [0] rfl) (hP.sub [0, 1] rfl) (hD.sub [0, 1] (by decide) rfl) hS ls (lv_sub hl [0] rfl)
            · skip
              have k5 := hI_32.2.2.2.2.1
              have hqL_26 : ((K ++ L1) ++ L_26).length = (K ++ L1).length + L_26.length := List.length_append
              refine lv_aload_n hx hb dX12_every_34 rfl (lv_at hl 0 rfl) ?_
              refine lv_bipush (v := (-2)) hx hb dX12_every_35 (by decide) ?_
              have hPc := hP.sub (ws' := [(zo14irriiiiiirriirrrrlriiii m0 th aS aI im (nI a) (nI p_25) (nI E) 0 1 aB aT se dn aG aO aN aD bv aY rn kd nu tv), (zaI aS cS 901 fS9_22)]) [0, 1] rfl
              have hDc := hD.sub (ws' := [(zo14irriiiiiirriirrrrlriiii m0 th aS aI im (nI a) (nI p_25) (nI E) 0 1 aB aT se dn aG aO aN aD bv aY rn kd nu tv), (zaI aS cS 901 fS9_22)]) [0, 1] (by decide) rfl
              have hKc := hK.sub (tys' := [(cS, .int)]) [0] rfl
              have hFc := va_free (wc := [(zo14irriiiiiirriirrrrlriiii m0 th aS aI im (nI a) (nI p_25) (nI E) 0 1 aB aT se dn aG aO aN aD bv aY rn kd nu tv), (zaI aS cS 901 fS9_22)]) hD hS hA [0, 1] rfl
              refine va_callv (va_runV (As := [.int (-2)]) (rest := []) ⟨hx, hb, hml, hown, hts⟩ (c_emits l dC dI m0 aS aI aB aT aG aO aN aD aY th im (nI a) (nI p_25) (nI E) 0 1 se dn rn kd nu tv bv cS fS9_22 a ((K ++ L1) ++ L_26).length (-2) H.size (ga) ((hI_32).2.2.2.1) (by have := (hI_32).2.2.2.2.1; omega)) (cwV 1 hts gX12_every_X12_emits rfl rfl rfl hd_yX12_emits ⟨Nat.le_of_ble_eq_true rfl, Nat.le_of_ble_eq_true rfl⟩) ⟨fun a U g mk q => by obtain ⟨q0, q1, qP, qK, qD⟩ := q; exact ⟨q0, mvz g mk a q1, mvP g mk a qP, mvK g mk a qK, qD⟩, va_recv hK hP (ci := 14) (q := (RX12, TX12, 23)) (q0 := 0) rfl rfl, fun U hU hW => ⟨rfl, by rw [hU], by rw [hU]; exact hPc, va_K.moved hW.alike hKc, hDc.weaken (fun _ _ _ _ => trivial)⟩⟩ rfl rfl hl.1 rfl (lv_room (Nat.le_of_ble_eq_true rfl)) dX12_every_37 ⟨Nat.le_of_ble_eq_true rfl, Nat.le_of_ble_eq_true rfl⟩) hS (fun q _ h => hFc q h) hFc (fun u tC H1 locs htC hvm hw_37 hB hz1 hk1 hS => ?_)
              obtain ⟨fS9_38, rfl⟩ : ∃ z, z = u := ⟨_, rfl⟩
              try dsimp only at hw_37 hB
              obtain ⟨hP1, hK1, hD1⟩ := hB
              rw [htC] at hP1
              have hK1 := va_K.moved hvm.symm hK1
              obtain ⟨hP, hD⟩ := va_join (wr := []) (w1 := [(zo14irriiiiiirriirrrrlriiii m0 th aS aI im (nI a) (nI p_25) (nI E) 0 1 aB aT se dn aG aO aN aD bv aY rn kd nu tv), (zaI aS cS 901 fS9_38)]) hP hD [0, 1] [] rfl rfl (by decide) (by decide) hk1 hFc hP1 hD1
              have hK := (hK.sub (tys' := []) [] rfl).app hK1
              generalize H1 = H at hP hS ⊢
              have hP : va_P (dC, dI) vwCl [(zo14irriiiiiirriirrrrlriiii m0 th aS aI im (nI a) (nI p_25) (nI E) 0 1 aB aT se dn aG aO aN aD bv aY rn kd nu tv), (zaI aS cS 901 fS9_38)] H := hP
              have hD : va_D A [(zo14irriiiiiirriirrrrlriiii m0 th aS aI im (nI a) (nI p_25) (nI E) 0 1 aB aT se dn aG aO aN aD bv aY rn kd nu tv), (zaI aS cS 901 fS9_38)] := hD
              have hK : va_K (dC, dI) vwCl [(cS, .int)] s := hK
              obtain rfl : fS9_38 = emt fS9_22 a ((K ++ L1) ++ L_26).length (-2) := by rcases hw_37 with ⟨q, _⟩ | ⟨_, q⟩; exact absurd rfl q; exact q
              have hI_39 : PI (emt fS9_22 a ((K ++ L1) ++ L_26).length (-2)) a (((K ++ L1) ++ L_26) ++ [1802]) (((d + 1) + 1) - 1) p_25 E := PI.em (t := 1802) ((hI_32).mono (by omega) (by omega)) (by omega) (by omega) (stepd_both (by omega)) (by decide)
              have hF_40 : PF a fS (emt fS9_22 a ((K ++ L1) ++ L_26).length (-2)) := ((hF).tr hF_30).tr (PF_emt (k := ((K ++ L1) ++ L_26).length) (x := (-2)) ga (by have := (hI_32).2.2.2.2.1; omega))
              have hKhI_39 : (((K ++ L1) ++ L_26) ++ [1802]).length = ((K ++ L1) ++ L_26).length + 1 := by rw [List.length_append]; rfl
              refine lv_goto (tgt := 4) hx hb dX12_every_40 (by decide) ?_
              exact ih4 (p_25) (L1 ++ (L_26 ++ [1802])) (m2) (0) (emt fS9_22 a ((K ++ L1) ++ L_26).length (-2)) (by omega) (by omega) (hF_40) (Or.inr ⟨rfl, hE9.trans (ps_go hs9 eP_27), by omega, by omega, PI.as (PI.as hI_39), by simp only [List.length_append, List.length_cons, List.length_nil]; omega⟩) _ _ (hK.sub [0] rfl) (hP.sub [0, 1] rfl) (hD.sub [0, 1] (by decide) rfl) hS ls (lv_sub hl [0] rfl)
    exact L4 _ (p_6) ([]) (0) (1) (fS9_3) (Nat.lt_succ_self _) (by omega) ((PF.rf).tr hF_11) (Or.inl ⟨rfl, pEv_n eP_8⟩) _ _ (hK.sub [0] rfl) (hP.sub [0, 1] rfl) (hD.sub [0, 1] (by decide) rfl) hS ls (lv_sub hl [0] rfl)
  · skip
    have k5 := hI_13.2.2.2.2.1
    have hqL_7 : (K ++ L_7).length = K.length + L_7.length := List.length_append
    have L4 : ∀ (nF : Nat) (p1 : Nat) (L1 : List Nat) (m1 : Nat) (w1 : Int32) (f1 : Nat → Int32), E - p1 < nF → (p0 ≤ p1 ∧ p1 ≤ E) → (PF a fS f1) → ((w1 = 1 ∧ pEv ss (pFac ss 4) p0 = (none, p1)) ∨ (w1 = 0 ∧ pEv ss (pFac ss 4) p0 = pSep ss 38 1802 (pFac ss 4) m1 (some L1, p1) ∧ 101 ≤ m1 + p1 ∧ p0 + 3 ≤ p1 ∧ PI f1 a (K ++ L1) (d + 1) p1 E ∧ L1.length + p0 ≤ p1)) → ∀ (H : Heap) (locs : List Loc), va_K (dC, dI) vwCl [(cS, .int)] s → va_P (dC, dI) vwCl [(zo14irriiiiiirriirrrrlriiii m0 th aS aI im (nI a) (nI p1) (nI E) w1 1 aB aT se dn aG aO aN aD bv aY rn kd nu tv), (zaI aS cS 901 f1)] H → va_D A [(zo14irriiiiiirriirrrrlriiii m0 th aS aI im (nI a) (nI p1) (nI E) w1 1 aB aT se dn aG aO aN aD bv aY rn kd nu tv), (zaI aS cS 901 f1)] → va_S A s.heap H locs → ∀ (ls : Array Slot), lv_has ls 1 [(0, .ref m0)] → W p l e ({ frames := 18, cells := 0, slots := 0, locals := 387 } : Room) s m args below meth c H locs 0 0 Q (F0 m 4 ls []) := by
      intro nF
      induction nF with
      | zero => intro p1 L1 m1 w1 f1 hm; exact absurd hm (Nat.not_lt_zero _)
      | succ nF ih4 =>
        intro p1 L1 m1 w1 f1 hm h1 hF hw1 H locs hK hP hD hS ls hl
        obtain ⟨h1a, h1b⟩ := h1
        rcases hw1 with ⟨rfl, hE9⟩ | ⟨rfl, hE9, hm9, h3, hI, h4⟩
        · skip
          refine lv_aload_n hx hb dX12_every_4 rfl (lv_at hl 0 rfl) ?_
          refine va_get (D := (dC, dI)) (ci := 14) (v := .int 1) (C := RX12) (T := TX12) (N := 23) hx hb hts kc_every1_0 hown hK hP 0 rfl rfl 7 (by decide) (hts (.fieldLink RX12 65 "MistHeapsModel" "isWrong" "Z") kc_every1_1) (fun _ h9 => h9) rfl dX12_every_5 ?_
          refine lv_if_ne (tgt := 43) hx hb dX12_every_8 (by decide) (fun _ => ?_) (fun c_41 => absurd c_41 (by decide))
          rw [hQ]
          have hP9 := hP.sub (ws' := [(zo14irriiiiiirriirrrrlriiii m0 th aS aI im (nI a) (nI p1) (nI E) 1 1 aB aT se dn aG aO aN aD bv aY rn kd nu tv), (zaI aS cS 901 f1)]) [0, 1] rfl
          have hD9 := hD.sub (ws' := [(zo14irriiiiiirriirrrrlriiii m0 th aS aI im (nI a) (nI p1) (nI E) 1 1 aB aT se dn aG aO aN aD bv aY rn kd nu tv), (zaI aS cS 901 f1)]) [0, 1] (by decide) rfl
          have hK9 := hK.sub (tys' := [(cS, .int)]) [0] rfl
          exact W.vret hx hb hr (fun tQ htQ hWQ => ⟨⟨(f1, (nI p1), 1), rfl, ⟨p1, rfl, by omega, by omega, hF, Or.inl ⟨rfl, hE9⟩⟩, by rw [htQ]; exact hP9, va_K.moved hWQ.alike hK9, hD9⟩, hS.F htQ⟩) hS.2.2 dX12_every_43
        · skip
          have k5 := hI.2.2.2.2.1
          have hq1 : (K ++ L1).length = K.length + L1.length := List.length_append
          refine lv_aload_n hx hb dX12_every_4 rfl (lv_at hl 0 rfl) ?_
          refine va_get (D := (dC, dI)) (ci := 14) (v := .int 0) (C := RX12) (T := TX12) (N := 23) hx hb hts kc_every1_0 hown hK hP 0 rfl rfl 7 (by decide) (hts (.fieldLink RX12 65 "MistHeapsModel" "isWrong" "Z") kc_every1_1) (fun _ h9 => h9) rfl dX12_every_5 ?_
          refine lv_if_ne (tgt := 43) hx hb dX12_every_8 (by decide) (fun c_42 => absurd c_42 (by decide)) (fun _ => ?_)
          refine lv_aload_n hx hb dX12_every_11 rfl (lv_at hl 0 rfl) ?_
          have hPc := hP.sub (ws' := [(zo14irriiiiiirriirrrrlriiii m0 th aS aI im (nI a) (nI p1) (nI E) 0 1 aB aT se dn aG aO aN aD bv aY rn kd nu tv), (zaI aS cS 901 f1)]) [0, 1] rfl
          have hKc := hK.sub (tys' := [(cS, .int)]) [0] rfl
          refine vp_callSi (va_runV (As := []) (rest := []) ⟨hx, hb, hml, hown, hts⟩ (c_here l dC dI m0 aS aI aB aT aG aO aN aD aY th im (nI a) (nI p1) (nI E) 0 1 se dn rn kd nu tv bv cS f1 a p1 E (by omega) (by omega) (by omega)) (cwV 0 hts gX12_every_X12_here rfl rfl rfl hd_yX12_here ⟨Nat.le_of_ble_eq_true rfl, Nat.le_of_ble_eq_true rfl⟩) ⟨fun a U g mk q => by obtain ⟨q0, qP, qK⟩ := q; exact ⟨q0, mvP g mk a qP, mvK g mk a qK⟩, va_recv hK hP (ci := 14) (q := (RX12, TX12, 23)) (q0 := 0) rfl rfl, fun U hU hW => ⟨rfl, by rw [hU]; exact hPc, va_K.moved hW.alike hKc⟩⟩ rfl rfl hl.1 rfl (lv_room (Nat.le_of_ble_eq_true rfl)) dX12_every_12 ⟨Nat.le_of_ble_eq_true rfl, Nat.le_of_ble_eq_true rfl⟩).run (fun r_43 hw_44 => ?_)
          refine lv_bipush (v := 38) hx hb dX12_every_15 (by decide) ?_
          refine lv_icmp_ne (tgt := 43) hx hb dX12_every_17 (by decide) (fun c_45 => ?_) (fun c_45 => ?_)
          · skip
            have hn9 : ¬ ss p1 = 38 := fun z => c_45 (by rw [hw_44]; exact ((TP_PF gT gE hF).eq (c := 38) (by omega) (by omega)).mpr z)
            rw [hQ]
            have hP9 := hP.sub (ws' := [(zo14irriiiiiirriirrrrlriiii m0 th aS aI im (nI a) (nI p1) (nI E) 0 1 aB aT se dn aG aO aN aD bv aY rn kd nu tv), (zaI aS cS 901 f1)]) [0, 1] rfl
            have hD9 := hD.sub (ws' := [(zo14irriiiiiirriirrrrlriiii m0 th aS aI im (nI a) (nI p1) (nI E) 0 1 aB aT se dn aG aO aN aD bv aY rn kd nu tv), (zaI aS cS 901 f1)]) [0, 1] (by decide) rfl
            have hK9 := hK.sub (tys' := [(cS, .int)]) [0] rfl
            exact W.vret hx hb hr (fun tQ htQ hWQ => ⟨⟨(f1, (nI p1), 0), rfl, ⟨p1, rfl, by omega, by omega, hF, Or.inr ⟨rfl, L1, hE9.trans (ps_end hn9), by omega, hI, by (try simp only [List.length_append, List.length_cons, List.length_nil]); omega⟩⟩, by rw [htQ]; exact hP9, va_K.moved hWQ.alike hK9, hD9⟩, hS.F htQ⟩) hS.2.2 dX12_every_43
          · skip
            have hs9 : ss p1 = 38 := ((TP_PF gT gE hF).eq (c := 38) (by omega) (by omega)).mp (by rw [← hw_44, c_45]; rfl)
            have hlt : p1 < E := Nat.lt_of_not_le (fun z => by have := gT.2.1 p1 z; omega)
            obtain ⟨m2, rfl⟩ : ∃ q : Nat, m1 = q + 1 := ⟨m1 - 1, by omega⟩
            refine lv_aload_n hx hb dX12_every_20 rfl (lv_at hl 0 rfl) ?_
            refine lv_dup hx hb dX12_every_21 rfl ?_
            refine va_get (D := (dC, dI)) (ci := 14) (v := .int (nI p1)) (C := RX12) (T := TX12) (N := 23) hx hb hts kc_every1_0 hown hK hP 0 rfl rfl 5 (by decide) (hts (.fieldLink RX12 59 "MistHeapsModel" "spot" "I") kc_every1_2) (fun _ h9 => h9) rfl dX12_every_22 ?_
            refine lv_iconst (v := 1) hx hb dX12_every_25 (by decide) ?_
            refine lv_iadd hx hb dX12_every_26 ?_
            refine qi_as (y := nI (p1 + 1)) (nI_add p1 1) ?_
            refine va_put (D := (dC, dI)) (ci := 14) (v := .int (nI (p1 + 1))) (ty := .int) (C := RX12) (T := TX12) (N := 23) hx hb hts kc_every1_0 tyX12 tyX12_ok nmX12 hown hK hP hD hS 0 rfl rfl 5 (by decide) (hts (.fieldLink RX12 59 "MistHeapsModel" "spot" "I") kc_every1_2) (fun _ h9 => h9) rfl (by decide +kernel) rfl rfl (Nat.le_of_ble_eq_true rfl) dX12_every_27 (fun H locs hP hD hS => ?_)
            have hP : va_P (dC, dI) vwCl [(zo14irriiiiiirriirrrrlriiii m0 th aS aI im (nI a) (nI (p1 + 1)) (nI E) 0 1 aB aT se dn aG aO aN aD bv aY rn kd nu tv), (zaI aS cS 901 f1)] H := hP
            have hD : va_D A [(zo14irriiiiiirriirrrrlriiii m0 th aS aI im (nI a) (nI (p1 + 1)) (nI E) 0 1 aB aT se dn aG aO aN aD bv aY rn kd nu tv), (zaI aS cS 901 f1)] := hD
            refine lv_aload_n hx hb dX12_every_30 rfl (lv_at hl 0 rfl) ?_
            have hPc := hP.sub (ws' := [(zo14irriiiiiirriirrrrlriiii m0 th aS aI im (nI a) (nI (p1 + 1)) (nI E) 0 1 aB aT se dn aG aO aN aD bv aY rn kd nu tv), (zaI aS cS 901 f1)]) [0, 1] rfl
            have hDc := hD.sub (ws' := [(zo14irriiiiiirriirrrrlriiii m0 th aS aI im (nI a) (nI (p1 + 1)) (nI E) 0 1 aB aT se dn aG aO aN aD bv aY rn kd nu tv), (zaI aS cS 901 f1)]) [0, 1] (by decide) rfl
            have hKc := hK.sub (tys' := [(cS, .int)]) [0] rfl
            have hFc := va_free (wc := [(zo14irriiiiiirriirrrrlriiii m0 th aS aI im (nI a) (nI (p1 + 1)) (nI E) 0 1 aB aT se dn aG aO aN aD bv aY rn kd nu tv), (zaI aS cS 901 f1)]) hD hS hA [0, 1] rfl
            refine va_callv (va_runV (As := []) (rest := []) ⟨hx, hb, hml, hown, hts⟩ (c_factor1 l dC dI sK sV m0 aS aI aB aT aG aO aN aD aY th im (nI a) (nI (p1 + 1)) (nI E) 0 1 se dn rn kd nu tv bv cS f1 a (p1 + 1) E (K ++ L1) (d + 1) ss H.size ((hI).mono (by omega) (by omega)) ((TP_PF gT gE (hF)))) (cwV 0 hts gX12_every_X12_factor rfl rfl rfl hd_yX12_factor ⟨Nat.le_of_ble_eq_true rfl, Nat.le_of_ble_eq_true rfl⟩) ⟨fun a U g mk q => by obtain ⟨q0, q1, qP, qK, qD, qhE⟩ := q; exact ⟨q0, mvz g mk a q1, mvP g mk a qP, mvK g mk a qK, qD, qhE.mv g mk a⟩, va_recv hK hP (ci := 14) (q := (RX12, TX12, 23)) (q0 := 0) rfl rfl, fun U hU hW => ⟨rfl, by rw [hU], by rw [hU]; exact hPc, va_K.moved hW.alike hKc, hDc.weaken (fun _ _ _ _ => trivial), hE.call hS hU hW (fun q h => hFc q h)⟩⟩ rfl rfl hl.1 rfl (lv_room (Nat.le_of_ble_eq_true rfl)) dX12_every_31 ⟨Nat.le_of_ble_eq_true rfl, Nat.le_of_ble_eq_true rfl⟩) hS (fun q _ h => hFc q h) hFc (fun u tC H1 locs htC hvm hw_47 hB hz1 hk1 hS => ?_)
            obtain ⟨fS9_48, sp9_49, wg9_50⟩ := u
            try dsimp only at hw_47 hB
            obtain ⟨hP1, hK1, hD1⟩ := hB
            rw [htC] at hP1
            have hK1 := va_K.moved hvm.symm hK1
            obtain ⟨hP, hD⟩ := va_join (wr := []) (w1 := [(zo14irriiiiiirriirrrrlriiii m0 th aS aI im (nI a) sp9_49 (nI E) wg9_50 1 aB aT se dn aG aO aN aD bv aY rn kd nu tv), (zaI aS cS 901 fS9_48)]) hP hD [0, 1] [] rfl rfl (by decide) (by decide) hk1 hFc hP1 hD1
            have hK := (hK.sub (tys' := []) [] rfl).app hK1
            generalize H1 = H at hP hS ⊢
            have hP : va_P (dC, dI) vwCl [(zo14irriiiiiirriirrrrlriiii m0 th aS aI im (nI a) sp9_49 (nI E) wg9_50 1 aB aT se dn aG aO aN aD bv aY rn kd nu tv), (zaI aS cS 901 fS9_48)] H := hP
            have hD : va_D A [(zo14irriiiiiirriirrrrlriiii m0 th aS aI im (nI a) sp9_49 (nI E) wg9_50 1 aB aT se dn aG aO aN aD bv aY rn kd nu tv), (zaI aS cS 901 fS9_48)] := hD
            have hK : va_K (dC, dI) vwCl [(cS, .int)] s := hK
            obtain ⟨p_51, rfl, h_54, h_55, hF_56, q9⟩ := hw_47
            rcases q9 with ⟨rfl, eP_53⟩ | ⟨rfl, L_52, eP_53, h_57, hI_58, h_59⟩
            · skip
              refine lv_aload_n hx hb dX12_every_34 rfl (lv_at hl 0 rfl) ?_
              refine lv_bipush (v := (-2)) hx hb dX12_every_35 (by decide) ?_
              have hPc := hP.sub (ws' := [(zo14irriiiiiirriirrrrlriiii m0 th aS aI im (nI a) (nI p_51) (nI E) 1 1 aB aT se dn aG aO aN aD bv aY rn kd nu tv)]) [0] rfl
              have hKc := hK.sub (tys' := []) [] rfl
              refine va_csv (va_runV (As := [.int (-2)]) (rest := []) ⟨hx, hb, hml, hown, hts⟩ (c_emitsW l dC dI m0 aS aI aB aT aG aO aN aD aY th im (nI a) (nI p_51) (nI E) 1 1 se dn rn kd nu tv bv (-2)) (cwV 1 hts gX12_every_X12_emits rfl rfl rfl hd_yX12_emits ⟨Nat.le_of_ble_eq_true rfl, Nat.le_of_ble_eq_true rfl⟩) ⟨fun a U g mk q => by obtain ⟨q0, qP, qK⟩ := q; exact ⟨q0, mvP g mk a qP, mvK g mk a qK⟩, va_recv hK hP (ci := 14) (q := (RX12, TX12, 23)) (q0 := 0) rfl rfl, fun U hU hW => ⟨rfl, by rw [hU]; exact hPc, va_K.moved hW.alike hKc⟩⟩ rfl rfl hl.1 rfl (lv_room (Nat.le_of_ble_eq_true rfl)) dX12_every_37 ⟨Nat.le_of_ble_eq_true rfl, Nat.le_of_ble_eq_true rfl⟩).run (fun hw_61 => ?_)
              refine lv_goto (tgt := 4) hx hb dX12_every_40 (by decide) ?_
              exact ih4 (p_51) ([]) (0) (1) (fS9_48) (by omega) (by omega) ((hF).tr hF_56) (Or.inl ⟨rfl, hE9.trans (ps_bad hs9 eP_53)⟩) _ _ (hK.sub [0] rfl) (hP.sub [0, 1] rfl) (hD.sub [0, 1] (by decide) rfl) hS ls (lv_sub hl [0] rfl)
            · skip
              have k5 := hI_58.2.2.2.2.1
              have hqL_52 : ((K ++ L1) ++ L_52).length = (K ++ L1).length + L_52.length := List.length_append
              refine lv_aload_n hx hb dX12_every_34 rfl (lv_at hl 0 rfl) ?_
              refine lv_bipush (v := (-2)) hx hb dX12_every_35 (by decide) ?_
              have hPc := hP.sub (ws' := [(zo14irriiiiiirriirrrrlriiii m0 th aS aI im (nI a) (nI p_51) (nI E) 0 1 aB aT se dn aG aO aN aD bv aY rn kd nu tv), (zaI aS cS 901 fS9_48)]) [0, 1] rfl
              have hDc := hD.sub (ws' := [(zo14irriiiiiirriirrrrlriiii m0 th aS aI im (nI a) (nI p_51) (nI E) 0 1 aB aT se dn aG aO aN aD bv aY rn kd nu tv), (zaI aS cS 901 fS9_48)]) [0, 1] (by decide) rfl
              have hKc := hK.sub (tys' := [(cS, .int)]) [0] rfl
              have hFc := va_free (wc := [(zo14irriiiiiirriirrrrlriiii m0 th aS aI im (nI a) (nI p_51) (nI E) 0 1 aB aT se dn aG aO aN aD bv aY rn kd nu tv), (zaI aS cS 901 fS9_48)]) hD hS hA [0, 1] rfl
              refine va_callv (va_runV (As := [.int (-2)]) (rest := []) ⟨hx, hb, hml, hown, hts⟩ (c_emits l dC dI m0 aS aI aB aT aG aO aN aD aY th im (nI a) (nI p_51) (nI E) 0 1 se dn rn kd nu tv bv cS fS9_48 a ((K ++ L1) ++ L_52).length (-2) H.size (ga) ((hI_58).2.2.2.1) (by have := (hI_58).2.2.2.2.1; omega)) (cwV 1 hts gX12_every_X12_emits rfl rfl rfl hd_yX12_emits ⟨Nat.le_of_ble_eq_true rfl, Nat.le_of_ble_eq_true rfl⟩) ⟨fun a U g mk q => by obtain ⟨q0, q1, qP, qK, qD⟩ := q; exact ⟨q0, mvz g mk a q1, mvP g mk a qP, mvK g mk a qK, qD⟩, va_recv hK hP (ci := 14) (q := (RX12, TX12, 23)) (q0 := 0) rfl rfl, fun U hU hW => ⟨rfl, by rw [hU], by rw [hU]; exact hPc, va_K.moved hW.alike hKc, hDc.weaken (fun _ _ _ _ => trivial)⟩⟩ rfl rfl hl.1 rfl (lv_room (Nat.le_of_ble_eq_true rfl)) dX12_every_37 ⟨Nat.le_of_ble_eq_true rfl, Nat.le_of_ble_eq_true rfl⟩) hS (fun q _ h => hFc q h) hFc (fun u tC H1 locs htC hvm hw_63 hB hz1 hk1 hS => ?_)
              obtain ⟨fS9_64, rfl⟩ : ∃ z, z = u := ⟨_, rfl⟩
              try dsimp only at hw_63 hB
              obtain ⟨hP1, hK1, hD1⟩ := hB
              rw [htC] at hP1
              have hK1 := va_K.moved hvm.symm hK1
              obtain ⟨hP, hD⟩ := va_join (wr := []) (w1 := [(zo14irriiiiiirriirrrrlriiii m0 th aS aI im (nI a) (nI p_51) (nI E) 0 1 aB aT se dn aG aO aN aD bv aY rn kd nu tv), (zaI aS cS 901 fS9_64)]) hP hD [0, 1] [] rfl rfl (by decide) (by decide) hk1 hFc hP1 hD1
              have hK := (hK.sub (tys' := []) [] rfl).app hK1
              generalize H1 = H at hP hS ⊢
              have hP : va_P (dC, dI) vwCl [(zo14irriiiiiirriirrrrlriiii m0 th aS aI im (nI a) (nI p_51) (nI E) 0 1 aB aT se dn aG aO aN aD bv aY rn kd nu tv), (zaI aS cS 901 fS9_64)] H := hP
              have hD : va_D A [(zo14irriiiiiirriirrrrlriiii m0 th aS aI im (nI a) (nI p_51) (nI E) 0 1 aB aT se dn aG aO aN aD bv aY rn kd nu tv), (zaI aS cS 901 fS9_64)] := hD
              have hK : va_K (dC, dI) vwCl [(cS, .int)] s := hK
              obtain rfl : fS9_64 = emt fS9_48 a ((K ++ L1) ++ L_52).length (-2) := by rcases hw_63 with ⟨q, _⟩ | ⟨_, q⟩; exact absurd rfl q; exact q
              have hI_65 : PI (emt fS9_48 a ((K ++ L1) ++ L_52).length (-2)) a (((K ++ L1) ++ L_52) ++ [1802]) (((d + 1) + 1) - 1) p_51 E := PI.em (t := 1802) ((hI_58).mono (by omega) (by omega)) (by omega) (by omega) (stepd_both (by omega)) (by decide)
              have hF_66 : PF a fS (emt fS9_48 a ((K ++ L1) ++ L_52).length (-2)) := ((hF).tr hF_56).tr (PF_emt (k := ((K ++ L1) ++ L_52).length) (x := (-2)) ga (by have := (hI_58).2.2.2.2.1; omega))
              have hKhI_65 : (((K ++ L1) ++ L_52) ++ [1802]).length = ((K ++ L1) ++ L_52).length + 1 := by rw [List.length_append]; rfl
              refine lv_goto (tgt := 4) hx hb dX12_every_40 (by decide) ?_
              exact ih4 (p_51) (L1 ++ (L_52 ++ [1802])) (m2) (0) (emt fS9_48 a ((K ++ L1) ++ L_52).length (-2)) (by omega) (by omega) (hF_66) (Or.inr ⟨rfl, hE9.trans (ps_go hs9 eP_53), by omega, by omega, PI.as (PI.as hI_65), by simp only [List.length_append, List.length_cons, List.length_nil]; omega⟩) _ _ (hK.sub [0] rfl) (hP.sub [0, 1] rfl) (hD.sub [0, 1] (by decide) rfl) hS ls (lv_sub hl [0] rfl)
    exact L4 _ (p_6) (L_7) (101) (0) (fS9_3) (Nat.lt_succ_self _) (by omega) ((PF.rf).tr hF_11) (Or.inr ⟨rfl, pEv_s eP_8, by omega, by omega, hI_13, by omega⟩) _ _ (hK.sub [0] rfl) (hP.sub [0, 1] rfl) (hD.sub [0, 1] (by decide) rfl) hS ls (lv_sub hl [0] rfl)

theorem kc_some1_0 : ∀ w ∈ wsX120, w ∈ wsX12_some := fun w h => List.mem_cons_of_mem _ (gin_wsX120 w h)
theorem kc_some1_1 : (.fieldLink RX12 65 "MistHeapsModel" "isWrong" "Z" : Cond) ∈ wsX12_some := kc_of 1147 rfl rfl rfl
theorem kc_some1_2 : (.fieldLink RX12 59 "MistHeapsModel" "spot" "I" : Cond) ∈ wsX12_some := kc_of 1145 rfl rfl rfl
set_option maxHeartbeats 4000000 in
set_option maxRecDepth 100000 in
theorem c_some1 (l : Launch) (dC : Nat → ClassId) (dI : Nat → Nat → Nat) (sK sV : Nat → Nat) (m0 aS aI aB aT aG aO aN aD aY : Nat) (th im ac sp en wg op se dn rn kd nu tv : Int32) (bv : Int64) (cS : ClassId) (fS : Nat → Int32) (a p0 E : Nat) (K : List Nat) (d : Nat) (ss : Nat → Nat) (sz : Nat) (gI : PI fS a K d p0 E) (gT : TP fS E ss) : Met l yX12_some wsX12_some ({ frames := 19, cells := 0, slots := 0, locals := 407 } : Room) (va_Pc [.ref m0] (fun U => U.heap.size = sz ∧ va_P (dC, dI) vwCl [(zo14irriiiiiirriirrrrlriiii m0 th aS aI im (nI a) (nI p0) (nI E) 0 1 aB aT se dn aG aO aN aD bv aY rn kd nu tv), (zaI aS cS 901 fS)] U.heap ∧ va_K (dC, dI) vwCl [(cS, .int)] U ∧ va_D (fun _ => True) [(zo14irriiiiiirriirrrrlriiii m0 th aS aI im (nI a) (nI p0) (nI E) 0 1 aB aT se dn aG aO aN aD bv aY rn kd nu tv), (zaI aS cS 901 fS)] ∧ Gs sK sV (va_A [(zo14irriiiiiirriirrrrlriiii m0 th aS aI im (nI a) (nI p0) (nI E) 0 1 aB aT se dn aG aO aN aD bv aY rn kd nu tv), (zaI aS cS 901 fS)] sz) U)) (va_Qv (fun (u : (Nat → Int32) × (Int32) × (Int32)) => match u with | (fS9, sp9, wg9) => ∃ p9 : Nat, sp9 = nI p9 ∧ p0 ≤ p9 ∧ p9 ≤ E ∧ PF a fS fS9 ∧ ((wg9 = 1 ∧ pSm ss (pFac ss 4) p0 = (none, p9)) ∨ (wg9 = 0 ∧ ∃ L : List Nat, pSm ss (pFac ss 4) p0 = (some L, p9) ∧ p0 + 3 ≤ p9 ∧ PI fS9 a (K ++ L) (d + 1) p9 E ∧ L.length + p0 ≤ p9))) (fun (u : (Nat → Int32) × (Int32) × (Int32)) (t : State) => match u with | (fS9, sp9, wg9) => va_P (dC, dI) vwCl [(zo14irriiiiiirriirrrrlriiii m0 th aS aI im (nI a) sp9 (nI E) wg9 1 aB aT se dn aG aO aN aD bv aY rn kd nu tv), (zaI aS cS 901 fS9)] t.heap ∧ va_K (dC, dI) vwCl [(cS, .int)] t ∧ va_D (va_A [(zo14irriiiiiirriirrrrlriiii m0 th aS aI im (nI a) (nI p0) (nI E) 0 1 aB aT se dn aG aO aN aD bv aY rn kd nu tv), (zaI aS cS 901 fS)] sz) [(zo14irriiiiiirriirrrrlriiii m0 th aS aI im (nI a) sp9 (nI E) wg9 1 aB aT se dn aG aO aN aD bv aY rn kd nu tv), (zaI aS cS 901 fS9)]) (va_A [(zo14irriiiiiirriirrrrlriiii m0 th aS aI im (nI a) (nI p0) (nI E) 0 1 aB aT se dn aG aO aN aD bv aY rn kd nu tv), (zaI aS cS 901 fS)] sz)) 0 0 (va_A [(zo14irriiiiiirriirrrrlriiii m0 th aS aI im (nI a) (nI p0) (nI E) 0 1 aB aT se dn aG aO aN aD bv aY rn kd nu tv), (zaI aS cS 901 fS)] sz) := by
  refine met_ofQ (cc := cX12_some) (maxL := 1) (ret := none) (by decide) rfl ?_
  intro p e s m args below meth c s₁ Q B hml hv hQ
  obtain ⟨rfl, hsz, hP, hK, hD0, hE⟩ := hv
  have hx := B.exec
  have hb := B.bytes
  have hr := B.returns
  have hts := atoms_spec (ws := wsX12_some) B.pre
  have hown : s.vm.findClass RX12 = some m.cls := findClass_of_methodNamed B.named
  have hlocks := B.notSynchronized
  subst hsz
  have hD := hD0.self (sz := s.heap.size)
  generalize hAe : va_A [(zo14irriiiiiirriirrrrlriiii m0 th aS aI im (nI a) (nI p0) (nI E) 0 1 aB aT se dn aG aO aN aD bv aY rn kd nu tv), (zaI aS cS 901 fS)] s.heap.size = A at hD hQ hE ⊢
  have hA : ∀ q : Nat, s.heap.size ≤ q → A q := fun q h => by rw [← hAe]; exact Or.inr h
  have hS : va_S A s.heap s.heap [] := va_S.rf
  have hl := lv_entry [.ref m0] (n := 1) (Nat.le_of_ble_eq_true rfl)
  rw [lg_entry_eq]
  generalize (lg_sl [.ref m0] ++ List.replicate (1 - (lg_sl [.ref m0]).length) Slot.unset).toArray = ls at hl ⊢
  generalize hag : ([.ref m0] : List Value).toArray = args at hts hQ ⊢
  have hl : lv_has ls 1 [(0, .ref m0)] := hl
  obtain ⟨H, hH⟩ : ∃ H : Heap, H = s.heap := ⟨_, rfl⟩
  rw [← hH] at hP
  rw [← hH]
  have hS : va_S A s.heap H [] := by rw [hH]; exact hS
  obtain ⟨locs, hlo⟩ : ∃ L : List Loc, L = [] := ⟨_, rfl⟩
  rw [← hlo] at hS
  rw [← hlo]
  clear hH hlo
  obtain ⟨ga, gp, gE, zk, gkp, gd, gs, gcd⟩ := id gI
  refine lv_aload_n hx hb dX12_some_0 rfl (lv_at hl 0 rfl) ?_
  have hPc := hP.sub (ws' := [(zo14irriiiiiirriirrrrlriiii m0 th aS aI im (nI a) (nI p0) (nI E) 0 1 aB aT se dn aG aO aN aD bv aY rn kd nu tv), (zaI aS cS 901 fS)]) [0, 1] rfl
  have hDc := hD.sub (ws' := [(zo14irriiiiiirriirrrrlriiii m0 th aS aI im (nI a) (nI p0) (nI E) 0 1 aB aT se dn aG aO aN aD bv aY rn kd nu tv), (zaI aS cS 901 fS)]) [0, 1] (by decide) rfl
  have hKc := hK.sub (tys' := [(cS, .int)]) [0] rfl
  have hFc := va_free (wc := [(zo14irriiiiiirriirrrrlriiii m0 th aS aI im (nI a) (nI p0) (nI E) 0 1 aB aT se dn aG aO aN aD bv aY rn kd nu tv), (zaI aS cS 901 fS)]) hD hS hA [0, 1] rfl
  refine va_callv (va_runV (As := []) (rest := []) ⟨hx, hb, hml, hown, hts⟩ (c_every1 l dC dI sK sV m0 aS aI aB aT aG aO aN aD aY th im (nI a) (nI p0) (nI E) 0 1 se dn rn kd nu tv bv cS fS a p0 E K d ss H.size ((gI).mono (by omega) (by omega)) (gT)) (cwV 0 hts gX12_some_X12_every rfl rfl rfl hd_yX12_every ⟨Nat.le_of_ble_eq_true rfl, Nat.le_of_ble_eq_true rfl⟩) ⟨fun a U g mk q => by obtain ⟨q0, q1, qP, qK, qD, qhE⟩ := q; exact ⟨q0, mvz g mk a q1, mvP g mk a qP, mvK g mk a qK, qD, qhE.mv g mk a⟩, va_recv hK hP (ci := 14) (q := (RX12, TX12, 23)) (q0 := 0) rfl rfl, fun U hU hW => ⟨rfl, by rw [hU], by rw [hU]; exact hPc, va_K.moved hW.alike hKc, hDc.weaken (fun _ _ _ _ => trivial), hE.call hS hU hW (fun q h => hFc q h)⟩⟩ rfl rfl hl.1 rfl (lv_room (Nat.le_of_ble_eq_true rfl)) dX12_some_1 ⟨Nat.le_of_ble_eq_true rfl, Nat.le_of_ble_eq_true rfl⟩) hS (fun q _ h => hFc q h) hFc (fun u tC H1 locs htC hvm hw_2 hB hz1 hk1 hS => ?_)
  obtain ⟨fS9_3, sp9_4, wg9_5⟩ := u
  try dsimp only at hw_2 hB
  obtain ⟨hP1, hK1, hD1⟩ := hB
  rw [htC] at hP1
  have hK1 := va_K.moved hvm.symm hK1
  obtain ⟨hP, hD⟩ := va_join (wr := []) (w1 := [(zo14irriiiiiirriirrrrlriiii m0 th aS aI im (nI a) sp9_4 (nI E) wg9_5 1 aB aT se dn aG aO aN aD bv aY rn kd nu tv), (zaI aS cS 901 fS9_3)]) hP hD [0, 1] [] rfl rfl (by decide) (by decide) hk1 hFc hP1 hD1
  have hK := (hK.sub (tys' := []) [] rfl).app hK1
  generalize H1 = H at hP hS ⊢
  have hP : va_P (dC, dI) vwCl [(zo14irriiiiiirriirrrrlriiii m0 th aS aI im (nI a) sp9_4 (nI E) wg9_5 1 aB aT se dn aG aO aN aD bv aY rn kd nu tv), (zaI aS cS 901 fS9_3)] H := hP
  have hD : va_D A [(zo14irriiiiiirriirrrrlriiii m0 th aS aI im (nI a) sp9_4 (nI E) wg9_5 1 aB aT se dn aG aO aN aD bv aY rn kd nu tv), (zaI aS cS 901 fS9_3)] := hD
  have hK : va_K (dC, dI) vwCl [(cS, .int)] s := hK
  obtain ⟨p_6, rfl, h_9, h_10, hF_11, q9⟩ := hw_2
  rcases q9 with ⟨rfl, eP_8⟩ | ⟨rfl, L_7, eP_8, h_12, hI_13, h_14⟩
  · skip
    have L4 : ∀ (nF : Nat) (p1 : Nat) (L1 : List Nat) (m1 : Nat) (w1 : Int32) (f1 : Nat → Int32), E - p1 < nF → (p0 ≤ p1 ∧ p1 ≤ E) → (PF a fS f1) → ((w1 = 1 ∧ pSm ss (pFac ss 4) p0 = (none, p1)) ∨ (w1 = 0 ∧ pSm ss (pFac ss 4) p0 = pSep ss 124 1803 (pEv ss (pFac ss 4)) m1 (some L1, p1) ∧ 101 ≤ m1 + p1 ∧ p0 + 3 ≤ p1 ∧ PI f1 a (K ++ L1) (d + 1) p1 E ∧ L1.length + p0 ≤ p1)) → ∀ (H : Heap) (locs : List Loc), va_K (dC, dI) vwCl [(cS, .int)] s → va_P (dC, dI) vwCl [(zo14irriiiiiirriirrrrlriiii m0 th aS aI im (nI a) (nI p1) (nI E) w1 1 aB aT se dn aG aO aN aD bv aY rn kd nu tv), (zaI aS cS 901 f1)] H → va_D A [(zo14irriiiiiirriirrrrlriiii m0 th aS aI im (nI a) (nI p1) (nI E) w1 1 aB aT se dn aG aO aN aD bv aY rn kd nu tv), (zaI aS cS 901 f1)] → va_S A s.heap H locs → ∀ (ls : Array Slot), lv_has ls 1 [(0, .ref m0)] → W p l e ({ frames := 19, cells := 0, slots := 0, locals := 407 } : Room) s m args below meth c H locs 0 0 Q (F0 m 4 ls []) := by
      intro nF
      induction nF with
      | zero => intro p1 L1 m1 w1 f1 hm; exact absurd hm (Nat.not_lt_zero _)
      | succ nF ih4 =>
        intro p1 L1 m1 w1 f1 hm h1 hF hw1 H locs hK hP hD hS ls hl
        obtain ⟨h1a, h1b⟩ := h1
        rcases hw1 with ⟨rfl, hE9⟩ | ⟨rfl, hE9, hm9, h3, hI, h4⟩
        · skip
          refine lv_aload_n hx hb dX12_some_4 rfl (lv_at hl 0 rfl) ?_
          refine va_get (D := (dC, dI)) (ci := 14) (v := .int 1) (C := RX12) (T := TX12) (N := 23) hx hb hts kc_some1_0 hown hK hP 0 rfl rfl 7 (by decide) (hts (.fieldLink RX12 65 "MistHeapsModel" "isWrong" "Z") kc_some1_1) (fun _ h9 => h9) rfl dX12_some_5 ?_
          refine lv_if_ne (tgt := 43) hx hb dX12_some_8 (by decide) (fun _ => ?_) (fun c_15 => absurd c_15 (by decide))
          rw [hQ]
          have hP9 := hP.sub (ws' := [(zo14irriiiiiirriirrrrlriiii m0 th aS aI im (nI a) (nI p1) (nI E) 1 1 aB aT se dn aG aO aN aD bv aY rn kd nu tv), (zaI aS cS 901 f1)]) [0, 1] rfl
          have hD9 := hD.sub (ws' := [(zo14irriiiiiirriirrrrlriiii m0 th aS aI im (nI a) (nI p1) (nI E) 1 1 aB aT se dn aG aO aN aD bv aY rn kd nu tv), (zaI aS cS 901 f1)]) [0, 1] (by decide) rfl
          have hK9 := hK.sub (tys' := [(cS, .int)]) [0] rfl
          exact W.vret hx hb hr (fun tQ htQ hWQ => ⟨⟨(f1, (nI p1), 1), rfl, ⟨p1, rfl, by omega, by omega, hF, Or.inl ⟨rfl, hE9⟩⟩, by rw [htQ]; exact hP9, va_K.moved hWQ.alike hK9, hD9⟩, hS.F htQ⟩) hS.2.2 dX12_some_43
        · skip
          have k5 := hI.2.2.2.2.1
          have hq1 : (K ++ L1).length = K.length + L1.length := List.length_append
          refine lv_aload_n hx hb dX12_some_4 rfl (lv_at hl 0 rfl) ?_
          refine va_get (D := (dC, dI)) (ci := 14) (v := .int 0) (C := RX12) (T := TX12) (N := 23) hx hb hts kc_some1_0 hown hK hP 0 rfl rfl 7 (by decide) (hts (.fieldLink RX12 65 "MistHeapsModel" "isWrong" "Z") kc_some1_1) (fun _ h9 => h9) rfl dX12_some_5 ?_
          refine lv_if_ne (tgt := 43) hx hb dX12_some_8 (by decide) (fun c_16 => absurd c_16 (by decide)) (fun _ => ?_)
          refine lv_aload_n hx hb dX12_some_11 rfl (lv_at hl 0 rfl) ?_
          have hPc := hP.sub (ws' := [(zo14irriiiiiirriirrrrlriiii m0 th aS aI im (nI a) (nI p1) (nI E) 0 1 aB aT se dn aG aO aN aD bv aY rn kd nu tv), (zaI aS cS 901 f1)]) [0, 1] rfl
          have hKc := hK.sub (tys' := [(cS, .int)]) [0] rfl
          refine vp_callSi (va_runV (As := []) (rest := []) ⟨hx, hb, hml, hown, hts⟩ (c_here l dC dI m0 aS aI aB aT aG aO aN aD aY th im (nI a) (nI p1) (nI E) 0 1 se dn rn kd nu tv bv cS f1 a p1 E (by omega) (by omega) (by omega)) (cwV 0 hts gX12_some_X12_here rfl rfl rfl hd_yX12_here ⟨Nat.le_of_ble_eq_true rfl, Nat.le_of_ble_eq_true rfl⟩) ⟨fun a U g mk q => by obtain ⟨q0, qP, qK⟩ := q; exact ⟨q0, mvP g mk a qP, mvK g mk a qK⟩, va_recv hK hP (ci := 14) (q := (RX12, TX12, 23)) (q0 := 0) rfl rfl, fun U hU hW => ⟨rfl, by rw [hU]; exact hPc, va_K.moved hW.alike hKc⟩⟩ rfl rfl hl.1 rfl (lv_room (Nat.le_of_ble_eq_true rfl)) dX12_some_12 ⟨Nat.le_of_ble_eq_true rfl, Nat.le_of_ble_eq_true rfl⟩).run (fun r_17 hw_18 => ?_)
          refine lv_bipush (v := 124) hx hb dX12_some_15 (by decide) ?_
          refine lv_icmp_ne (tgt := 43) hx hb dX12_some_17 (by decide) (fun c_19 => ?_) (fun c_19 => ?_)
          · skip
            have hn9 : ¬ ss p1 = 124 := fun z => c_19 (by rw [hw_18]; exact ((TP_PF gT gE hF).eq (c := 124) (by omega) (by omega)).mpr z)
            rw [hQ]
            have hP9 := hP.sub (ws' := [(zo14irriiiiiirriirrrrlriiii m0 th aS aI im (nI a) (nI p1) (nI E) 0 1 aB aT se dn aG aO aN aD bv aY rn kd nu tv), (zaI aS cS 901 f1)]) [0, 1] rfl
            have hD9 := hD.sub (ws' := [(zo14irriiiiiirriirrrrlriiii m0 th aS aI im (nI a) (nI p1) (nI E) 0 1 aB aT se dn aG aO aN aD bv aY rn kd nu tv), (zaI aS cS 901 f1)]) [0, 1] (by decide) rfl
            have hK9 := hK.sub (tys' := [(cS, .int)]) [0] rfl
            exact W.vret hx hb hr (fun tQ htQ hWQ => ⟨⟨(f1, (nI p1), 0), rfl, ⟨p1, rfl, by omega, by omega, hF, Or.inr ⟨rfl, L1, hE9.trans (ps_end hn9), by omega, hI, by (try simp only [List.length_append, List.length_cons, List.length_nil]); omega⟩⟩, by rw [htQ]; exact hP9, va_K.moved hWQ.alike hK9, hD9⟩, hS.F htQ⟩) hS.2.2 dX12_some_43
          · skip
            have hs9 : ss p1 = 124 := ((TP_PF gT gE hF).eq (c := 124) (by omega) (by omega)).mp (by rw [← hw_18, c_19]; rfl)
            have hlt : p1 < E := Nat.lt_of_not_le (fun z => by have := gT.2.1 p1 z; omega)
            obtain ⟨m2, rfl⟩ : ∃ q : Nat, m1 = q + 1 := ⟨m1 - 1, by omega⟩
            refine lv_aload_n hx hb dX12_some_20 rfl (lv_at hl 0 rfl) ?_
            refine lv_dup hx hb dX12_some_21 rfl ?_
            refine va_get (D := (dC, dI)) (ci := 14) (v := .int (nI p1)) (C := RX12) (T := TX12) (N := 23) hx hb hts kc_some1_0 hown hK hP 0 rfl rfl 5 (by decide) (hts (.fieldLink RX12 59 "MistHeapsModel" "spot" "I") kc_some1_2) (fun _ h9 => h9) rfl dX12_some_22 ?_
            refine lv_iconst (v := 1) hx hb dX12_some_25 (by decide) ?_
            refine lv_iadd hx hb dX12_some_26 ?_
            refine qi_as (y := nI (p1 + 1)) (nI_add p1 1) ?_
            refine va_put (D := (dC, dI)) (ci := 14) (v := .int (nI (p1 + 1))) (ty := .int) (C := RX12) (T := TX12) (N := 23) hx hb hts kc_some1_0 tyX12 tyX12_ok nmX12 hown hK hP hD hS 0 rfl rfl 5 (by decide) (hts (.fieldLink RX12 59 "MistHeapsModel" "spot" "I") kc_some1_2) (fun _ h9 => h9) rfl (by decide +kernel) rfl rfl (Nat.le_of_ble_eq_true rfl) dX12_some_27 (fun H locs hP hD hS => ?_)
            have hP : va_P (dC, dI) vwCl [(zo14irriiiiiirriirrrrlriiii m0 th aS aI im (nI a) (nI (p1 + 1)) (nI E) 0 1 aB aT se dn aG aO aN aD bv aY rn kd nu tv), (zaI aS cS 901 f1)] H := hP
            have hD : va_D A [(zo14irriiiiiirriirrrrlriiii m0 th aS aI im (nI a) (nI (p1 + 1)) (nI E) 0 1 aB aT se dn aG aO aN aD bv aY rn kd nu tv), (zaI aS cS 901 f1)] := hD
            refine lv_aload_n hx hb dX12_some_30 rfl (lv_at hl 0 rfl) ?_
            have hPc := hP.sub (ws' := [(zo14irriiiiiirriirrrrlriiii m0 th aS aI im (nI a) (nI (p1 + 1)) (nI E) 0 1 aB aT se dn aG aO aN aD bv aY rn kd nu tv), (zaI aS cS 901 f1)]) [0, 1] rfl
            have hDc := hD.sub (ws' := [(zo14irriiiiiirriirrrrlriiii m0 th aS aI im (nI a) (nI (p1 + 1)) (nI E) 0 1 aB aT se dn aG aO aN aD bv aY rn kd nu tv), (zaI aS cS 901 f1)]) [0, 1] (by decide) rfl
            have hKc := hK.sub (tys' := [(cS, .int)]) [0] rfl
            have hFc := va_free (wc := [(zo14irriiiiiirriirrrrlriiii m0 th aS aI im (nI a) (nI (p1 + 1)) (nI E) 0 1 aB aT se dn aG aO aN aD bv aY rn kd nu tv), (zaI aS cS 901 f1)]) hD hS hA [0, 1] rfl
            refine va_callv (va_runV (As := []) (rest := []) ⟨hx, hb, hml, hown, hts⟩ (c_every1 l dC dI sK sV m0 aS aI aB aT aG aO aN aD aY th im (nI a) (nI (p1 + 1)) (nI E) 0 1 se dn rn kd nu tv bv cS f1 a (p1 + 1) E (K ++ L1) (d + 1) ss H.size ((hI).mono (by omega) (by omega)) ((TP_PF gT gE (hF)))) (cwV 0 hts gX12_some_X12_every rfl rfl rfl hd_yX12_every ⟨Nat.le_of_ble_eq_true rfl, Nat.le_of_ble_eq_true rfl⟩) ⟨fun a U g mk q => by obtain ⟨q0, q1, qP, qK, qD, qhE⟩ := q; exact ⟨q0, mvz g mk a q1, mvP g mk a qP, mvK g mk a qK, qD, qhE.mv g mk a⟩, va_recv hK hP (ci := 14) (q := (RX12, TX12, 23)) (q0 := 0) rfl rfl, fun U hU hW => ⟨rfl, by rw [hU], by rw [hU]; exact hPc, va_K.moved hW.alike hKc, hDc.weaken (fun _ _ _ _ => trivial), hE.call hS hU hW (fun q h => hFc q h)⟩⟩ rfl rfl hl.1 rfl (lv_room (Nat.le_of_ble_eq_true rfl)) dX12_some_31 ⟨Nat.le_of_ble_eq_true rfl, Nat.le_of_ble_eq_true rfl⟩) hS (fun q _ h => hFc q h) hFc (fun u tC H1 locs htC hvm hw_21 hB hz1 hk1 hS => ?_)
            obtain ⟨fS9_22, sp9_23, wg9_24⟩ := u
            try dsimp only at hw_21 hB
            obtain ⟨hP1, hK1, hD1⟩ := hB
            rw [htC] at hP1
            have hK1 := va_K.moved hvm.symm hK1
            obtain ⟨hP, hD⟩ := va_join (wr := []) (w1 := [(zo14irriiiiiirriirrrrlriiii m0 th aS aI im (nI a) sp9_23 (nI E) wg9_24 1 aB aT se dn aG aO aN aD bv aY rn kd nu tv), (zaI aS cS 901 fS9_22)]) hP hD [0, 1] [] rfl rfl (by decide) (by decide) hk1 hFc hP1 hD1
            have hK := (hK.sub (tys' := []) [] rfl).app hK1
            generalize H1 = H at hP hS ⊢
            have hP : va_P (dC, dI) vwCl [(zo14irriiiiiirriirrrrlriiii m0 th aS aI im (nI a) sp9_23 (nI E) wg9_24 1 aB aT se dn aG aO aN aD bv aY rn kd nu tv), (zaI aS cS 901 fS9_22)] H := hP
            have hD : va_D A [(zo14irriiiiiirriirrrrlriiii m0 th aS aI im (nI a) sp9_23 (nI E) wg9_24 1 aB aT se dn aG aO aN aD bv aY rn kd nu tv), (zaI aS cS 901 fS9_22)] := hD
            have hK : va_K (dC, dI) vwCl [(cS, .int)] s := hK
            obtain ⟨p_25, rfl, h_28, h_29, hF_30, q9⟩ := hw_21
            rcases q9 with ⟨rfl, eP_27⟩ | ⟨rfl, L_26, eP_27, h_31, hI_32, h_33⟩
            · skip
              refine lv_aload_n hx hb dX12_some_34 rfl (lv_at hl 0 rfl) ?_
              refine lv_bipush (v := (-3)) hx hb dX12_some_35 (by decide) ?_
              have hPc := hP.sub (ws' := [(zo14irriiiiiirriirrrrlriiii m0 th aS aI im (nI a) (nI p_25) (nI E) 1 1 aB aT se dn aG aO aN aD bv aY rn kd nu tv)]) [0] rfl
              have hKc := hK.sub (tys' := []) [] rfl
              refine va_csv (va_runV (As := [.int (-3)]) (rest := []) ⟨hx, hb, hml, hown, hts⟩ (c_emitsW l dC dI m0 aS aI aB aT aG aO aN aD aY th im (nI a) (nI p_25) (nI E) 1 1 se dn rn kd nu tv bv (-3)) (cwV 1 hts gX12_some_X12_emits rfl rfl rfl hd_yX12_emits ⟨Nat.le_of_ble_eq_true rfl, Nat.le_of_ble_eq_true rfl⟩) ⟨fun a U g mk q => by obtain ⟨q0, qP, qK⟩ := q; exact ⟨q0, mvP g mk a qP, mvK g mk a qK⟩, va_recv hK hP (ci := 14) (q := (RX12, TX12, 23)) (q0 := 0) rfl rfl, fun U hU hW => ⟨rfl, by rw [hU]; exact hPc, va_K.moved hW.alike hKc⟩⟩ rfl rfl hl.1 rfl (lv_room (Nat.le_of_ble_eq_true rfl)) dX12_some_37 ⟨Nat.le_of_ble_eq_true rfl, Nat.le_of_ble_eq_true rfl⟩).run (fun hw_35 => ?_)
              refine lv_goto (tgt := 4) hx hb dX12_some_40 (by decide) ?_
              exact ih4 (p_25) ([]) (0) (1) (fS9_22) (by omega) (by omega) ((hF).tr hF_30) (Or.inl ⟨rfl, hE9.trans (ps_bad hs9 eP_27)⟩) _ _ (hK.sub [0] rfl) (hP.sub [0, 1] rfl) (hD.sub [0, 1] (by decide) rfl) hS ls (lv_sub hl [0] rfl)
            · skip
              have k5 := hI_32.2.2.2.2.1
              have hqL_26 : ((K ++ L1) ++ L_26).length = (K ++ L1).length + L_26.length := List.length_append
              refine lv_aload_n hx hb dX12_some_34 rfl (lv_at hl 0 rfl) ?_
              refine lv_bipush (v := (-3)) hx hb dX12_some_35 (by decide) ?_
              have hPc := hP.sub (ws' := [(zo14irriiiiiirriirrrrlriiii m0 th aS aI im (nI a) (nI p_25) (nI E) 0 1 aB aT se dn aG aO aN aD bv aY rn kd nu tv), (zaI aS cS 901 fS9_22)]) [0, 1] rfl
              have hDc := hD.sub (ws' := [(zo14irriiiiiirriirrrrlriiii m0 th aS aI im (nI a) (nI p_25) (nI E) 0 1 aB aT se dn aG aO aN aD bv aY rn kd nu tv), (zaI aS cS 901 fS9_22)]) [0, 1] (by decide) rfl
              have hKc := hK.sub (tys' := [(cS, .int)]) [0] rfl
              have hFc := va_free (wc := [(zo14irriiiiiirriirrrrlriiii m0 th aS aI im (nI a) (nI p_25) (nI E) 0 1 aB aT se dn aG aO aN aD bv aY rn kd nu tv), (zaI aS cS 901 fS9_22)]) hD hS hA [0, 1] rfl
              refine va_callv (va_runV (As := [.int (-3)]) (rest := []) ⟨hx, hb, hml, hown, hts⟩ (c_emits l dC dI m0 aS aI aB aT aG aO aN aD aY th im (nI a) (nI p_25) (nI E) 0 1 se dn rn kd nu tv bv cS fS9_22 a ((K ++ L1) ++ L_26).length (-3) H.size (ga) ((hI_32).2.2.2.1) (by have := (hI_32).2.2.2.2.1; omega)) (cwV 1 hts gX12_some_X12_emits rfl rfl rfl hd_yX12_emits ⟨Nat.le_of_ble_eq_true rfl, Nat.le_of_ble_eq_true rfl⟩) ⟨fun a U g mk q => by obtain ⟨q0, q1, qP, qK, qD⟩ := q; exact ⟨q0, mvz g mk a q1, mvP g mk a qP, mvK g mk a qK, qD⟩, va_recv hK hP (ci := 14) (q := (RX12, TX12, 23)) (q0 := 0) rfl rfl, fun U hU hW => ⟨rfl, by rw [hU], by rw [hU]; exact hPc, va_K.moved hW.alike hKc, hDc.weaken (fun _ _ _ _ => trivial)⟩⟩ rfl rfl hl.1 rfl (lv_room (Nat.le_of_ble_eq_true rfl)) dX12_some_37 ⟨Nat.le_of_ble_eq_true rfl, Nat.le_of_ble_eq_true rfl⟩) hS (fun q _ h => hFc q h) hFc (fun u tC H1 locs htC hvm hw_37 hB hz1 hk1 hS => ?_)
              obtain ⟨fS9_38, rfl⟩ : ∃ z, z = u := ⟨_, rfl⟩
              try dsimp only at hw_37 hB
              obtain ⟨hP1, hK1, hD1⟩ := hB
              rw [htC] at hP1
              have hK1 := va_K.moved hvm.symm hK1
              obtain ⟨hP, hD⟩ := va_join (wr := []) (w1 := [(zo14irriiiiiirriirrrrlriiii m0 th aS aI im (nI a) (nI p_25) (nI E) 0 1 aB aT se dn aG aO aN aD bv aY rn kd nu tv), (zaI aS cS 901 fS9_38)]) hP hD [0, 1] [] rfl rfl (by decide) (by decide) hk1 hFc hP1 hD1
              have hK := (hK.sub (tys' := []) [] rfl).app hK1
              generalize H1 = H at hP hS ⊢
              have hP : va_P (dC, dI) vwCl [(zo14irriiiiiirriirrrrlriiii m0 th aS aI im (nI a) (nI p_25) (nI E) 0 1 aB aT se dn aG aO aN aD bv aY rn kd nu tv), (zaI aS cS 901 fS9_38)] H := hP
              have hD : va_D A [(zo14irriiiiiirriirrrrlriiii m0 th aS aI im (nI a) (nI p_25) (nI E) 0 1 aB aT se dn aG aO aN aD bv aY rn kd nu tv), (zaI aS cS 901 fS9_38)] := hD
              have hK : va_K (dC, dI) vwCl [(cS, .int)] s := hK
              obtain rfl : fS9_38 = emt fS9_22 a ((K ++ L1) ++ L_26).length (-3) := by rcases hw_37 with ⟨q, _⟩ | ⟨_, q⟩; exact absurd rfl q; exact q
              have hI_39 : PI (emt fS9_22 a ((K ++ L1) ++ L_26).length (-3)) a (((K ++ L1) ++ L_26) ++ [1803]) (((d + 1) + 1) - 1) p_25 E := PI.em (t := 1803) ((hI_32).mono (by omega) (by omega)) (by omega) (by omega) (stepd_either (by omega)) (by decide)
              have hF_40 : PF a fS (emt fS9_22 a ((K ++ L1) ++ L_26).length (-3)) := ((hF).tr hF_30).tr (PF_emt (k := ((K ++ L1) ++ L_26).length) (x := (-3)) ga (by have := (hI_32).2.2.2.2.1; omega))
              have hKhI_39 : (((K ++ L1) ++ L_26) ++ [1803]).length = ((K ++ L1) ++ L_26).length + 1 := by rw [List.length_append]; rfl
              refine lv_goto (tgt := 4) hx hb dX12_some_40 (by decide) ?_
              exact ih4 (p_25) (L1 ++ (L_26 ++ [1803])) (m2) (0) (emt fS9_22 a ((K ++ L1) ++ L_26).length (-3)) (by omega) (by omega) (hF_40) (Or.inr ⟨rfl, hE9.trans (ps_go hs9 eP_27), by omega, by omega, PI.as (PI.as hI_39), by simp only [List.length_append, List.length_cons, List.length_nil]; omega⟩) _ _ (hK.sub [0] rfl) (hP.sub [0, 1] rfl) (hD.sub [0, 1] (by decide) rfl) hS ls (lv_sub hl [0] rfl)
    exact L4 _ (p_6) ([]) (0) (1) (fS9_3) (Nat.lt_succ_self _) (by omega) ((PF.rf).tr hF_11) (Or.inl ⟨rfl, pSm_n eP_8⟩) _ _ (hK.sub [0] rfl) (hP.sub [0, 1] rfl) (hD.sub [0, 1] (by decide) rfl) hS ls (lv_sub hl [0] rfl)
  · skip
    have k5 := hI_13.2.2.2.2.1
    have hqL_7 : (K ++ L_7).length = K.length + L_7.length := List.length_append
    have L4 : ∀ (nF : Nat) (p1 : Nat) (L1 : List Nat) (m1 : Nat) (w1 : Int32) (f1 : Nat → Int32), E - p1 < nF → (p0 ≤ p1 ∧ p1 ≤ E) → (PF a fS f1) → ((w1 = 1 ∧ pSm ss (pFac ss 4) p0 = (none, p1)) ∨ (w1 = 0 ∧ pSm ss (pFac ss 4) p0 = pSep ss 124 1803 (pEv ss (pFac ss 4)) m1 (some L1, p1) ∧ 101 ≤ m1 + p1 ∧ p0 + 3 ≤ p1 ∧ PI f1 a (K ++ L1) (d + 1) p1 E ∧ L1.length + p0 ≤ p1)) → ∀ (H : Heap) (locs : List Loc), va_K (dC, dI) vwCl [(cS, .int)] s → va_P (dC, dI) vwCl [(zo14irriiiiiirriirrrrlriiii m0 th aS aI im (nI a) (nI p1) (nI E) w1 1 aB aT se dn aG aO aN aD bv aY rn kd nu tv), (zaI aS cS 901 f1)] H → va_D A [(zo14irriiiiiirriirrrrlriiii m0 th aS aI im (nI a) (nI p1) (nI E) w1 1 aB aT se dn aG aO aN aD bv aY rn kd nu tv), (zaI aS cS 901 f1)] → va_S A s.heap H locs → ∀ (ls : Array Slot), lv_has ls 1 [(0, .ref m0)] → W p l e ({ frames := 19, cells := 0, slots := 0, locals := 407 } : Room) s m args below meth c H locs 0 0 Q (F0 m 4 ls []) := by
      intro nF
      induction nF with
      | zero => intro p1 L1 m1 w1 f1 hm; exact absurd hm (Nat.not_lt_zero _)
      | succ nF ih4 =>
        intro p1 L1 m1 w1 f1 hm h1 hF hw1 H locs hK hP hD hS ls hl
        obtain ⟨h1a, h1b⟩ := h1
        rcases hw1 with ⟨rfl, hE9⟩ | ⟨rfl, hE9, hm9, h3, hI, h4⟩
        · skip
          refine lv_aload_n hx hb dX12_some_4 rfl (lv_at hl 0 rfl) ?_
          refine va_get (D := (dC, dI)) (ci := 14) (v := .int 1) (C := RX12) (T := TX12) (N := 23) hx hb hts kc_some1_0 hown hK hP 0 rfl rfl 7 (by decide) (hts (.fieldLink RX12 65 "MistHeapsModel" "isWrong" "Z") kc_some1_1) (fun _ h9 => h9) rfl dX12_some_5 ?_
          refine lv_if_ne (tgt := 43) hx hb dX12_some_8 (by decide) (fun _ => ?_) (fun c_41 => absurd c_41 (by decide))
          rw [hQ]
          have hP9 := hP.sub (ws' := [(zo14irriiiiiirriirrrrlriiii m0 th aS aI im (nI a) (nI p1) (nI E) 1 1 aB aT se dn aG aO aN aD bv aY rn kd nu tv), (zaI aS cS 901 f1)]) [0, 1] rfl
          have hD9 := hD.sub (ws' := [(zo14irriiiiiirriirrrrlriiii m0 th aS aI im (nI a) (nI p1) (nI E) 1 1 aB aT se dn aG aO aN aD bv aY rn kd nu tv), (zaI aS cS 901 f1)]) [0, 1] (by decide) rfl
          have hK9 := hK.sub (tys' := [(cS, .int)]) [0] rfl
          exact W.vret hx hb hr (fun tQ htQ hWQ => ⟨⟨(f1, (nI p1), 1), rfl, ⟨p1, rfl, by omega, by omega, hF, Or.inl ⟨rfl, hE9⟩⟩, by rw [htQ]; exact hP9, va_K.moved hWQ.alike hK9, hD9⟩, hS.F htQ⟩) hS.2.2 dX12_some_43
        · skip
          have k5 := hI.2.2.2.2.1
          have hq1 : (K ++ L1).length = K.length + L1.length := List.length_append
          refine lv_aload_n hx hb dX12_some_4 rfl (lv_at hl 0 rfl) ?_
          refine va_get (D := (dC, dI)) (ci := 14) (v := .int 0) (C := RX12) (T := TX12) (N := 23) hx hb hts kc_some1_0 hown hK hP 0 rfl rfl 7 (by decide) (hts (.fieldLink RX12 65 "MistHeapsModel" "isWrong" "Z") kc_some1_1) (fun _ h9 => h9) rfl dX12_some_5 ?_
          refine lv_if_ne (tgt := 43) hx hb dX12_some_8 (by decide) (fun c_42 => absurd c_42 (by decide)) (fun _ => ?_)
          refine lv_aload_n hx hb dX12_some_11 rfl (lv_at hl 0 rfl) ?_
          have hPc := hP.sub (ws' := [(zo14irriiiiiirriirrrrlriiii m0 th aS aI im (nI a) (nI p1) (nI E) 0 1 aB aT se dn aG aO aN aD bv aY rn kd nu tv), (zaI aS cS 901 f1)]) [0, 1] rfl
          have hKc := hK.sub (tys' := [(cS, .int)]) [0] rfl
          refine vp_callSi (va_runV (As := []) (rest := []) ⟨hx, hb, hml, hown, hts⟩ (c_here l dC dI m0 aS aI aB aT aG aO aN aD aY th im (nI a) (nI p1) (nI E) 0 1 se dn rn kd nu tv bv cS f1 a p1 E (by omega) (by omega) (by omega)) (cwV 0 hts gX12_some_X12_here rfl rfl rfl hd_yX12_here ⟨Nat.le_of_ble_eq_true rfl, Nat.le_of_ble_eq_true rfl⟩) ⟨fun a U g mk q => by obtain ⟨q0, qP, qK⟩ := q; exact ⟨q0, mvP g mk a qP, mvK g mk a qK⟩, va_recv hK hP (ci := 14) (q := (RX12, TX12, 23)) (q0 := 0) rfl rfl, fun U hU hW => ⟨rfl, by rw [hU]; exact hPc, va_K.moved hW.alike hKc⟩⟩ rfl rfl hl.1 rfl (lv_room (Nat.le_of_ble_eq_true rfl)) dX12_some_12 ⟨Nat.le_of_ble_eq_true rfl, Nat.le_of_ble_eq_true rfl⟩).run (fun r_43 hw_44 => ?_)
          refine lv_bipush (v := 124) hx hb dX12_some_15 (by decide) ?_
          refine lv_icmp_ne (tgt := 43) hx hb dX12_some_17 (by decide) (fun c_45 => ?_) (fun c_45 => ?_)
          · skip
            have hn9 : ¬ ss p1 = 124 := fun z => c_45 (by rw [hw_44]; exact ((TP_PF gT gE hF).eq (c := 124) (by omega) (by omega)).mpr z)
            rw [hQ]
            have hP9 := hP.sub (ws' := [(zo14irriiiiiirriirrrrlriiii m0 th aS aI im (nI a) (nI p1) (nI E) 0 1 aB aT se dn aG aO aN aD bv aY rn kd nu tv), (zaI aS cS 901 f1)]) [0, 1] rfl
            have hD9 := hD.sub (ws' := [(zo14irriiiiiirriirrrrlriiii m0 th aS aI im (nI a) (nI p1) (nI E) 0 1 aB aT se dn aG aO aN aD bv aY rn kd nu tv), (zaI aS cS 901 f1)]) [0, 1] (by decide) rfl
            have hK9 := hK.sub (tys' := [(cS, .int)]) [0] rfl
            exact W.vret hx hb hr (fun tQ htQ hWQ => ⟨⟨(f1, (nI p1), 0), rfl, ⟨p1, rfl, by omega, by omega, hF, Or.inr ⟨rfl, L1, hE9.trans (ps_end hn9), by omega, hI, by (try simp only [List.length_append, List.length_cons, List.length_nil]); omega⟩⟩, by rw [htQ]; exact hP9, va_K.moved hWQ.alike hK9, hD9⟩, hS.F htQ⟩) hS.2.2 dX12_some_43
          · skip
            have hs9 : ss p1 = 124 := ((TP_PF gT gE hF).eq (c := 124) (by omega) (by omega)).mp (by rw [← hw_44, c_45]; rfl)
            have hlt : p1 < E := Nat.lt_of_not_le (fun z => by have := gT.2.1 p1 z; omega)
            obtain ⟨m2, rfl⟩ : ∃ q : Nat, m1 = q + 1 := ⟨m1 - 1, by omega⟩
            refine lv_aload_n hx hb dX12_some_20 rfl (lv_at hl 0 rfl) ?_
            refine lv_dup hx hb dX12_some_21 rfl ?_
            refine va_get (D := (dC, dI)) (ci := 14) (v := .int (nI p1)) (C := RX12) (T := TX12) (N := 23) hx hb hts kc_some1_0 hown hK hP 0 rfl rfl 5 (by decide) (hts (.fieldLink RX12 59 "MistHeapsModel" "spot" "I") kc_some1_2) (fun _ h9 => h9) rfl dX12_some_22 ?_
            refine lv_iconst (v := 1) hx hb dX12_some_25 (by decide) ?_
            refine lv_iadd hx hb dX12_some_26 ?_
            refine qi_as (y := nI (p1 + 1)) (nI_add p1 1) ?_
            refine va_put (D := (dC, dI)) (ci := 14) (v := .int (nI (p1 + 1))) (ty := .int) (C := RX12) (T := TX12) (N := 23) hx hb hts kc_some1_0 tyX12 tyX12_ok nmX12 hown hK hP hD hS 0 rfl rfl 5 (by decide) (hts (.fieldLink RX12 59 "MistHeapsModel" "spot" "I") kc_some1_2) (fun _ h9 => h9) rfl (by decide +kernel) rfl rfl (Nat.le_of_ble_eq_true rfl) dX12_some_27 (fun H locs hP hD hS => ?_)
            have hP : va_P (dC, dI) vwCl [(zo14irriiiiiirriirrrrlriiii m0 th aS aI im (nI a) (nI (p1 + 1)) (nI E) 0 1 aB aT se dn aG aO aN aD bv aY rn kd nu tv), (zaI aS cS 901 f1)] H := hP
            have hD : va_D A [(zo14irriiiiiirriirrrrlriiii m0 th aS aI im (nI a) (nI (p1 + 1)) (nI E) 0 1 aB aT se dn aG aO aN aD bv aY rn kd nu tv), (zaI aS cS 901 f1)] := hD
            refine lv_aload_n hx hb dX12_some_30 rfl (lv_at hl 0 rfl) ?_
            have hPc := hP.sub (ws' := [(zo14irriiiiiirriirrrrlriiii m0 th aS aI im (nI a) (nI (p1 + 1)) (nI E) 0 1 aB aT se dn aG aO aN aD bv aY rn kd nu tv), (zaI aS cS 901 f1)]) [0, 1] rfl
            have hDc := hD.sub (ws' := [(zo14irriiiiiirriirrrrlriiii m0 th aS aI im (nI a) (nI (p1 + 1)) (nI E) 0 1 aB aT se dn aG aO aN aD bv aY rn kd nu tv), (zaI aS cS 901 f1)]) [0, 1] (by decide) rfl
            have hKc := hK.sub (tys' := [(cS, .int)]) [0] rfl
            have hFc := va_free (wc := [(zo14irriiiiiirriirrrrlriiii m0 th aS aI im (nI a) (nI (p1 + 1)) (nI E) 0 1 aB aT se dn aG aO aN aD bv aY rn kd nu tv), (zaI aS cS 901 f1)]) hD hS hA [0, 1] rfl
            refine va_callv (va_runV (As := []) (rest := []) ⟨hx, hb, hml, hown, hts⟩ (c_every1 l dC dI sK sV m0 aS aI aB aT aG aO aN aD aY th im (nI a) (nI (p1 + 1)) (nI E) 0 1 se dn rn kd nu tv bv cS f1 a (p1 + 1) E (K ++ L1) (d + 1) ss H.size ((hI).mono (by omega) (by omega)) ((TP_PF gT gE (hF)))) (cwV 0 hts gX12_some_X12_every rfl rfl rfl hd_yX12_every ⟨Nat.le_of_ble_eq_true rfl, Nat.le_of_ble_eq_true rfl⟩) ⟨fun a U g mk q => by obtain ⟨q0, q1, qP, qK, qD, qhE⟩ := q; exact ⟨q0, mvz g mk a q1, mvP g mk a qP, mvK g mk a qK, qD, qhE.mv g mk a⟩, va_recv hK hP (ci := 14) (q := (RX12, TX12, 23)) (q0 := 0) rfl rfl, fun U hU hW => ⟨rfl, by rw [hU], by rw [hU]; exact hPc, va_K.moved hW.alike hKc, hDc.weaken (fun _ _ _ _ => trivial), hE.call hS hU hW (fun q h => hFc q h)⟩⟩ rfl rfl hl.1 rfl (lv_room (Nat.le_of_ble_eq_true rfl)) dX12_some_31 ⟨Nat.le_of_ble_eq_true rfl, Nat.le_of_ble_eq_true rfl⟩) hS (fun q _ h => hFc q h) hFc (fun u tC H1 locs htC hvm hw_47 hB hz1 hk1 hS => ?_)
            obtain ⟨fS9_48, sp9_49, wg9_50⟩ := u
            try dsimp only at hw_47 hB
            obtain ⟨hP1, hK1, hD1⟩ := hB
            rw [htC] at hP1
            have hK1 := va_K.moved hvm.symm hK1
            obtain ⟨hP, hD⟩ := va_join (wr := []) (w1 := [(zo14irriiiiiirriirrrrlriiii m0 th aS aI im (nI a) sp9_49 (nI E) wg9_50 1 aB aT se dn aG aO aN aD bv aY rn kd nu tv), (zaI aS cS 901 fS9_48)]) hP hD [0, 1] [] rfl rfl (by decide) (by decide) hk1 hFc hP1 hD1
            have hK := (hK.sub (tys' := []) [] rfl).app hK1
            generalize H1 = H at hP hS ⊢
            have hP : va_P (dC, dI) vwCl [(zo14irriiiiiirriirrrrlriiii m0 th aS aI im (nI a) sp9_49 (nI E) wg9_50 1 aB aT se dn aG aO aN aD bv aY rn kd nu tv), (zaI aS cS 901 fS9_48)] H := hP
            have hD : va_D A [(zo14irriiiiiirriirrrrlriiii m0 th aS aI im (nI a) sp9_49 (nI E) wg9_50 1 aB aT se dn aG aO aN aD bv aY rn kd nu tv), (zaI aS cS 901 fS9_48)] := hD
            have hK : va_K (dC, dI) vwCl [(cS, .int)] s := hK
            obtain ⟨p_51, rfl, h_54, h_55, hF_56, q9⟩ := hw_47
            rcases q9 with ⟨rfl, eP_53⟩ | ⟨rfl, L_52, eP_53, h_57, hI_58, h_59⟩
            · skip
              refine lv_aload_n hx hb dX12_some_34 rfl (lv_at hl 0 rfl) ?_
              refine lv_bipush (v := (-3)) hx hb dX12_some_35 (by decide) ?_
              have hPc := hP.sub (ws' := [(zo14irriiiiiirriirrrrlriiii m0 th aS aI im (nI a) (nI p_51) (nI E) 1 1 aB aT se dn aG aO aN aD bv aY rn kd nu tv)]) [0] rfl
              have hKc := hK.sub (tys' := []) [] rfl
              refine va_csv (va_runV (As := [.int (-3)]) (rest := []) ⟨hx, hb, hml, hown, hts⟩ (c_emitsW l dC dI m0 aS aI aB aT aG aO aN aD aY th im (nI a) (nI p_51) (nI E) 1 1 se dn rn kd nu tv bv (-3)) (cwV 1 hts gX12_some_X12_emits rfl rfl rfl hd_yX12_emits ⟨Nat.le_of_ble_eq_true rfl, Nat.le_of_ble_eq_true rfl⟩) ⟨fun a U g mk q => by obtain ⟨q0, qP, qK⟩ := q; exact ⟨q0, mvP g mk a qP, mvK g mk a qK⟩, va_recv hK hP (ci := 14) (q := (RX12, TX12, 23)) (q0 := 0) rfl rfl, fun U hU hW => ⟨rfl, by rw [hU]; exact hPc, va_K.moved hW.alike hKc⟩⟩ rfl rfl hl.1 rfl (lv_room (Nat.le_of_ble_eq_true rfl)) dX12_some_37 ⟨Nat.le_of_ble_eq_true rfl, Nat.le_of_ble_eq_true rfl⟩).run (fun hw_61 => ?_)
              refine lv_goto (tgt := 4) hx hb dX12_some_40 (by decide) ?_
              exact ih4 (p_51) ([]) (0) (1) (fS9_48) (by omega) (by omega) ((hF).tr hF_56) (Or.inl ⟨rfl, hE9.trans (ps_bad hs9 eP_53)⟩) _ _ (hK.sub [0] rfl) (hP.sub [0, 1] rfl) (hD.sub [0, 1] (by decide) rfl) hS ls (lv_sub hl [0] rfl)
            · skip
              have k5 := hI_58.2.2.2.2.1
              have hqL_52 : ((K ++ L1) ++ L_52).length = (K ++ L1).length + L_52.length := List.length_append
              refine lv_aload_n hx hb dX12_some_34 rfl (lv_at hl 0 rfl) ?_
              refine lv_bipush (v := (-3)) hx hb dX12_some_35 (by decide) ?_
              have hPc := hP.sub (ws' := [(zo14irriiiiiirriirrrrlriiii m0 th aS aI im (nI a) (nI p_51) (nI E) 0 1 aB aT se dn aG aO aN aD bv aY rn kd nu tv), (zaI aS cS 901 fS9_48)]) [0, 1] rfl
              have hDc := hD.sub (ws' := [(zo14irriiiiiirriirrrrlriiii m0 th aS aI im (nI a) (nI p_51) (nI E) 0 1 aB aT se dn aG aO aN aD bv aY rn kd nu tv), (zaI aS cS 901 fS9_48)]) [0, 1] (by decide) rfl
              have hKc := hK.sub (tys' := [(cS, .int)]) [0] rfl
              have hFc := va_free (wc := [(zo14irriiiiiirriirrrrlriiii m0 th aS aI im (nI a) (nI p_51) (nI E) 0 1 aB aT se dn aG aO aN aD bv aY rn kd nu tv), (zaI aS cS 901 fS9_48)]) hD hS hA [0, 1] rfl
              refine va_callv (va_runV (As := [.int (-3)]) (rest := []) ⟨hx, hb, hml, hown, hts⟩ (c_emits l dC dI m0 aS aI aB aT aG aO aN aD aY th im (nI a) (nI p_51) (nI E) 0 1 se dn rn kd nu tv bv cS fS9_48 a ((K ++ L1) ++ L_52).length (-3) H.size (ga) ((hI_58).2.2.2.1) (by have := (hI_58).2.2.2.2.1; omega)) (cwV 1 hts gX12_some_X12_emits rfl rfl rfl hd_yX12_emits ⟨Nat.le_of_ble_eq_true rfl, Nat.le_of_ble_eq_true rfl⟩) ⟨fun a U g mk q => by obtain ⟨q0, q1, qP, qK, qD⟩ := q; exact ⟨q0, mvz g mk a q1, mvP g mk a qP, mvK g mk a qK, qD⟩, va_recv hK hP (ci := 14) (q := (RX12, TX12, 23)) (q0 := 0) rfl rfl, fun U hU hW => ⟨rfl, by rw [hU], by rw [hU]; exact hPc, va_K.moved hW.alike hKc, hDc.weaken (fun _ _ _ _ => trivial)⟩⟩ rfl rfl hl.1 rfl (lv_room (Nat.le_of_ble_eq_true rfl)) dX12_some_37 ⟨Nat.le_of_ble_eq_true rfl, Nat.le_of_ble_eq_true rfl⟩) hS (fun q _ h => hFc q h) hFc (fun u tC H1 locs htC hvm hw_63 hB hz1 hk1 hS => ?_)
              obtain ⟨fS9_64, rfl⟩ : ∃ z, z = u := ⟨_, rfl⟩
              try dsimp only at hw_63 hB
              obtain ⟨hP1, hK1, hD1⟩ := hB
              rw [htC] at hP1
              have hK1 := va_K.moved hvm.symm hK1
              obtain ⟨hP, hD⟩ := va_join (wr := []) (w1 := [(zo14irriiiiiirriirrrrlriiii m0 th aS aI im (nI a) (nI p_51) (nI E) 0 1 aB aT se dn aG aO aN aD bv aY rn kd nu tv), (zaI aS cS 901 fS9_64)]) hP hD [0, 1] [] rfl rfl (by decide) (by decide) hk1 hFc hP1 hD1
              have hK := (hK.sub (tys' := []) [] rfl).app hK1
              generalize H1 = H at hP hS ⊢
              have hP : va_P (dC, dI) vwCl [(zo14irriiiiiirriirrrrlriiii m0 th aS aI im (nI a) (nI p_51) (nI E) 0 1 aB aT se dn aG aO aN aD bv aY rn kd nu tv), (zaI aS cS 901 fS9_64)] H := hP
              have hD : va_D A [(zo14irriiiiiirriirrrrlriiii m0 th aS aI im (nI a) (nI p_51) (nI E) 0 1 aB aT se dn aG aO aN aD bv aY rn kd nu tv), (zaI aS cS 901 fS9_64)] := hD
              have hK : va_K (dC, dI) vwCl [(cS, .int)] s := hK
              obtain rfl : fS9_64 = emt fS9_48 a ((K ++ L1) ++ L_52).length (-3) := by rcases hw_63 with ⟨q, _⟩ | ⟨_, q⟩; exact absurd rfl q; exact q
              have hI_65 : PI (emt fS9_48 a ((K ++ L1) ++ L_52).length (-3)) a (((K ++ L1) ++ L_52) ++ [1803]) (((d + 1) + 1) - 1) p_51 E := PI.em (t := 1803) ((hI_58).mono (by omega) (by omega)) (by omega) (by omega) (stepd_either (by omega)) (by decide)
              have hF_66 : PF a fS (emt fS9_48 a ((K ++ L1) ++ L_52).length (-3)) := ((hF).tr hF_56).tr (PF_emt (k := ((K ++ L1) ++ L_52).length) (x := (-3)) ga (by have := (hI_58).2.2.2.2.1; omega))
              have hKhI_65 : (((K ++ L1) ++ L_52) ++ [1803]).length = ((K ++ L1) ++ L_52).length + 1 := by rw [List.length_append]; rfl
              refine lv_goto (tgt := 4) hx hb dX12_some_40 (by decide) ?_
              exact ih4 (p_51) (L1 ++ (L_52 ++ [1803])) (m2) (0) (emt fS9_48 a ((K ++ L1) ++ L_52).length (-3)) (by omega) (by omega) (hF_66) (Or.inr ⟨rfl, hE9.trans (ps_go hs9 eP_53), by omega, by omega, PI.as (PI.as hI_65), by simp only [List.length_append, List.length_cons, List.length_nil]; omega⟩) _ _ (hK.sub [0] rfl) (hP.sub [0, 1] rfl) (hD.sub [0, 1] (by decide) rfl) hS ls (lv_sub hl [0] rfl)
    exact L4 _ (p_6) (L_7) (101) (0) (fS9_3) (Nat.lt_succ_self _) (by omega) ((PF.rf).tr hF_11) (Or.inr ⟨rfl, pSm_s eP_8, by omega, by omega, hI_13, by omega⟩) _ _ (hK.sub [0] rfl) (hP.sub [0, 1] rfl) (hD.sub [0, 1] (by decide) rfl) hS ls (lv_sub hl [0] rfl)
end mg12b
section mg12b

theorem kc_factor0_0 : ∀ w ∈ wsX120, w ∈ wsX12_factor := fun w h => List.mem_cons_of_mem _ (gin_wsX120 w h)
theorem kc_factor0_1 : (.fieldLink RX12 65 "MistHeapsModel" "isWrong" "Z" : Cond) ∈ wsX12_factor := kc_of 1147 rfl rfl rfl
theorem kc_factor0_2 : (.fieldLink RX12 89 "MistHeapsModel" "open" "I" : Cond) ∈ wsX12_factor := kc_of 1148 rfl rfl rfl
theorem kc_factor0_3 : (.fieldLink RX12 59 "MistHeapsModel" "spot" "I" : Cond) ∈ wsX12_factor := kc_of 1145 rfl rfl rfl
set_option maxHeartbeats 4000000 in
set_option maxRecDepth 100000 in
theorem c_factor0 (l : Launch) (dC : Nat → ClassId) (dI : Nat → Nat → Nat) (sK sV : Nat → Nat) (m0 aS aI aB aT aG aO aN aD aY : Nat) (th im ac sp en wg op se dn rn kd nu tv : Int32) (bv : Int64) (cS : ClassId) (fS : Nat → Int32) (a p0 E : Nat) (K : List Nat) (d : Nat) (ss : Nat → Nat) (sz : Nat) (gI : PI fS a K d p0 E) (gT : TP fS E ss) : Met l yX12_factor wsX12_factor ({ frames := 20, cells := 0, slots := 0, locals := 427 } : Room) (va_Pc [.ref m0] (fun U => U.heap.size = sz ∧ va_P (dC, dI) vwCl [(zo14irriiiiiirriirrrrlriiii m0 th aS aI im (nI a) (nI p0) (nI E) 0 0 aB aT se dn aG aO aN aD bv aY rn kd nu tv), (zaI aS cS 901 fS)] U.heap ∧ va_K (dC, dI) vwCl [(cS, .int)] U ∧ va_D (fun _ => True) [(zo14irriiiiiirriirrrrlriiii m0 th aS aI im (nI a) (nI p0) (nI E) 0 0 aB aT se dn aG aO aN aD bv aY rn kd nu tv), (zaI aS cS 901 fS)] ∧ Gs sK sV (va_A [(zo14irriiiiiirriirrrrlriiii m0 th aS aI im (nI a) (nI p0) (nI E) 0 0 aB aT se dn aG aO aN aD bv aY rn kd nu tv), (zaI aS cS 901 fS)] sz) U)) (va_Qv (fun (u : (Nat → Int32) × (Int32) × (Int32)) => match u with | (fS9, sp9, wg9) => ∃ p9 : Nat, sp9 = nI p9 ∧ p0 ≤ p9 ∧ p9 ≤ E ∧ PF a fS fS9 ∧ ((wg9 = 1 ∧ pFac ss 5 p0 = (none, p9)) ∨ (wg9 = 0 ∧ ∃ L : List Nat, pFac ss 5 p0 = (some L, p9) ∧ p0 + 3 ≤ p9 ∧ PI fS9 a (K ++ L) (d + 1) p9 E ∧ L.length + p0 ≤ p9))) (fun (u : (Nat → Int32) × (Int32) × (Int32)) (t : State) => match u with | (fS9, sp9, wg9) => va_P (dC, dI) vwCl [(zo14irriiiiiirriirrrrlriiii m0 th aS aI im (nI a) sp9 (nI E) wg9 0 aB aT se dn aG aO aN aD bv aY rn kd nu tv), (zaI aS cS 901 fS9)] t.heap ∧ va_K (dC, dI) vwCl [(cS, .int)] t ∧ va_D (va_A [(zo14irriiiiiirriirrrrlriiii m0 th aS aI im (nI a) (nI p0) (nI E) 0 0 aB aT se dn aG aO aN aD bv aY rn kd nu tv), (zaI aS cS 901 fS)] sz) [(zo14irriiiiiirriirrrrlriiii m0 th aS aI im (nI a) sp9 (nI E) wg9 0 aB aT se dn aG aO aN aD bv aY rn kd nu tv), (zaI aS cS 901 fS9)]) (va_A [(zo14irriiiiiirriirrrrlriiii m0 th aS aI im (nI a) (nI p0) (nI E) 0 0 aB aT se dn aG aO aN aD bv aY rn kd nu tv), (zaI aS cS 901 fS)] sz)) 0 0 (va_A [(zo14irriiiiiirriirrrrlriiii m0 th aS aI im (nI a) (nI p0) (nI E) 0 0 aB aT se dn aG aO aN aD bv aY rn kd nu tv), (zaI aS cS 901 fS)] sz) := by
  refine met_ofQ (cc := cX12_factor) (maxL := 5) (ret := none) (by decide) rfl ?_
  intro p e s m args below meth c s₁ Q B hml hv hQ
  obtain ⟨rfl, hsz, hP, hK, hD0, hE⟩ := hv
  have hx := B.exec
  have hb := B.bytes
  have hr := B.returns
  have hts := atoms_spec (ws := wsX12_factor) B.pre
  have hown : s.vm.findClass RX12 = some m.cls := findClass_of_methodNamed B.named
  have hlocks := B.notSynchronized
  subst hsz
  have hD := hD0.self (sz := s.heap.size)
  generalize hAe : va_A [(zo14irriiiiiirriirrrrlriiii m0 th aS aI im (nI a) (nI p0) (nI E) 0 0 aB aT se dn aG aO aN aD bv aY rn kd nu tv), (zaI aS cS 901 fS)] s.heap.size = A at hD hQ hE ⊢
  have hA : ∀ q : Nat, s.heap.size ≤ q → A q := fun q h => by rw [← hAe]; exact Or.inr h
  have hS : va_S A s.heap s.heap [] := va_S.rf
  have hl := lv_entry [.ref m0] (n := 5) (Nat.le_of_ble_eq_true rfl)
  rw [lg_entry_eq]
  generalize (lg_sl [.ref m0] ++ List.replicate (5 - (lg_sl [.ref m0]).length) Slot.unset).toArray = ls at hl ⊢
  generalize hag : ([.ref m0] : List Value).toArray = args at hts hQ ⊢
  have hl : lv_has ls 5 [(0, .ref m0)] := hl
  obtain ⟨H, hH⟩ : ∃ H : Heap, H = s.heap := ⟨_, rfl⟩
  rw [← hH] at hP
  rw [← hH]
  have hS : va_S A s.heap H [] := by rw [hH]; exact hS
  obtain ⟨locs, hlo⟩ : ∃ L : List Loc, L = [] := ⟨_, rfl⟩
  rw [← hlo] at hS
  rw [← hlo]
  clear hH hlo
  obtain ⟨ga, gp, gE, zk, gkp, gd, gs, gcd⟩ := id gI
  refine lv_aload_n hx hb dX12_factor_0 rfl (lv_at hl 0 rfl) ?_
  refine va_get (D := (dC, dI)) (ci := 14) (v := .int 0) (C := RX12) (T := TX12) (N := 23) hx hb hts kc_factor0_0 hown hK hP 0 rfl rfl 7 (by decide) (hts (.fieldLink RX12 65 "MistHeapsModel" "isWrong" "Z") kc_factor0_1) (fun _ h9 => h9) rfl dX12_factor_1 ?_
  refine lv_if_eq (tgt := 8) hx hb dX12_factor_4 (by decide) (fun _ => ?_) (fun c_1 => absurd c_1 (by decide))
  refine lv_aload_n hx hb dX12_factor_8 rfl (lv_at hl 0 rfl) ?_
  have hPc := hP.sub (ws' := [(zo14irriiiiiirriirrrrlriiii m0 th aS aI im (nI a) (nI p0) (nI E) 0 0 aB aT se dn aG aO aN aD bv aY rn kd nu tv), (zaI aS cS 901 fS)]) [0, 1] rfl
  have hKc := hK.sub (tys' := [(cS, .int)]) [0] rfl
  refine vp_callSi (va_runV (As := []) (rest := []) ⟨hx, hb, hml, hown, hts⟩ (c_here l dC dI m0 aS aI aB aT aG aO aN aD aY th im (nI a) (nI p0) (nI E) 0 0 se dn rn kd nu tv bv cS fS a p0 E (by omega) (by omega) (by omega)) (cwV 0 hts gX12_factor_X12_here rfl rfl rfl hd_yX12_here ⟨Nat.le_of_ble_eq_true rfl, Nat.le_of_ble_eq_true rfl⟩) ⟨fun a U g mk q => by obtain ⟨q0, qP, qK⟩ := q; exact ⟨q0, mvP g mk a qP, mvK g mk a qK⟩, va_recv hK hP (ci := 14) (q := (RX12, TX12, 23)) (q0 := 0) rfl rfl, fun U hU hW => ⟨rfl, by rw [hU]; exact hPc, va_K.moved hW.alike hKc⟩⟩ rfl rfl hl.1 rfl (lv_room (Nat.le_of_ble_eq_true rfl)) dX12_factor_9 ⟨Nat.le_of_ble_eq_true rfl, Nat.le_of_ble_eq_true rfl⟩).run (fun r_2 hw_3 => ?_)
  refine lv_istore_n (lv' := [(1, .int r_2), (0, .ref m0)]) hx hb dX12_factor_12 rfl hl (by decide) rfl (fun ls hl => ?_)
  refine lv_iload_n hx hb dX12_factor_13 rfl (lv_at hl 0 rfl) ?_
  refine lv_bipush (v := 33) hx hb dX12_factor_14 (by decide) ?_
  refine lv_icmp_eq (tgt := 25) hx hb dX12_factor_16 (by decide) (fun c_4 => ?_) (fun c_4 => ?_)
  · skip
    subst c_4
    have hs : ss p0 = 33 := (gT.eq (c := 33) (by omega) (by omega)).mp hw_3.symm
    have hlt : p0 < E := Nat.lt_of_not_le (fun z => by have := gT.2.1 p0 z; omega)
    refine lv_aload_n hx hb dX12_factor_25 rfl (lv_at hl 1 rfl) ?_
    refine lv_aload_n hx hb dX12_factor_26 rfl (lv_at hl 1 rfl) ?_
    refine va_get (D := (dC, dI)) (ci := 14) (v := .int 0) (C := RX12) (T := TX12) (N := 23) hx hb hts kc_factor0_0 hown hK hP 0 rfl rfl 8 (by decide) (hts (.fieldLink RX12 89 "MistHeapsModel" "open" "I") kc_factor0_2) (fun _ h9 => h9) rfl dX12_factor_27 ?_
    refine lv_iconst (v := 5) hx hb dX12_factor_30 (by decide) ?_
    refine lv_icmp_ne (tgt := 38) hx hb dX12_factor_31 (by decide) (fun _ => ?_) (fun c_5 => absurd c_5 (by decide))
    refine lv_iconst (v := 0) hx hb dX12_factor_38 (by decide) ?_
    refine va_put (D := (dC, dI)) (ci := 14) (v := .int 0) (ty := .boolean) (C := RX12) (T := TX12) (N := 23) hx hb hts kc_factor0_0 tyX12 tyX12_ok nmX12 hown hK hP hD hS 0 rfl rfl 7 (by decide) (hts (.fieldLink RX12 65 "MistHeapsModel" "isWrong" "Z") kc_factor0_1) (fun _ h9 => h9) rfl (by decide +kernel) rfl rfl (Nat.le_of_ble_eq_true rfl) dX12_factor_39 (fun H locs hP hD hS => ?_)
    have hP : va_P (dC, dI) vwCl [(zo14irriiiiiirriirrrrlriiii m0 th aS aI im (nI a) (nI p0) (nI E) 0 0 aB aT se dn aG aO aN aD bv aY rn kd nu tv), (zaI aS cS 901 fS)] H := hP
    have hD : va_D A [(zo14irriiiiiirriirrrrlriiii m0 th aS aI im (nI a) (nI p0) (nI E) 0 0 aB aT se dn aG aO aN aD bv aY rn kd nu tv), (zaI aS cS 901 fS)] := hD
    refine lv_aload_n hx hb dX12_factor_42 rfl (lv_at hl 1 rfl) ?_
    refine lv_dup hx hb dX12_factor_43 rfl ?_
    refine va_get (D := (dC, dI)) (ci := 14) (v := .int 0) (C := RX12) (T := TX12) (N := 23) hx hb hts kc_factor0_0 hown hK hP 0 rfl rfl 8 (by decide) (hts (.fieldLink RX12 89 "MistHeapsModel" "open" "I") kc_factor0_2) (fun _ h9 => h9) rfl dX12_factor_44 ?_
    refine lv_iconst (v := 1) hx hb dX12_factor_47 (by decide) ?_
    refine lv_iadd hx hb dX12_factor_48 ?_
    refine qi_as (y := 1) (by decide) ?_
    refine va_put (D := (dC, dI)) (ci := 14) (v := .int 1) (ty := .int) (C := RX12) (T := TX12) (N := 23) hx hb hts kc_factor0_0 tyX12 tyX12_ok nmX12 hown hK hP hD hS 0 rfl rfl 8 (by decide) (hts (.fieldLink RX12 89 "MistHeapsModel" "open" "I") kc_factor0_2) (fun _ h9 => h9) rfl (by decide +kernel) rfl rfl (Nat.le_of_ble_eq_true rfl) dX12_factor_49 (fun H locs hP hD hS => ?_)
    have hP : va_P (dC, dI) vwCl [(zo14irriiiiiirriirrrrlriiii m0 th aS aI im (nI a) (nI p0) (nI E) 0 1 aB aT se dn aG aO aN aD bv aY rn kd nu tv), (zaI aS cS 901 fS)] H := hP
    have hD : va_D A [(zo14irriiiiiirriirrrrlriiii m0 th aS aI im (nI a) (nI p0) (nI E) 0 1 aB aT se dn aG aO aN aD bv aY rn kd nu tv), (zaI aS cS 901 fS)] := hD
    refine lv_aload_n hx hb dX12_factor_52 rfl (lv_at hl 1 rfl) ?_
    refine lv_dup hx hb dX12_factor_53 rfl ?_
    refine va_get (D := (dC, dI)) (ci := 14) (v := .int (nI p0)) (C := RX12) (T := TX12) (N := 23) hx hb hts kc_factor0_0 hown hK hP 0 rfl rfl 5 (by decide) (hts (.fieldLink RX12 59 "MistHeapsModel" "spot" "I") kc_factor0_3) (fun _ h9 => h9) rfl dX12_factor_54 ?_
    refine lv_aload_n hx hb dX12_factor_57 rfl (lv_at hl 1 rfl) ?_
    refine va_get (D := (dC, dI)) (ci := 14) (v := .int 0) (C := RX12) (T := TX12) (N := 23) hx hb hts kc_factor0_0 hown hK hP 0 rfl rfl 7 (by decide) (hts (.fieldLink RX12 65 "MistHeapsModel" "isWrong" "Z") kc_factor0_1) (fun _ h9 => h9) rfl dX12_factor_58 ?_
    refine lv_if_eq (tgt := 68) hx hb dX12_factor_61 (by decide) (fun _ => ?_) (fun c_6 => absurd c_6 (by decide))
    refine lv_iconst (v := 1) hx hb dX12_factor_68 (by decide) ?_
    refine lv_iadd hx hb dX12_factor_69 ?_
    refine qi_as (y := nI (p0 + 1)) (nI_add p0 1) ?_
    refine va_put (D := (dC, dI)) (ci := 14) (v := .int (nI (p0 + 1))) (ty := .int) (C := RX12) (T := TX12) (N := 23) hx hb hts kc_factor0_0 tyX12 tyX12_ok nmX12 hown hK hP hD hS 0 rfl rfl 5 (by decide) (hts (.fieldLink RX12 59 "MistHeapsModel" "spot" "I") kc_factor0_3) (fun _ h9 => h9) rfl (by decide +kernel) rfl rfl (Nat.le_of_ble_eq_true rfl) dX12_factor_70 (fun H locs hP hD hS => ?_)
    have hP : va_P (dC, dI) vwCl [(zo14irriiiiiirriirrrrlriiii m0 th aS aI im (nI a) (nI (p0 + 1)) (nI E) 0 1 aB aT se dn aG aO aN aD bv aY rn kd nu tv), (zaI aS cS 901 fS)] H := hP
    have hD : va_D A [(zo14irriiiiiirriirrrrlriiii m0 th aS aI im (nI a) (nI (p0 + 1)) (nI E) 0 1 aB aT se dn aG aO aN aD bv aY rn kd nu tv), (zaI aS cS 901 fS)] := hD
    refine lv_iload_n hx hb dX12_factor_73 rfl (lv_at hl 0 rfl) ?_
    refine lv_bipush (v := 33) hx hb dX12_factor_74 (by decide) ?_
    refine lv_icmp_ne (tgt := 91) hx hb dX12_factor_76 (by decide) (fun c_7 => absurd c_7 (by decide)) (fun _ => ?_)
    refine lv_aload_n hx hb dX12_factor_79 rfl (lv_at hl 1 rfl) ?_
    have hPc := hP.sub (ws' := [(zo14irriiiiiirriirrrrlriiii m0 th aS aI im (nI a) (nI (p0 + 1)) (nI E) 0 1 aB aT se dn aG aO aN aD bv aY rn kd nu tv), (zaI aS cS 901 fS)]) [0, 1] rfl
    have hDc := hD.sub (ws' := [(zo14irriiiiiirriirrrrlriiii m0 th aS aI im (nI a) (nI (p0 + 1)) (nI E) 0 1 aB aT se dn aG aO aN aD bv aY rn kd nu tv), (zaI aS cS 901 fS)]) [0, 1] (by decide) rfl
    have hKc := hK.sub (tys' := [(cS, .int)]) [0] rfl
    have hFc := va_free (wc := [(zo14irriiiiiirriirrrrlriiii m0 th aS aI im (nI a) (nI (p0 + 1)) (nI E) 0 1 aB aT se dn aG aO aN aD bv aY rn kd nu tv), (zaI aS cS 901 fS)]) hD hS hA [0, 1] rfl
    refine va_callv (va_runV (As := []) (rest := []) ⟨hx, hb, hml, hown, hts⟩ (c_factor1 l dC dI sK sV m0 aS aI aB aT aG aO aN aD aY th im (nI a) (nI (p0 + 1)) (nI E) 0 1 se dn rn kd nu tv bv cS fS a (p0 + 1) E K d ss H.size ((gI).mono (by omega) (by omega)) (gT)) (cwV 0 hts gX12_factor_X12_factor rfl rfl rfl hd_yX12_factor ⟨Nat.le_of_ble_eq_true rfl, Nat.le_of_ble_eq_true rfl⟩) ⟨fun a U g mk q => by obtain ⟨q0, q1, qP, qK, qD, qhE⟩ := q; exact ⟨q0, mvz g mk a q1, mvP g mk a qP, mvK g mk a qK, qD, qhE.mv g mk a⟩, va_recv hK hP (ci := 14) (q := (RX12, TX12, 23)) (q0 := 0) rfl rfl, fun U hU hW => ⟨rfl, by rw [hU], by rw [hU]; exact hPc, va_K.moved hW.alike hKc, hDc.weaken (fun _ _ _ _ => trivial), hE.call hS hU hW (fun q h => hFc q h)⟩⟩ rfl rfl hl.1 rfl (lv_room (Nat.le_of_ble_eq_true rfl)) dX12_factor_80 ⟨Nat.le_of_ble_eq_true rfl, Nat.le_of_ble_eq_true rfl⟩) hS (fun q _ h => hFc q h) hFc (fun u tC H1 locs htC hvm hw_9 hB hz1 hk1 hS => ?_)
    obtain ⟨fS9_10, sp9_11, wg9_12⟩ := u
    try dsimp only at hw_9 hB
    obtain ⟨hP1, hK1, hD1⟩ := hB
    rw [htC] at hP1
    have hK1 := va_K.moved hvm.symm hK1
    obtain ⟨hP, hD⟩ := va_join (wr := []) (w1 := [(zo14irriiiiiirriirrrrlriiii m0 th aS aI im (nI a) sp9_11 (nI E) wg9_12 1 aB aT se dn aG aO aN aD bv aY rn kd nu tv), (zaI aS cS 901 fS9_10)]) hP hD [0, 1] [] rfl rfl (by decide) (by decide) hk1 hFc hP1 hD1
    have hK := (hK.sub (tys' := []) [] rfl).app hK1
    generalize H1 = H at hP hS ⊢
    have hP : va_P (dC, dI) vwCl [(zo14irriiiiiirriirrrrlriiii m0 th aS aI im (nI a) sp9_11 (nI E) wg9_12 1 aB aT se dn aG aO aN aD bv aY rn kd nu tv), (zaI aS cS 901 fS9_10)] H := hP
    have hD : va_D A [(zo14irriiiiiirriirrrrlriiii m0 th aS aI im (nI a) sp9_11 (nI E) wg9_12 1 aB aT se dn aG aO aN aD bv aY rn kd nu tv), (zaI aS cS 901 fS9_10)] := hD
    have hK : va_K (dC, dI) vwCl [(cS, .int)] s := hK
    obtain ⟨p_13, rfl, h_16, h_17, hF_18, q9⟩ := hw_9
    rcases q9 with ⟨rfl, eP_15⟩ | ⟨rfl, L_14, eP_15, h_19, hI_20, h_21⟩
    · skip
      refine lv_aload_n hx hb dX12_factor_83 rfl (lv_at hl 1 rfl) ?_
      refine lv_iconst (v := (-1)) hx hb dX12_factor_84 (by decide) ?_
      have hPc := hP.sub (ws' := [(zo14irriiiiiirriirrrrlriiii m0 th aS aI im (nI a) (nI p_13) (nI E) 1 1 aB aT se dn aG aO aN aD bv aY rn kd nu tv)]) [0] rfl
      have hKc := hK.sub (tys' := []) [] rfl
      refine va_csv (va_runV (As := [.int (-1)]) (rest := []) ⟨hx, hb, hml, hown, hts⟩ (c_emitsW l dC dI m0 aS aI aB aT aG aO aN aD aY th im (nI a) (nI p_13) (nI E) 1 1 se dn rn kd nu tv bv (-1)) (cwV 1 hts gX12_factor_X12_emits rfl rfl rfl hd_yX12_emits ⟨Nat.le_of_ble_eq_true rfl, Nat.le_of_ble_eq_true rfl⟩) ⟨fun a U g mk q => by obtain ⟨q0, qP, qK⟩ := q; exact ⟨q0, mvP g mk a qP, mvK g mk a qK⟩, va_recv hK hP (ci := 14) (q := (RX12, TX12, 23)) (q0 := 0) rfl rfl, fun U hU hW => ⟨rfl, by rw [hU]; exact hPc, va_K.moved hW.alike hKc⟩⟩ rfl rfl hl.1 rfl (lv_room (Nat.le_of_ble_eq_true rfl)) dX12_factor_85 ⟨Nat.le_of_ble_eq_true rfl, Nat.le_of_ble_eq_true rfl⟩).run (fun hw_23 => ?_)
      refine lv_goto (tgt := 101) hx hb dX12_factor_88 (by decide) ?_
      refine lv_aload_n hx hb dX12_factor_101 rfl (lv_at hl 1 rfl) ?_
      refine lv_dup hx hb dX12_factor_102 rfl ?_
      refine va_get (D := (dC, dI)) (ci := 14) (v := .int 1) (C := RX12) (T := TX12) (N := 23) hx hb hts kc_factor0_0 hown hK hP 0 rfl rfl 8 (by decide) (hts (.fieldLink RX12 89 "MistHeapsModel" "open" "I") kc_factor0_2) (fun _ h9 => h9) rfl dX12_factor_103 ?_
      refine lv_iconst (v := 1) hx hb dX12_factor_106 (by decide) ?_
      refine lv_isub hx hb dX12_factor_107 ?_
      refine qi_as (y := 0) (by decide) ?_
      refine va_put (D := (dC, dI)) (ci := 14) (v := .int 0) (ty := .int) (C := RX12) (T := TX12) (N := 23) hx hb hts kc_factor0_0 tyX12 tyX12_ok nmX12 hown hK hP hD hS 0 rfl rfl 8 (by decide) (hts (.fieldLink RX12 89 "MistHeapsModel" "open" "I") kc_factor0_2) (fun _ h9 => h9) rfl (by decide +kernel) rfl rfl (Nat.le_of_ble_eq_true rfl) dX12_factor_108 (fun H locs hP hD hS => ?_)
      have hP : va_P (dC, dI) vwCl [(zo14irriiiiiirriirrrrlriiii m0 th aS aI im (nI a) (nI p_13) (nI E) 1 0 aB aT se dn aG aO aN aD bv aY rn kd nu tv), (zaI aS cS 901 fS9_10)] H := hP
      have hD : va_D A [(zo14irriiiiiirriirrrrlriiii m0 th aS aI im (nI a) (nI p_13) (nI E) 1 0 aB aT se dn aG aO aN aD bv aY rn kd nu tv), (zaI aS cS 901 fS9_10)] := hD
      rw [hQ]
      have hP9 := hP.sub (ws' := [(zo14irriiiiiirriirrrrlriiii m0 th aS aI im (nI a) (nI p_13) (nI E) 1 0 aB aT se dn aG aO aN aD bv aY rn kd nu tv), (zaI aS cS 901 fS9_10)]) [0, 1] rfl
      have hD9 := hD.sub (ws' := [(zo14irriiiiiirriirrrrlriiii m0 th aS aI im (nI a) (nI p_13) (nI E) 1 0 aB aT se dn aG aO aN aD bv aY rn kd nu tv), (zaI aS cS 901 fS9_10)]) [0, 1] (by decide) rfl
      have hK9 := hK.sub (tys' := [(cS, .int)]) [0] rfl
      exact W.vret hx hb hr (fun tQ htQ hWQ => ⟨⟨(fS9_10, (nI p_13), 1), rfl, ⟨p_13, rfl, by omega, by omega, (PF.rf).tr hF_18, Or.inl ⟨rfl, pf_n0 (l := 4) hs eP_15⟩⟩, by rw [htQ]; exact hP9, va_K.moved hWQ.alike hK9, hD9⟩, hS.F htQ⟩) hS.2.2 dX12_factor_111
    · skip
      have k5 := hI_20.2.2.2.2.1
      have hqL_14 : (K ++ L_14).length = K.length + L_14.length := List.length_append
      refine lv_aload_n hx hb dX12_factor_83 rfl (lv_at hl 1 rfl) ?_
      refine lv_iconst (v := (-1)) hx hb dX12_factor_84 (by decide) ?_
      have hPc := hP.sub (ws' := [(zo14irriiiiiirriirrrrlriiii m0 th aS aI im (nI a) (nI p_13) (nI E) 0 1 aB aT se dn aG aO aN aD bv aY rn kd nu tv), (zaI aS cS 901 fS9_10)]) [0, 1] rfl
      have hDc := hD.sub (ws' := [(zo14irriiiiiirriirrrrlriiii m0 th aS aI im (nI a) (nI p_13) (nI E) 0 1 aB aT se dn aG aO aN aD bv aY rn kd nu tv), (zaI aS cS 901 fS9_10)]) [0, 1] (by decide) rfl
      have hKc := hK.sub (tys' := [(cS, .int)]) [0] rfl
      have hFc := va_free (wc := [(zo14irriiiiiirriirrrrlriiii m0 th aS aI im (nI a) (nI p_13) (nI E) 0 1 aB aT se dn aG aO aN aD bv aY rn kd nu tv), (zaI aS cS 901 fS9_10)]) hD hS hA [0, 1] rfl
      refine va_callv (va_runV (As := [.int (-1)]) (rest := []) ⟨hx, hb, hml, hown, hts⟩ (c_emits l dC dI m0 aS aI aB aT aG aO aN aD aY th im (nI a) (nI p_13) (nI E) 0 1 se dn rn kd nu tv bv cS fS9_10 a (K ++ L_14).length (-1) H.size (ga) ((hI_20).2.2.2.1) (by have := (hI_20).2.2.2.2.1; omega)) (cwV 1 hts gX12_factor_X12_emits rfl rfl rfl hd_yX12_emits ⟨Nat.le_of_ble_eq_true rfl, Nat.le_of_ble_eq_true rfl⟩) ⟨fun a U g mk q => by obtain ⟨q0, q1, qP, qK, qD⟩ := q; exact ⟨q0, mvz g mk a q1, mvP g mk a qP, mvK g mk a qK, qD⟩, va_recv hK hP (ci := 14) (q := (RX12, TX12, 23)) (q0 := 0) rfl rfl, fun U hU hW => ⟨rfl, by rw [hU], by rw [hU]; exact hPc, va_K.moved hW.alike hKc, hDc.weaken (fun _ _ _ _ => trivial)⟩⟩ rfl rfl hl.1 rfl (lv_room (Nat.le_of_ble_eq_true rfl)) dX12_factor_85 ⟨Nat.le_of_ble_eq_true rfl, Nat.le_of_ble_eq_true rfl⟩) hS (fun q _ h => hFc q h) hFc (fun u tC H1 locs htC hvm hw_25 hB hz1 hk1 hS => ?_)
      obtain ⟨fS9_26, rfl⟩ : ∃ z, z = u := ⟨_, rfl⟩
      try dsimp only at hw_25 hB
      obtain ⟨hP1, hK1, hD1⟩ := hB
      rw [htC] at hP1
      have hK1 := va_K.moved hvm.symm hK1
      obtain ⟨hP, hD⟩ := va_join (wr := []) (w1 := [(zo14irriiiiiirriirrrrlriiii m0 th aS aI im (nI a) (nI p_13) (nI E) 0 1 aB aT se dn aG aO aN aD bv aY rn kd nu tv), (zaI aS cS 901 fS9_26)]) hP hD [0, 1] [] rfl rfl (by decide) (by decide) hk1 hFc hP1 hD1
      have hK := (hK.sub (tys' := []) [] rfl).app hK1
      generalize H1 = H at hP hS ⊢
      have hP : va_P (dC, dI) vwCl [(zo14irriiiiiirriirrrrlriiii m0 th aS aI im (nI a) (nI p_13) (nI E) 0 1 aB aT se dn aG aO aN aD bv aY rn kd nu tv), (zaI aS cS 901 fS9_26)] H := hP
      have hD : va_D A [(zo14irriiiiiirriirrrrlriiii m0 th aS aI im (nI a) (nI p_13) (nI E) 0 1 aB aT se dn aG aO aN aD bv aY rn kd nu tv), (zaI aS cS 901 fS9_26)] := hD
      have hK : va_K (dC, dI) vwCl [(cS, .int)] s := hK
      obtain rfl : fS9_26 = emt fS9_10 a (K ++ L_14).length (-1) := by rcases hw_25 with ⟨q, _⟩ | ⟨_, q⟩; exact absurd rfl q; exact q
      have hI_27 : PI (emt fS9_10 a (K ++ L_14).length (-1)) a ((K ++ L_14) ++ [1801]) (d + 1) p_13 E := PI.em (t := 1801) ((hI_20).mono (by omega) (by omega)) (by omega) (by omega) (stepd_not (by omega)) (by decide)
      have hF_28 : PF a fS (emt fS9_10 a (K ++ L_14).length (-1)) := ((PF.rf).tr hF_18).tr (PF_emt (k := (K ++ L_14).length) (x := (-1)) ga (by have := (hI_20).2.2.2.2.1; omega))
      have hKhI_27 : ((K ++ L_14) ++ [1801]).length = (K ++ L_14).length + 1 := by rw [List.length_append]; rfl
      refine lv_goto (tgt := 101) hx hb dX12_factor_88 (by decide) ?_
      refine lv_aload_n hx hb dX12_factor_101 rfl (lv_at hl 1 rfl) ?_
      refine lv_dup hx hb dX12_factor_102 rfl ?_
      refine va_get (D := (dC, dI)) (ci := 14) (v := .int 1) (C := RX12) (T := TX12) (N := 23) hx hb hts kc_factor0_0 hown hK hP 0 rfl rfl 8 (by decide) (hts (.fieldLink RX12 89 "MistHeapsModel" "open" "I") kc_factor0_2) (fun _ h9 => h9) rfl dX12_factor_103 ?_
      refine lv_iconst (v := 1) hx hb dX12_factor_106 (by decide) ?_
      refine lv_isub hx hb dX12_factor_107 ?_
      refine qi_as (y := 0) (by decide) ?_
      refine va_put (D := (dC, dI)) (ci := 14) (v := .int 0) (ty := .int) (C := RX12) (T := TX12) (N := 23) hx hb hts kc_factor0_0 tyX12 tyX12_ok nmX12 hown hK hP hD hS 0 rfl rfl 8 (by decide) (hts (.fieldLink RX12 89 "MistHeapsModel" "open" "I") kc_factor0_2) (fun _ h9 => h9) rfl (by decide +kernel) rfl rfl (Nat.le_of_ble_eq_true rfl) dX12_factor_108 (fun H locs hP hD hS => ?_)
      have hP : va_P (dC, dI) vwCl [(zo14irriiiiiirriirrrrlriiii m0 th aS aI im (nI a) (nI p_13) (nI E) 0 0 aB aT se dn aG aO aN aD bv aY rn kd nu tv), (zaI aS cS 901 (emt fS9_10 a (K ++ L_14).length (-1)))] H := hP
      have hD : va_D A [(zo14irriiiiiirriirrrrlriiii m0 th aS aI im (nI a) (nI p_13) (nI E) 0 0 aB aT se dn aG aO aN aD bv aY rn kd nu tv), (zaI aS cS 901 (emt fS9_10 a (K ++ L_14).length (-1)))] := hD
      rw [hQ]
      have hP9 := hP.sub (ws' := [(zo14irriiiiiirriirrrrlriiii m0 th aS aI im (nI a) (nI p_13) (nI E) 0 0 aB aT se dn aG aO aN aD bv aY rn kd nu tv), (zaI aS cS 901 (emt fS9_10 a (K ++ L_14).length (-1)))]) [0, 1] rfl
      have hD9 := hD.sub (ws' := [(zo14irriiiiiirriirrrrlriiii m0 th aS aI im (nI a) (nI p_13) (nI E) 0 0 aB aT se dn aG aO aN aD bv aY rn kd nu tv), (zaI aS cS 901 (emt fS9_10 a (K ++ L_14).length (-1)))]) [0, 1] (by decide) rfl
      have hK9 := hK.sub (tys' := [(cS, .int)]) [0] rfl
      exact W.vret hx hb hr (fun tQ htQ hWQ => ⟨⟨((emt fS9_10 a (K ++ L_14).length (-1)), (nI p_13), 0), rfl, ⟨p_13, rfl, by omega, by omega, hF_28, Or.inr ⟨rfl, (L_14 ++ [1801]), pf_n1 (l := 4) hs eP_15, by omega, PI.as ((hI_27).mono (by omega) (by omega)), by (try simp only [List.length_append, List.length_cons, List.length_nil]); omega⟩⟩, by rw [htQ]; exact hP9, va_K.moved hWQ.alike hK9, hD9⟩, hS.F htQ⟩) hS.2.2 dX12_factor_111
  · skip
    have hn33 : ¬ ss p0 = 33 := fun z => c_4 (hw_3.trans ((gT.eq (c := 33) (by omega) (by omega)).mpr z))
    refine lv_iload_n hx hb dX12_factor_19 rfl (lv_at hl 0 rfl) ?_
    refine lv_bipush (v := 40) hx hb dX12_factor_20 (by decide) ?_
    refine lv_icmp_ne (tgt := 112) hx hb dX12_factor_22 (by decide) (fun c_29 => ?_) (fun c_29 => ?_)
    · skip
      have hn40 : ¬ ss p0 = 40 := fun z => c_29 (hw_3.trans ((gT.eq (c := 40) (by omega) (by omega)).mpr z))
      refine lv_aload_n hx hb dX12_factor_112 rfl (lv_at hl 1 rfl) ?_
      refine va_ldcS hx hb hown (show vk_R RX12 101 "hkrcms" (sK 6) s from hE.1 6 (by decide)) dX12_factor_113 ?_
      have hPc := hP.sub (ws' := [(zo14irriiiiiirriirrrrlriiii m0 th aS aI im (nI a) (nI p0) (nI E) 0 0 aB aT se dn aG aO aN aD bv aY rn kd nu tv), (zaI aS cS 901 fS)]) [0, 1] rfl
      have hDc := hD.sub (ws' := [(zo14irriiiiiirriirrrrlriiii m0 th aS aI im (nI a) (nI p0) (nI E) 0 0 aB aT se dn aG aO aN aD bv aY rn kd nu tv), (zaI aS cS 901 fS)]) [0, 1] (by decide) rfl
      have hKc := hK.sub (tys' := [(cS, .int)]) [0] rfl
      have hFc := va_free (wc := [(zo14irriiiiiirriirrrrlriiii m0 th aS aI im (nI a) (nI p0) (nI E) 0 0 aB aT se dn aG aO aN aD bv aY rn kd nu tv), (zaI aS cS 901 fS)]) hD hS hA [0, 1] rfl
      refine va_calli (va_runV (As := [.ref (sK 6)]) (rest := []) ⟨hx, hb, hml, hown, hts⟩ (c_among l dC dI sK sV m0 aS aI aB aT aG aO aN aD aY th im (nI a) (nI p0) (nI E) 0 0 se dn rn kd nu tv bv cS fS a p0 E 6 ss H.size (by omega) (by omega) (by omega) (by decide) (gT)) (cwV 1 hts gX12_factor_X12_among rfl rfl rfl hd_yX12_among ⟨Nat.le_of_ble_eq_true rfl, Nat.le_of_ble_eq_true rfl⟩) ⟨fun a U g mk q => by obtain ⟨q0, q1, qP, qK, qD, qhE⟩ := q; exact ⟨q0, mvz g mk a q1, mvP g mk a qP, mvK g mk a qK, qD, qhE.mv g mk a⟩, va_recv hK hP (ci := 14) (q := (RX12, TX12, 23)) (q0 := 0) rfl rfl, fun U hU hW => ⟨rfl, by rw [hU], by rw [hU]; exact hPc, va_K.moved hW.alike hKc, hDc.weaken (fun _ _ _ _ => trivial), hE.call hS hU hW (fun q h => hFc q h)⟩⟩ rfl rfl hl.1 rfl (lv_room (Nat.le_of_ble_eq_true rfl)) dX12_factor_115 ⟨Nat.le_of_ble_eq_true rfl, Nat.le_of_ble_eq_true rfl⟩) hS (fun q _ h => hFc q h) hFc (fun r_30 u tC H1 locs htC hvm hw_31 hB hz1 hk1 hS => ?_)
      obtain ⟨sp9_32, rfl⟩ : ∃ z, z = u := ⟨_, rfl⟩
      try dsimp only at hw_31 hB
      obtain ⟨hP1, hK1, hD1⟩ := hB
      rw [htC] at hP1
      have hK1 := va_K.moved hvm.symm hK1
      obtain ⟨hP, hD⟩ := va_join (wr := []) (w1 := [(zo14irriiiiiirriirrrrlriiii m0 th aS aI im (nI a) sp9_32 (nI E) 0 0 aB aT se dn aG aO aN aD bv aY rn kd nu tv), (zaI aS cS 901 fS)]) hP hD [0, 1] [] rfl rfl (by decide) (by decide) hk1 hFc hP1 hD1
      have hK := (hK.sub (tys' := []) [] rfl).app hK1
      generalize H1 = H at hP hS ⊢
      have hP : va_P (dC, dI) vwCl [(zo14irriiiiiirriirrrrlriiii m0 th aS aI im (nI a) sp9_32 (nI E) 0 0 aB aT se dn aG aO aN aD bv aY rn kd nu tv), (zaI aS cS 901 fS)] H := hP
      have hD : va_D A [(zo14irriiiiiirriirrrrlriiii m0 th aS aI im (nI a) sp9_32 (nI E) 0 0 aB aT se dn aG aO aN aD bv aY rn kd nu tv), (zaI aS cS 901 fS)] := hD
      have hK : va_K (dC, dI) vwCl [(cS, .int)] s := hK
      rcases hw_31 with ⟨rfl, rfl, h_36⟩ | ⟨j_33, hj_34, rfl, h_35, rfl, h_36⟩
      · skip
        have hx6 := am6_n (fun q hq => h_36 q hq)
        refine lv_istore_n (lv' := [(2, .int (-1)), (1, .int r_2), (0, .ref m0)]) hx hb dX12_factor_118 rfl hl (by decide) rfl (fun ls hl => ?_)
        refine lv_aload_n hx hb dX12_factor_119 rfl (lv_at hl 2 rfl) ?_
        refine lv_iload_n hx hb dX12_factor_120 rfl (lv_at hl 0 rfl) ?_
        refine lv_iconst (v := (-1)) hx hb dX12_factor_121 (by decide) ?_
        refine lv_icmp_ne (tgt := 129) hx hb dX12_factor_122 (by decide) (fun c_37 => absurd c_37 (by decide)) (fun _ => ?_)
        refine lv_iconst (v := 1) hx hb dX12_factor_125 (by decide) ?_
        refine lv_goto (tgt := 130) hx hb dX12_factor_126 (by decide) ?_
        refine va_put (D := (dC, dI)) (ci := 14) (v := .int 1) (ty := .boolean) (C := RX12) (T := TX12) (N := 23) hx hb hts kc_factor0_0 tyX12 tyX12_ok nmX12 hown hK hP hD hS 0 rfl rfl 7 (by decide) (hts (.fieldLink RX12 65 "MistHeapsModel" "isWrong" "Z") kc_factor0_1) (fun _ h9 => h9) rfl (by decide +kernel) rfl rfl (Nat.le_of_ble_eq_true rfl) dX12_factor_130 (fun H locs hP hD hS => ?_)
        have hP : va_P (dC, dI) vwCl [(zo14irriiiiiirriirrrrlriiii m0 th aS aI im (nI a) (nI p0) (nI E) 1 0 aB aT se dn aG aO aN aD bv aY rn kd nu tv), (zaI aS cS 901 fS)] H := hP
        have hD : va_D A [(zo14irriiiiiirriirrrrlriiii m0 th aS aI im (nI a) (nI p0) (nI E) 1 0 aB aT se dn aG aO aN aD bv aY rn kd nu tv), (zaI aS cS 901 fS)] := hD
        refine lv_aload_n hx hb dX12_factor_133 rfl (lv_at hl 2 rfl) ?_
        refine va_get (D := (dC, dI)) (ci := 14) (v := .int 1) (C := RX12) (T := TX12) (N := 23) hx hb hts kc_factor0_0 hown hK hP 0 rfl rfl 7 (by decide) (hts (.fieldLink RX12 65 "MistHeapsModel" "isWrong" "Z") kc_factor0_1) (fun _ h9 => h9) rfl dX12_factor_134 ?_
        refine lv_if_eq (tgt := 144) hx hb dX12_factor_137 (by decide) (fun c_38 => absurd c_38 (by decide)) (fun _ => ?_)
        refine lv_iconst (v := 0) hx hb dX12_factor_140 (by decide) ?_
        refine lv_goto (tgt := 150) hx hb dX12_factor_141 (by decide) ?_
        refine lv_istore_n (lv' := [(3, .int 0), (2, .int (-1)), (1, .int r_2), (0, .ref m0)]) hx hb dX12_factor_150 rfl hl (by decide) rfl (fun ls hl => ?_)
        refine lv_aload_n hx hb dX12_factor_151 rfl (lv_at hl 3 rfl) ?_
        refine lv_aload_n hx hb dX12_factor_152 rfl (lv_at hl 3 rfl) ?_
        refine va_get (D := (dC, dI)) (ci := 14) (v := .int 1) (C := RX12) (T := TX12) (N := 23) hx hb hts kc_factor0_0 hown hK hP 0 rfl rfl 7 (by decide) (hts (.fieldLink RX12 65 "MistHeapsModel" "isWrong" "Z") kc_factor0_1) (fun _ h9 => h9) rfl dX12_factor_153 ?_
        refine lv_if_ne (tgt := 164) hx hb dX12_factor_156 (by decide) (fun _ => ?_) (fun c_39 => absurd c_39 (by decide))
        refine lv_iconst (v := 1) hx hb dX12_factor_164 (by decide) ?_
        refine lv_goto (tgt := 169) hx hb dX12_factor_165 (by decide) ?_
        refine va_put (D := (dC, dI)) (ci := 14) (v := .int 1) (ty := .boolean) (C := RX12) (T := TX12) (N := 23) hx hb hts kc_factor0_0 tyX12 tyX12_ok nmX12 hown hK hP hD hS 0 rfl rfl 7 (by decide) (hts (.fieldLink RX12 65 "MistHeapsModel" "isWrong" "Z") kc_factor0_1) (fun _ h9 => h9) rfl (by decide +kernel) rfl rfl (Nat.le_of_ble_eq_true rfl) dX12_factor_169 (fun H locs hP hD hS => ?_)
        have hP : va_P (dC, dI) vwCl [(zo14irriiiiiirriirrrrlriiii m0 th aS aI im (nI a) (nI p0) (nI E) 1 0 aB aT se dn aG aO aN aD bv aY rn kd nu tv), (zaI aS cS 901 fS)] H := hP
        have hD : va_D A [(zo14irriiiiiirriirrrrlriiii m0 th aS aI im (nI a) (nI p0) (nI E) 1 0 aB aT se dn aG aO aN aD bv aY rn kd nu tv), (zaI aS cS 901 fS)] := hD
        refine lv_aload_n hx hb dX12_factor_172 rfl (lv_at hl 3 rfl) ?_
        have hPc := hP.sub (ws' := [(zo14irriiiiiirriirrrrlriiii m0 th aS aI im (nI a) (nI p0) (nI E) 1 0 aB aT se dn aG aO aN aD bv aY rn kd nu tv), (zaI aS cS 901 fS)]) [0, 1] rfl
        have hDc := hD.sub (ws' := [(zo14irriiiiiirriirrrrlriiii m0 th aS aI im (nI a) (nI p0) (nI E) 1 0 aB aT se dn aG aO aN aD bv aY rn kd nu tv), (zaI aS cS 901 fS)]) [0, 1] (by decide) rfl
        have hKc := hK.sub (tys' := [(cS, .int)]) [0] rfl
        have hFc := va_free (wc := [(zo14irriiiiiirriirrrrlriiii m0 th aS aI im (nI a) (nI p0) (nI E) 1 0 aB aT se dn aG aO aN aD bv aY rn kd nu tv), (zaI aS cS 901 fS)]) hD hS hA [0, 1] rfl
        refine va_calli (va_runV (As := []) (rest := []) ⟨hx, hb, hml, hown, hts⟩ (c_figures l dC dI m0 aS aI aB aT aG aO aN aD aY th im (nI a) (nI p0) (nI E) 1 0 se dn rn kd nu tv bv cS fS a p0 E ss H.size (by omega) (by omega) (by omega) (Or.inr rfl) (gT)) (cwV 0 hts gX12_factor_X12_figures rfl rfl rfl hd_yX12_figures ⟨Nat.le_of_ble_eq_true rfl, Nat.le_of_ble_eq_true rfl⟩) ⟨fun a U g mk q => by obtain ⟨q0, q1, qP, qK, qD⟩ := q; exact ⟨q0, mvz g mk a q1, mvP g mk a qP, mvK g mk a qK, qD⟩, va_recv hK hP (ci := 14) (q := (RX12, TX12, 23)) (q0 := 0) rfl rfl, fun U hU hW => ⟨rfl, by rw [hU], by rw [hU]; exact hPc, va_K.moved hW.alike hKc, hDc.weaken (fun _ _ _ _ => trivial)⟩⟩ rfl rfl hl.1 rfl (lv_room (Nat.le_of_ble_eq_true rfl)) dX12_factor_173 ⟨Nat.le_of_ble_eq_true rfl, Nat.le_of_ble_eq_true rfl⟩) hS (fun q _ h => hFc q h) hFc (fun r_40 u tC H1 locs htC hvm hw_41 hB hz1 hk1 hS => ?_)
        obtain ⟨sp9_42, wg9_43⟩ := u
        try dsimp only at hw_41 hB
        obtain ⟨hP1, hK1, hD1⟩ := hB
        rw [htC] at hP1
        have hK1 := va_K.moved hvm.symm hK1
        obtain ⟨hP, hD⟩ := va_join (wr := []) (w1 := [(zo14irriiiiiirriirrrrlriiii m0 th aS aI im (nI a) sp9_42 (nI E) wg9_43 0 aB aT se dn aG aO aN aD bv aY rn kd nu tv), (zaI aS cS 901 fS)]) hP hD [0, 1] [] rfl rfl (by decide) (by decide) hk1 hFc hP1 hD1
        have hK := (hK.sub (tys' := []) [] rfl).app hK1
        generalize H1 = H at hP hS ⊢
        have hP : va_P (dC, dI) vwCl [(zo14irriiiiiirriirrrrlriiii m0 th aS aI im (nI a) sp9_42 (nI E) wg9_43 0 aB aT se dn aG aO aN aD bv aY rn kd nu tv), (zaI aS cS 901 fS)] H := hP
        have hD : va_D A [(zo14irriiiiiirriirrrrlriiii m0 th aS aI im (nI a) sp9_42 (nI E) wg9_43 0 aB aT se dn aG aO aN aD bv aY rn kd nu tv), (zaI aS cS 901 fS)] := hD
        have hK : va_K (dC, dI) vwCl [(cS, .int)] s := hK
        rcases hw_41 with ⟨rfl, rfl, hN_51, v_44, h_46, rfl⟩ | ⟨rfl, h_50, v_44, p_45, h_46, h_47, h_48, rfl, rfl, hN_51⟩
        · skip
          refine lv_istore (lv' := [(4, .int (nI v_44)), (3, .int 0), (2, .int (-1)), (1, .int r_2), (0, .ref m0)]) hx hb dX12_factor_176 hl (by decide) rfl (fun ls hl => ?_)
          refine lv_aload_n hx hb dX12_factor_178 rfl (lv_at hl 4 rfl) ?_
          refine lv_iload_n hx hb dX12_factor_179 rfl (lv_at hl 2 rfl) ?_
          refine lv_bipush (v := 8) hx hb dX12_factor_180 (by decide) ?_
          refine lv_iload_n hx hb dX12_factor_182 rfl (lv_at hl 1 rfl) ?_
          refine lv_imul hx hb dX12_factor_183 ?_
          refine qi_as (y := 0) (by decide) ?_
          refine lv_iadd hx hb dX12_factor_184 ?_
          refine qi_as (y := (-1)) (by decide) ?_
          refine lv_bipush (v := 32) hx hb dX12_factor_185 (by decide) ?_
          refine lv_iload hx hb dX12_factor_187 (lv_at hl 0 rfl) ?_
          refine lv_imul hx hb dX12_factor_189 ?_
          refine qi_as (y := nI (32 * v_44)) (pk_mul 32 v_44) ?_
          refine lv_iadd hx hb dX12_factor_190 ?_
          have hPc := hP.sub (ws' := [(zo14irriiiiiirriirrrrlriiii m0 th aS aI im (nI a) (nI p0) (nI E) 1 0 aB aT se dn aG aO aN aD bv aY rn kd nu tv)]) [0] rfl
          have hKc := hK.sub (tys' := []) [] rfl
          refine va_csv (va_runV (As := [.int ((-1) + (nI (32 * v_44)))]) (rest := []) ⟨hx, hb, hml, hown, hts⟩ (c_emitsW l dC dI m0 aS aI aB aT aG aO aN aD aY th im (nI a) (nI p0) (nI E) 1 0 se dn rn kd nu tv bv ((-1) + (nI (32 * v_44)))) (cwV 1 hts gX12_factor_X12_emits rfl rfl rfl hd_yX12_emits ⟨Nat.le_of_ble_eq_true rfl, Nat.le_of_ble_eq_true rfl⟩) ⟨fun a U g mk q => by obtain ⟨q0, qP, qK⟩ := q; exact ⟨q0, mvP g mk a qP, mvK g mk a qK⟩, va_recv hK hP (ci := 14) (q := (RX12, TX12, 23)) (q0 := 0) rfl rfl, fun U hU hW => ⟨rfl, by rw [hU]; exact hPc, va_K.moved hW.alike hKc⟩⟩ rfl rfl hl.1 rfl (lv_room (Nat.le_of_ble_eq_true rfl)) dX12_factor_191 ⟨Nat.le_of_ble_eq_true rfl, Nat.le_of_ble_eq_true rfl⟩).run (fun hw_53 => ?_)
          rw [hQ]
          have hP9 := hP.sub (ws' := [(zo14irriiiiiirriirrrrlriiii m0 th aS aI im (nI a) (nI p0) (nI E) 1 0 aB aT se dn aG aO aN aD bv aY rn kd nu tv), (zaI aS cS 901 fS)]) [0, 1] rfl
          have hD9 := hD.sub (ws' := [(zo14irriiiiiirriirrrrlriiii m0 th aS aI im (nI a) (nI p0) (nI E) 1 0 aB aT se dn aG aO aN aD bv aY rn kd nu tv), (zaI aS cS 901 fS)]) [0, 1] (by decide) rfl
          have hK9 := hK.sub (tys' := [(cS, .int)]) [0] rfl
          exact W.vret hx hb hr (fun tQ htQ hWQ => ⟨⟨(fS, (nI p0), 1), rfl, ⟨p0, rfl, by omega, by omega, PF.rf, Or.inl ⟨rfl, (pf_t hn33 hn40).trans (pt_1 hx6)⟩⟩, by rw [htQ]; exact hP9, va_K.moved hWQ.alike hK9, hD9⟩, hS.F htQ⟩) hS.2.2 dX12_factor_194
        · skip
          exact absurd h_50 (by decide)
      · skip
        have hj_34 : j_33 < 6 := hj_34
        have hx6 := am6_y hj_34 h_36
        refine lv_istore_n (lv' := [(2, .int (nI j_33)), (1, .int r_2), (0, .ref m0)]) hx hb dX12_factor_118 rfl hl (by decide) rfl (fun ls hl => ?_)
        refine lv_aload_n hx hb dX12_factor_119 rfl (lv_at hl 2 rfl) ?_
        refine lv_iload_n hx hb dX12_factor_120 rfl (lv_at hl 0 rfl) ?_
        refine lv_iconst (v := (-1)) hx hb dX12_factor_121 (by decide) ?_
        refine lv_icmp_ne (tgt := 129) hx hb dX12_factor_122 (by decide) (fun c_54 => ?_) (fun c_54 => absurd c_54 (nI_nm1 (by omega)))
        refine lv_iconst (v := 0) hx hb dX12_factor_129 (by decide) ?_
        refine va_put (D := (dC, dI)) (ci := 14) (v := .int 0) (ty := .boolean) (C := RX12) (T := TX12) (N := 23) hx hb hts kc_factor0_0 tyX12 tyX12_ok nmX12 hown hK hP hD hS 0 rfl rfl 7 (by decide) (hts (.fieldLink RX12 65 "MistHeapsModel" "isWrong" "Z") kc_factor0_1) (fun _ h9 => h9) rfl (by decide +kernel) rfl rfl (Nat.le_of_ble_eq_true rfl) dX12_factor_130 (fun H locs hP hD hS => ?_)
        have hP : va_P (dC, dI) vwCl [(zo14irriiiiiirriirrrrlriiii m0 th aS aI im (nI a) (nI (p0 + 1)) (nI E) 0 0 aB aT se dn aG aO aN aD bv aY rn kd nu tv), (zaI aS cS 901 fS)] H := hP
        have hD : va_D A [(zo14irriiiiiirriirrrrlriiii m0 th aS aI im (nI a) (nI (p0 + 1)) (nI E) 0 0 aB aT se dn aG aO aN aD bv aY rn kd nu tv), (zaI aS cS 901 fS)] := hD
        refine lv_aload_n hx hb dX12_factor_133 rfl (lv_at hl 2 rfl) ?_
        refine va_get (D := (dC, dI)) (ci := 14) (v := .int 0) (C := RX12) (T := TX12) (N := 23) hx hb hts kc_factor0_0 hown hK hP 0 rfl rfl 7 (by decide) (hts (.fieldLink RX12 65 "MistHeapsModel" "isWrong" "Z") kc_factor0_1) (fun _ h9 => h9) rfl dX12_factor_134 ?_
        refine lv_if_eq (tgt := 144) hx hb dX12_factor_137 (by decide) (fun _ => ?_) (fun c_55 => absurd c_55 (by decide))
        refine lv_aload_n hx hb dX12_factor_144 rfl (lv_at hl 2 rfl) ?_
        refine va_ldcS hx hb hown (show vk_R RX12 107 "<=>" (sK 7) s from hE.1 7 (by decide)) dX12_factor_145 ?_
        have hPc := hP.sub (ws' := [(zo14irriiiiiirriirrrrlriiii m0 th aS aI im (nI a) (nI (p0 + 1)) (nI E) 0 0 aB aT se dn aG aO aN aD bv aY rn kd nu tv), (zaI aS cS 901 fS)]) [0, 1] rfl
        have hDc := hD.sub (ws' := [(zo14irriiiiiirriirrrrlriiii m0 th aS aI im (nI a) (nI (p0 + 1)) (nI E) 0 0 aB aT se dn aG aO aN aD bv aY rn kd nu tv), (zaI aS cS 901 fS)]) [0, 1] (by decide) rfl
        have hKc := hK.sub (tys' := [(cS, .int)]) [0] rfl
        have hFc := va_free (wc := [(zo14irriiiiiirriirrrrlriiii m0 th aS aI im (nI a) (nI (p0 + 1)) (nI E) 0 0 aB aT se dn aG aO aN aD bv aY rn kd nu tv), (zaI aS cS 901 fS)]) hD hS hA [0, 1] rfl
        refine va_calli (va_runV (As := [.ref (sK 7)]) (rest := []) ⟨hx, hb, hml, hown, hts⟩ (c_among l dC dI sK sV m0 aS aI aB aT aG aO aN aD aY th im (nI a) (nI (p0 + 1)) (nI E) 0 0 se dn rn kd nu tv bv cS fS a (p0 + 1) E 7 ss H.size (by omega) (by omega) (by omega) (by decide) (gT)) (cwV 1 hts gX12_factor_X12_among rfl rfl rfl hd_yX12_among ⟨Nat.le_of_ble_eq_true rfl, Nat.le_of_ble_eq_true rfl⟩) ⟨fun a U g mk q => by obtain ⟨q0, q1, qP, qK, qD, qhE⟩ := q; exact ⟨q0, mvz g mk a q1, mvP g mk a qP, mvK g mk a qK, qD, qhE.mv g mk a⟩, va_recv hK hP (ci := 14) (q := (RX12, TX12, 23)) (q0 := 0) rfl rfl, fun U hU hW => ⟨rfl, by rw [hU], by rw [hU]; exact hPc, va_K.moved hW.alike hKc, hDc.weaken (fun _ _ _ _ => trivial), hE.call hS hU hW (fun q h => hFc q h)⟩⟩ rfl rfl hl.1 rfl (lv_room (Nat.le_of_ble_eq_true rfl)) dX12_factor_147 ⟨Nat.le_of_ble_eq_true rfl, Nat.le_of_ble_eq_true rfl⟩) hS (fun q _ h => hFc q h) hFc (fun r_56 u tC H1 locs htC hvm hw_57 hB hz1 hk1 hS => ?_)
        obtain ⟨sp9_58, rfl⟩ : ∃ z, z = u := ⟨_, rfl⟩
        try dsimp only at hw_57 hB
        obtain ⟨hP1, hK1, hD1⟩ := hB
        rw [htC] at hP1
        have hK1 := va_K.moved hvm.symm hK1
        obtain ⟨hP, hD⟩ := va_join (wr := []) (w1 := [(zo14irriiiiiirriirrrrlriiii m0 th aS aI im (nI a) sp9_58 (nI E) 0 0 aB aT se dn aG aO aN aD bv aY rn kd nu tv), (zaI aS cS 901 fS)]) hP hD [0, 1] [] rfl rfl (by decide) (by decide) hk1 hFc hP1 hD1
        have hK := (hK.sub (tys' := []) [] rfl).app hK1
        generalize H1 = H at hP hS ⊢
        have hP : va_P (dC, dI) vwCl [(zo14irriiiiiirriirrrrlriiii m0 th aS aI im (nI a) sp9_58 (nI E) 0 0 aB aT se dn aG aO aN aD bv aY rn kd nu tv), (zaI aS cS 901 fS)] H := hP
        have hD : va_D A [(zo14irriiiiiirriirrrrlriiii m0 th aS aI im (nI a) sp9_58 (nI E) 0 0 aB aT se dn aG aO aN aD bv aY rn kd nu tv), (zaI aS cS 901 fS)] := hD
        have hK : va_K (dC, dI) vwCl [(cS, .int)] s := hK
        rcases hw_57 with ⟨rfl, rfl, h_62⟩ | ⟨j_59, hj_60, rfl, h_61, rfl, h_62⟩
        · skip
          have hx3 := am3_n (fun q hq => h_62 q hq)
          refine lv_istore_n (lv' := [(3, .int (-1)), (2, .int (nI j_33)), (1, .int r_2), (0, .ref m0)]) hx hb dX12_factor_150 rfl hl (by decide) rfl (fun ls hl => ?_)
          refine lv_aload_n hx hb dX12_factor_151 rfl (lv_at hl 3 rfl) ?_
          refine lv_aload_n hx hb dX12_factor_152 rfl (lv_at hl 3 rfl) ?_
          refine va_get (D := (dC, dI)) (ci := 14) (v := .int 0) (C := RX12) (T := TX12) (N := 23) hx hb hts kc_factor0_0 hown hK hP 0 rfl rfl 7 (by decide) (hts (.fieldLink RX12 65 "MistHeapsModel" "isWrong" "Z") kc_factor0_1) (fun _ h9 => h9) rfl dX12_factor_153 ?_
          refine lv_if_ne (tgt := 164) hx hb dX12_factor_156 (by decide) (fun c_63 => absurd c_63 (by decide)) (fun _ => ?_)
          refine lv_iload_n hx hb dX12_factor_159 rfl (lv_at hl 0 rfl) ?_
          refine lv_iconst (v := (-1)) hx hb dX12_factor_160 (by decide) ?_
          refine lv_icmp_ne (tgt := 168) hx hb dX12_factor_161 (by decide) (fun c_64 => absurd c_64 (by decide)) (fun _ => ?_)
          refine lv_iconst (v := 1) hx hb dX12_factor_164 (by decide) ?_
          refine lv_goto (tgt := 169) hx hb dX12_factor_165 (by decide) ?_
          refine va_put (D := (dC, dI)) (ci := 14) (v := .int 1) (ty := .boolean) (C := RX12) (T := TX12) (N := 23) hx hb hts kc_factor0_0 tyX12 tyX12_ok nmX12 hown hK hP hD hS 0 rfl rfl 7 (by decide) (hts (.fieldLink RX12 65 "MistHeapsModel" "isWrong" "Z") kc_factor0_1) (fun _ h9 => h9) rfl (by decide +kernel) rfl rfl (Nat.le_of_ble_eq_true rfl) dX12_factor_169 (fun H locs hP hD hS => ?_)
          have hP : va_P (dC, dI) vwCl [(zo14irriiiiiirriirrrrlriiii m0 th aS aI im (nI a) (nI (p0 + 1)) (nI E) 1 0 aB aT se dn aG aO aN aD bv aY rn kd nu tv), (zaI aS cS 901 fS)] H := hP
          have hD : va_D A [(zo14irriiiiiirriirrrrlriiii m0 th aS aI im (nI a) (nI (p0 + 1)) (nI E) 1 0 aB aT se dn aG aO aN aD bv aY rn kd nu tv), (zaI aS cS 901 fS)] := hD
          refine lv_aload_n hx hb dX12_factor_172 rfl (lv_at hl 3 rfl) ?_
          have hPc := hP.sub (ws' := [(zo14irriiiiiirriirrrrlriiii m0 th aS aI im (nI a) (nI (p0 + 1)) (nI E) 1 0 aB aT se dn aG aO aN aD bv aY rn kd nu tv), (zaI aS cS 901 fS)]) [0, 1] rfl
          have hDc := hD.sub (ws' := [(zo14irriiiiiirriirrrrlriiii m0 th aS aI im (nI a) (nI (p0 + 1)) (nI E) 1 0 aB aT se dn aG aO aN aD bv aY rn kd nu tv), (zaI aS cS 901 fS)]) [0, 1] (by decide) rfl
          have hKc := hK.sub (tys' := [(cS, .int)]) [0] rfl
          have hFc := va_free (wc := [(zo14irriiiiiirriirrrrlriiii m0 th aS aI im (nI a) (nI (p0 + 1)) (nI E) 1 0 aB aT se dn aG aO aN aD bv aY rn kd nu tv), (zaI aS cS 901 fS)]) hD hS hA [0, 1] rfl
          refine va_calli (va_runV (As := []) (rest := []) ⟨hx, hb, hml, hown, hts⟩ (c_figures l dC dI m0 aS aI aB aT aG aO aN aD aY th im (nI a) (nI (p0 + 1)) (nI E) 1 0 se dn rn kd nu tv bv cS fS a (p0 + 1) E ss H.size (by omega) (by omega) (by omega) (Or.inr rfl) (gT)) (cwV 0 hts gX12_factor_X12_figures rfl rfl rfl hd_yX12_figures ⟨Nat.le_of_ble_eq_true rfl, Nat.le_of_ble_eq_true rfl⟩) ⟨fun a U g mk q => by obtain ⟨q0, q1, qP, qK, qD⟩ := q; exact ⟨q0, mvz g mk a q1, mvP g mk a qP, mvK g mk a qK, qD⟩, va_recv hK hP (ci := 14) (q := (RX12, TX12, 23)) (q0 := 0) rfl rfl, fun U hU hW => ⟨rfl, by rw [hU], by rw [hU]; exact hPc, va_K.moved hW.alike hKc, hDc.weaken (fun _ _ _ _ => trivial)⟩⟩ rfl rfl hl.1 rfl (lv_room (Nat.le_of_ble_eq_true rfl)) dX12_factor_173 ⟨Nat.le_of_ble_eq_true rfl, Nat.le_of_ble_eq_true rfl⟩) hS (fun q _ h => hFc q h) hFc (fun r_65 u tC H1 locs htC hvm hw_66 hB hz1 hk1 hS => ?_)
          obtain ⟨sp9_67, wg9_68⟩ := u
          try dsimp only at hw_66 hB
          obtain ⟨hP1, hK1, hD1⟩ := hB
          rw [htC] at hP1
          have hK1 := va_K.moved hvm.symm hK1
          obtain ⟨hP, hD⟩ := va_join (wr := []) (w1 := [(zo14irriiiiiirriirrrrlriiii m0 th aS aI im (nI a) sp9_67 (nI E) wg9_68 0 aB aT se dn aG aO aN aD bv aY rn kd nu tv), (zaI aS cS 901 fS)]) hP hD [0, 1] [] rfl rfl (by decide) (by decide) hk1 hFc hP1 hD1
          have hK := (hK.sub (tys' := []) [] rfl).app hK1
          generalize H1 = H at hP hS ⊢
          have hP : va_P (dC, dI) vwCl [(zo14irriiiiiirriirrrrlriiii m0 th aS aI im (nI a) sp9_67 (nI E) wg9_68 0 aB aT se dn aG aO aN aD bv aY rn kd nu tv), (zaI aS cS 901 fS)] H := hP
          have hD : va_D A [(zo14irriiiiiirriirrrrlriiii m0 th aS aI im (nI a) sp9_67 (nI E) wg9_68 0 aB aT se dn aG aO aN aD bv aY rn kd nu tv), (zaI aS cS 901 fS)] := hD
          have hK : va_K (dC, dI) vwCl [(cS, .int)] s := hK
          rcases hw_66 with ⟨rfl, rfl, hN_76, v_69, h_71, rfl⟩ | ⟨rfl, h_75, v_69, p_70, h_71, h_72, h_73, rfl, rfl, hN_76⟩
          · skip
            refine lv_istore (lv' := [(4, .int (nI v_69)), (3, .int (-1)), (2, .int (nI j_33)), (1, .int r_2), (0, .ref m0)]) hx hb dX12_factor_176 hl (by decide) rfl (fun ls hl => ?_)
            refine lv_aload_n hx hb dX12_factor_178 rfl (lv_at hl 4 rfl) ?_
            refine lv_iload_n hx hb dX12_factor_179 rfl (lv_at hl 2 rfl) ?_
            refine lv_bipush (v := 8) hx hb dX12_factor_180 (by decide) ?_
            refine lv_iload_n hx hb dX12_factor_182 rfl (lv_at hl 1 rfl) ?_
            refine lv_imul hx hb dX12_factor_183 ?_
            refine qi_as (y := (-8)) (by decide) ?_
            refine lv_iadd hx hb dX12_factor_184 ?_
            refine lv_bipush (v := 32) hx hb dX12_factor_185 (by decide) ?_
            refine lv_iload hx hb dX12_factor_187 (lv_at hl 0 rfl) ?_
            refine lv_imul hx hb dX12_factor_189 ?_
            refine qi_as (y := nI (32 * v_69)) (pk_mul 32 v_69) ?_
            refine lv_iadd hx hb dX12_factor_190 ?_
            have hPc := hP.sub (ws' := [(zo14irriiiiiirriirrrrlriiii m0 th aS aI im (nI a) (nI (p0 + 1)) (nI E) 1 0 aB aT se dn aG aO aN aD bv aY rn kd nu tv)]) [0] rfl
            have hKc := hK.sub (tys' := []) [] rfl
            refine va_csv (va_runV (As := [.int (((nI j_33) + (-8)) + (nI (32 * v_69)))]) (rest := []) ⟨hx, hb, hml, hown, hts⟩ (c_emitsW l dC dI m0 aS aI aB aT aG aO aN aD aY th im (nI a) (nI (p0 + 1)) (nI E) 1 0 se dn rn kd nu tv bv (((nI j_33) + (-8)) + (nI (32 * v_69)))) (cwV 1 hts gX12_factor_X12_emits rfl rfl rfl hd_yX12_emits ⟨Nat.le_of_ble_eq_true rfl, Nat.le_of_ble_eq_true rfl⟩) ⟨fun a U g mk q => by obtain ⟨q0, qP, qK⟩ := q; exact ⟨q0, mvP g mk a qP, mvK g mk a qK⟩, va_recv hK hP (ci := 14) (q := (RX12, TX12, 23)) (q0 := 0) rfl rfl, fun U hU hW => ⟨rfl, by rw [hU]; exact hPc, va_K.moved hW.alike hKc⟩⟩ rfl rfl hl.1 rfl (lv_room (Nat.le_of_ble_eq_true rfl)) dX12_factor_191 ⟨Nat.le_of_ble_eq_true rfl, Nat.le_of_ble_eq_true rfl⟩).run (fun hw_78 => ?_)
            rw [hQ]
            have hP9 := hP.sub (ws' := [(zo14irriiiiiirriirrrrlriiii m0 th aS aI im (nI a) (nI (p0 + 1)) (nI E) 1 0 aB aT se dn aG aO aN aD bv aY rn kd nu tv), (zaI aS cS 901 fS)]) [0, 1] rfl
            have hD9 := hD.sub (ws' := [(zo14irriiiiiirriirrrrlriiii m0 th aS aI im (nI a) (nI (p0 + 1)) (nI E) 1 0 aB aT se dn aG aO aN aD bv aY rn kd nu tv), (zaI aS cS 901 fS)]) [0, 1] (by decide) rfl
            have hK9 := hK.sub (tys' := [(cS, .int)]) [0] rfl
            exact W.vret hx hb hr (fun tQ htQ hWQ => ⟨⟨(fS, (nI (p0 + 1)), 1), rfl, ⟨p0 + 1, rfl, by omega, by omega, PF.rf, Or.inl ⟨rfl, (pf_t hn33 hn40).trans (pt_2 hx6 hx3)⟩⟩, by rw [htQ]; exact hP9, va_K.moved hWQ.alike hK9, hD9⟩, hS.F htQ⟩) hS.2.2 dX12_factor_194
          · skip
            exact absurd h_75 (by decide)
        · skip
          have hj_60 : j_59 < 3 := hj_60
          have hx3 := am3_y hj_60 h_62
          refine lv_istore_n (lv' := [(3, .int (nI j_59)), (2, .int (nI j_33)), (1, .int r_2), (0, .ref m0)]) hx hb dX12_factor_150 rfl hl (by decide) rfl (fun ls hl => ?_)
          refine lv_aload_n hx hb dX12_factor_151 rfl (lv_at hl 3 rfl) ?_
          refine lv_aload_n hx hb dX12_factor_152 rfl (lv_at hl 3 rfl) ?_
          refine va_get (D := (dC, dI)) (ci := 14) (v := .int 0) (C := RX12) (T := TX12) (N := 23) hx hb hts kc_factor0_0 hown hK hP 0 rfl rfl 7 (by decide) (hts (.fieldLink RX12 65 "MistHeapsModel" "isWrong" "Z") kc_factor0_1) (fun _ h9 => h9) rfl dX12_factor_153 ?_
          refine lv_if_ne (tgt := 164) hx hb dX12_factor_156 (by decide) (fun c_79 => absurd c_79 (by decide)) (fun _ => ?_)
          refine lv_iload_n hx hb dX12_factor_159 rfl (lv_at hl 0 rfl) ?_
          refine lv_iconst (v := (-1)) hx hb dX12_factor_160 (by decide) ?_
          refine lv_icmp_ne (tgt := 168) hx hb dX12_factor_161 (by decide) (fun c_80 => ?_) (fun c_80 => absurd c_80 (nI_nm1 (by omega)))
          refine lv_iconst (v := 0) hx hb dX12_factor_168 (by decide) ?_
          refine va_put (D := (dC, dI)) (ci := 14) (v := .int 0) (ty := .boolean) (C := RX12) (T := TX12) (N := 23) hx hb hts kc_factor0_0 tyX12 tyX12_ok nmX12 hown hK hP hD hS 0 rfl rfl 7 (by decide) (hts (.fieldLink RX12 65 "MistHeapsModel" "isWrong" "Z") kc_factor0_1) (fun _ h9 => h9) rfl (by decide +kernel) rfl rfl (Nat.le_of_ble_eq_true rfl) dX12_factor_169 (fun H locs hP hD hS => ?_)
          have hP : va_P (dC, dI) vwCl [(zo14irriiiiiirriirrrrlriiii m0 th aS aI im (nI a) (nI ((p0 + 1) + 1)) (nI E) 0 0 aB aT se dn aG aO aN aD bv aY rn kd nu tv), (zaI aS cS 901 fS)] H := hP
          have hD : va_D A [(zo14irriiiiiirriirrrrlriiii m0 th aS aI im (nI a) (nI ((p0 + 1) + 1)) (nI E) 0 0 aB aT se dn aG aO aN aD bv aY rn kd nu tv), (zaI aS cS 901 fS)] := hD
          refine lv_aload_n hx hb dX12_factor_172 rfl (lv_at hl 3 rfl) ?_
          have hPc := hP.sub (ws' := [(zo14irriiiiiirriirrrrlriiii m0 th aS aI im (nI a) (nI ((p0 + 1) + 1)) (nI E) 0 0 aB aT se dn aG aO aN aD bv aY rn kd nu tv), (zaI aS cS 901 fS)]) [0, 1] rfl
          have hDc := hD.sub (ws' := [(zo14irriiiiiirriirrrrlriiii m0 th aS aI im (nI a) (nI ((p0 + 1) + 1)) (nI E) 0 0 aB aT se dn aG aO aN aD bv aY rn kd nu tv), (zaI aS cS 901 fS)]) [0, 1] (by decide) rfl
          have hKc := hK.sub (tys' := [(cS, .int)]) [0] rfl
          have hFc := va_free (wc := [(zo14irriiiiiirriirrrrlriiii m0 th aS aI im (nI a) (nI ((p0 + 1) + 1)) (nI E) 0 0 aB aT se dn aG aO aN aD bv aY rn kd nu tv), (zaI aS cS 901 fS)]) hD hS hA [0, 1] rfl
          refine va_calli (va_runV (As := []) (rest := []) ⟨hx, hb, hml, hown, hts⟩ (c_figures l dC dI m0 aS aI aB aT aG aO aN aD aY th im (nI a) (nI ((p0 + 1) + 1)) (nI E) 0 0 se dn rn kd nu tv bv cS fS a ((p0 + 1) + 1) E ss H.size (by omega) (by omega) (by omega) (Or.inl rfl) (gT)) (cwV 0 hts gX12_factor_X12_figures rfl rfl rfl hd_yX12_figures ⟨Nat.le_of_ble_eq_true rfl, Nat.le_of_ble_eq_true rfl⟩) ⟨fun a U g mk q => by obtain ⟨q0, q1, qP, qK, qD⟩ := q; exact ⟨q0, mvz g mk a q1, mvP g mk a qP, mvK g mk a qK, qD⟩, va_recv hK hP (ci := 14) (q := (RX12, TX12, 23)) (q0 := 0) rfl rfl, fun U hU hW => ⟨rfl, by rw [hU], by rw [hU]; exact hPc, va_K.moved hW.alike hKc, hDc.weaken (fun _ _ _ _ => trivial)⟩⟩ rfl rfl hl.1 rfl (lv_room (Nat.le_of_ble_eq_true rfl)) dX12_factor_173 ⟨Nat.le_of_ble_eq_true rfl, Nat.le_of_ble_eq_true rfl⟩) hS (fun q _ h => hFc q h) hFc (fun r_81 u tC H1 locs htC hvm hw_82 hB hz1 hk1 hS => ?_)
          obtain ⟨sp9_83, wg9_84⟩ := u
          try dsimp only at hw_82 hB
          obtain ⟨hP1, hK1, hD1⟩ := hB
          rw [htC] at hP1
          have hK1 := va_K.moved hvm.symm hK1
          obtain ⟨hP, hD⟩ := va_join (wr := []) (w1 := [(zo14irriiiiiirriirrrrlriiii m0 th aS aI im (nI a) sp9_83 (nI E) wg9_84 0 aB aT se dn aG aO aN aD bv aY rn kd nu tv), (zaI aS cS 901 fS)]) hP hD [0, 1] [] rfl rfl (by decide) (by decide) hk1 hFc hP1 hD1
          have hK := (hK.sub (tys' := []) [] rfl).app hK1
          generalize H1 = H at hP hS ⊢
          have hP : va_P (dC, dI) vwCl [(zo14irriiiiiirriirrrrlriiii m0 th aS aI im (nI a) sp9_83 (nI E) wg9_84 0 aB aT se dn aG aO aN aD bv aY rn kd nu tv), (zaI aS cS 901 fS)] H := hP
          have hD : va_D A [(zo14irriiiiiirriirrrrlriiii m0 th aS aI im (nI a) sp9_83 (nI E) wg9_84 0 aB aT se dn aG aO aN aD bv aY rn kd nu tv), (zaI aS cS 901 fS)] := hD
          have hK : va_K (dC, dI) vwCl [(cS, .int)] s := hK
          rcases hw_82 with ⟨rfl, rfl, hN_92, v_85, h_87, rfl⟩ | ⟨rfl, h_91, v_85, p_86, h_87, h_88, h_89, rfl, rfl, hN_92⟩
          · skip
            have hN := hN_92 rfl
            refine lv_istore (lv' := [(4, .int (nI v_85)), (3, .int (nI j_59)), (2, .int (nI j_33)), (1, .int r_2), (0, .ref m0)]) hx hb dX12_factor_176 hl (by decide) rfl (fun ls hl => ?_)
            refine lv_aload_n hx hb dX12_factor_178 rfl (lv_at hl 4 rfl) ?_
            refine lv_iload_n hx hb dX12_factor_179 rfl (lv_at hl 2 rfl) ?_
            refine lv_bipush (v := 8) hx hb dX12_factor_180 (by decide) ?_
            refine lv_iload_n hx hb dX12_factor_182 rfl (lv_at hl 1 rfl) ?_
            refine lv_imul hx hb dX12_factor_183 ?_
            refine qi_as (y := nI (8 * j_59)) (pk_mul 8 j_59) ?_
            refine lv_iadd hx hb dX12_factor_184 ?_
            refine qi_as (y := nI (j_33 + (8 * j_59))) (nI_add j_33 (8 * j_59)) ?_
            refine lv_bipush (v := 32) hx hb dX12_factor_185 (by decide) ?_
            refine lv_iload hx hb dX12_factor_187 (lv_at hl 0 rfl) ?_
            refine lv_imul hx hb dX12_factor_189 ?_
            refine qi_as (y := nI (32 * v_85)) (pk_mul 32 v_85) ?_
            refine lv_iadd hx hb dX12_factor_190 ?_
            refine qi_as (y := nI ((j_33 + (8 * j_59)) + (32 * v_85))) (nI_add (j_33 + (8 * j_59)) (32 * v_85)) ?_
            have hPc := hP.sub (ws' := [(zo14irriiiiiirriirrrrlriiii m0 th aS aI im (nI a) (nI ((p0 + 1) + 1)) (nI E) 1 0 aB aT se dn aG aO aN aD bv aY rn kd nu tv)]) [0] rfl
            have hKc := hK.sub (tys' := []) [] rfl
            refine va_csv (va_runV (As := [.int (nI ((j_33 + (8 * j_59)) + (32 * v_85)))]) (rest := []) ⟨hx, hb, hml, hown, hts⟩ (c_emitsW l dC dI m0 aS aI aB aT aG aO aN aD aY th im (nI a) (nI ((p0 + 1) + 1)) (nI E) 1 0 se dn rn kd nu tv bv (nI ((j_33 + (8 * j_59)) + (32 * v_85)))) (cwV 1 hts gX12_factor_X12_emits rfl rfl rfl hd_yX12_emits ⟨Nat.le_of_ble_eq_true rfl, Nat.le_of_ble_eq_true rfl⟩) ⟨fun a U g mk q => by obtain ⟨q0, qP, qK⟩ := q; exact ⟨q0, mvP g mk a qP, mvK g mk a qK⟩, va_recv hK hP (ci := 14) (q := (RX12, TX12, 23)) (q0 := 0) rfl rfl, fun U hU hW => ⟨rfl, by rw [hU]; exact hPc, va_K.moved hW.alike hKc⟩⟩ rfl rfl hl.1 rfl (lv_room (Nat.le_of_ble_eq_true rfl)) dX12_factor_191 ⟨Nat.le_of_ble_eq_true rfl, Nat.le_of_ble_eq_true rfl⟩).run (fun hw_94 => ?_)
            rw [hQ]
            have hP9 := hP.sub (ws' := [(zo14irriiiiiirriirrrrlriiii m0 th aS aI im (nI a) (nI ((p0 + 1) + 1)) (nI E) 1 0 aB aT se dn aG aO aN aD bv aY rn kd nu tv), (zaI aS cS 901 fS)]) [0, 1] rfl
            have hD9 := hD.sub (ws' := [(zo14irriiiiiirriirrrrlriiii m0 th aS aI im (nI a) (nI ((p0 + 1) + 1)) (nI E) 1 0 aB aT se dn aG aO aN aD bv aY rn kd nu tv), (zaI aS cS 901 fS)]) [0, 1] (by decide) rfl
            have hK9 := hK.sub (tys' := [(cS, .int)]) [0] rfl
            exact W.vret hx hb hr (fun tQ htQ hWQ => ⟨⟨(fS, (nI ((p0 + 1) + 1)), 1), rfl, ⟨(p0 + 1) + 1, rfl, by omega, by omega, PF.rf, Or.inl ⟨rfl, (pf_t hn33 hn40).trans (pt_3 hx6 hx3 hN)⟩⟩, by rw [htQ]; exact hP9, va_K.moved hWQ.alike hK9, hD9⟩, hS.F htQ⟩) hS.2.2 dX12_factor_194
          · skip
            have hN := hN_92
            refine lv_istore (lv' := [(4, .int (nI v_85)), (3, .int (nI j_59)), (2, .int (nI j_33)), (1, .int r_2), (0, .ref m0)]) hx hb dX12_factor_176 hl (by decide) rfl (fun ls hl => ?_)
            refine lv_aload_n hx hb dX12_factor_178 rfl (lv_at hl 4 rfl) ?_
            refine lv_iload_n hx hb dX12_factor_179 rfl (lv_at hl 2 rfl) ?_
            refine lv_bipush (v := 8) hx hb dX12_factor_180 (by decide) ?_
            refine lv_iload_n hx hb dX12_factor_182 rfl (lv_at hl 1 rfl) ?_
            refine lv_imul hx hb dX12_factor_183 ?_
            refine qi_as (y := nI (8 * j_59)) (pk_mul 8 j_59) ?_
            refine lv_iadd hx hb dX12_factor_184 ?_
            refine qi_as (y := nI (j_33 + (8 * j_59))) (nI_add j_33 (8 * j_59)) ?_
            refine lv_bipush (v := 32) hx hb dX12_factor_185 (by decide) ?_
            refine lv_iload hx hb dX12_factor_187 (lv_at hl 0 rfl) ?_
            refine lv_imul hx hb dX12_factor_189 ?_
            refine qi_as (y := nI (32 * v_85)) (pk_mul 32 v_85) ?_
            refine lv_iadd hx hb dX12_factor_190 ?_
            refine qi_as (y := nI ((j_33 + (8 * j_59)) + (32 * v_85))) (nI_add (j_33 + (8 * j_59)) (32 * v_85)) ?_
            have hPc := hP.sub (ws' := [(zo14irriiiiiirriirrrrlriiii m0 th aS aI im (nI a) (nI p_86) (nI E) 0 0 aB aT se dn aG aO aN aD bv aY rn kd nu tv), (zaI aS cS 901 fS)]) [0, 1] rfl
            have hDc := hD.sub (ws' := [(zo14irriiiiiirriirrrrlriiii m0 th aS aI im (nI a) (nI p_86) (nI E) 0 0 aB aT se dn aG aO aN aD bv aY rn kd nu tv), (zaI aS cS 901 fS)]) [0, 1] (by decide) rfl
            have hKc := hK.sub (tys' := [(cS, .int)]) [0] rfl
            have hFc := va_free (wc := [(zo14irriiiiiirriirrrrlriiii m0 th aS aI im (nI a) (nI p_86) (nI E) 0 0 aB aT se dn aG aO aN aD bv aY rn kd nu tv), (zaI aS cS 901 fS)]) hD hS hA [0, 1] rfl
            refine va_callv (va_runV (As := [.int (nI ((j_33 + (8 * j_59)) + (32 * v_85)))]) (rest := []) ⟨hx, hb, hml, hown, hts⟩ (c_emits l dC dI m0 aS aI aB aT aG aO aN aD aY th im (nI a) (nI p_86) (nI E) 0 0 se dn rn kd nu tv bv cS fS a K.length (nI ((j_33 + (8 * j_59)) + (32 * v_85))) H.size (ga) ((gI).2.2.2.1) (by have := (gI).2.2.2.2.1; omega)) (cwV 1 hts gX12_factor_X12_emits rfl rfl rfl hd_yX12_emits ⟨Nat.le_of_ble_eq_true rfl, Nat.le_of_ble_eq_true rfl⟩) ⟨fun a U g mk q => by obtain ⟨q0, q1, qP, qK, qD⟩ := q; exact ⟨q0, mvz g mk a q1, mvP g mk a qP, mvK g mk a qK, qD⟩, va_recv hK hP (ci := 14) (q := (RX12, TX12, 23)) (q0 := 0) rfl rfl, fun U hU hW => ⟨rfl, by rw [hU], by rw [hU]; exact hPc, va_K.moved hW.alike hKc, hDc.weaken (fun _ _ _ _ => trivial)⟩⟩ rfl rfl hl.1 rfl (lv_room (Nat.le_of_ble_eq_true rfl)) dX12_factor_191 ⟨Nat.le_of_ble_eq_true rfl, Nat.le_of_ble_eq_true rfl⟩) hS (fun q _ h => hFc q h) hFc (fun u tC H1 locs htC hvm hw_96 hB hz1 hk1 hS => ?_)
            obtain ⟨fS9_97, rfl⟩ : ∃ z, z = u := ⟨_, rfl⟩
            try dsimp only at hw_96 hB
            obtain ⟨hP1, hK1, hD1⟩ := hB
            rw [htC] at hP1
            have hK1 := va_K.moved hvm.symm hK1
            obtain ⟨hP, hD⟩ := va_join (wr := []) (w1 := [(zo14irriiiiiirriirrrrlriiii m0 th aS aI im (nI a) (nI p_86) (nI E) 0 0 aB aT se dn aG aO aN aD bv aY rn kd nu tv), (zaI aS cS 901 fS9_97)]) hP hD [0, 1] [] rfl rfl (by decide) (by decide) hk1 hFc hP1 hD1
            have hK := (hK.sub (tys' := []) [] rfl).app hK1
            generalize H1 = H at hP hS ⊢
            have hP : va_P (dC, dI) vwCl [(zo14irriiiiiirriirrrrlriiii m0 th aS aI im (nI a) (nI p_86) (nI E) 0 0 aB aT se dn aG aO aN aD bv aY rn kd nu tv), (zaI aS cS 901 fS9_97)] H := hP
            have hD : va_D A [(zo14irriiiiiirriirrrrlriiii m0 th aS aI im (nI a) (nI p_86) (nI E) 0 0 aB aT se dn aG aO aN aD bv aY rn kd nu tv), (zaI aS cS 901 fS9_97)] := hD
            have hK : va_K (dC, dI) vwCl [(cS, .int)] s := hK
            obtain rfl : fS9_97 = emt fS a K.length (nI ((j_33 + (8 * j_59)) + (32 * v_85))) := by rcases hw_96 with ⟨q, _⟩ | ⟨_, q⟩; exact absurd rfl q; exact q
            have hI_98 : PI (emt fS a K.length (nI ((j_33 + (8 * j_59)) + (32 * v_85)))) a (K ++ [j_33 * 300 + j_59 * 100 + v_85]) (d + 1) p_86 E := PI.em (t := j_33 * 300 + j_59 * 100 + v_85) ((gI).mono (by omega) (by omega)) (by omega) (by omega) (stepd_test (by omega) (by omega) (by omega) (by omega)) (rcd_t (by omega) (by omega) (by omega))
            have hF_99 : PF a fS (emt fS a K.length (nI ((j_33 + (8 * j_59)) + (32 * v_85)))) := (PF.rf).tr (PF_emt (k := K.length) (x := nI ((j_33 + (8 * j_59)) + (32 * v_85))) ga (by have := (gI).2.2.2.2.1; omega))
            have hKhI_98 : (K ++ [j_33 * 300 + j_59 * 100 + v_85]).length = K.length + 1 := by rw [List.length_append]; rfl
            rw [hQ]
            have hP9 := hP.sub (ws' := [(zo14irriiiiiirriirrrrlriiii m0 th aS aI im (nI a) (nI p_86) (nI E) 0 0 aB aT se dn aG aO aN aD bv aY rn kd nu tv), (zaI aS cS 901 (emt fS a K.length (nI ((j_33 + (8 * j_59)) + (32 * v_85)))))]) [0, 1] rfl
            have hD9 := hD.sub (ws' := [(zo14irriiiiiirriirrrrlriiii m0 th aS aI im (nI a) (nI p_86) (nI E) 0 0 aB aT se dn aG aO aN aD bv aY rn kd nu tv), (zaI aS cS 901 (emt fS a K.length (nI ((j_33 + (8 * j_59)) + (32 * v_85)))))]) [0, 1] (by decide) rfl
            have hK9 := hK.sub (tys' := [(cS, .int)]) [0] rfl
            exact W.vret hx hb hr (fun tQ htQ hWQ => ⟨⟨((emt fS a K.length (nI ((j_33 + (8 * j_59)) + (32 * v_85)))), (nI p_86), 0), rfl, ⟨p_86, rfl, by omega, by omega, hF_99, Or.inr ⟨rfl, [j_33 * 300 + j_59 * 100 + v_85], (pf_t hn33 hn40).trans (pt_4 hx6 hx3 hN), by omega, (hI_98).mono (by omega) (by omega), by (try simp only [List.length_append, List.length_cons, List.length_nil]); omega⟩⟩, by rw [htQ]; exact hP9, va_K.moved hWQ.alike hK9, hD9⟩, hS.F htQ⟩) hS.2.2 dX12_factor_194
    · skip
      subst c_29
      have hs : ss p0 = 40 := (gT.eq (c := 40) (by omega) (by omega)).mp hw_3.symm
      have hlt : p0 < E := Nat.lt_of_not_le (fun z => by have := gT.2.1 p0 z; omega)
      refine lv_aload_n hx hb dX12_factor_25 rfl (lv_at hl 1 rfl) ?_
      refine lv_aload_n hx hb dX12_factor_26 rfl (lv_at hl 1 rfl) ?_
      refine va_get (D := (dC, dI)) (ci := 14) (v := .int 0) (C := RX12) (T := TX12) (N := 23) hx hb hts kc_factor0_0 hown hK hP 0 rfl rfl 8 (by decide) (hts (.fieldLink RX12 89 "MistHeapsModel" "open" "I") kc_factor0_2) (fun _ h9 => h9) rfl dX12_factor_27 ?_
      refine lv_iconst (v := 5) hx hb dX12_factor_30 (by decide) ?_
      refine lv_icmp_ne (tgt := 38) hx hb dX12_factor_31 (by decide) (fun _ => ?_) (fun c_100 => absurd c_100 (by decide))
      refine lv_iconst (v := 0) hx hb dX12_factor_38 (by decide) ?_
      refine va_put (D := (dC, dI)) (ci := 14) (v := .int 0) (ty := .boolean) (C := RX12) (T := TX12) (N := 23) hx hb hts kc_factor0_0 tyX12 tyX12_ok nmX12 hown hK hP hD hS 0 rfl rfl 7 (by decide) (hts (.fieldLink RX12 65 "MistHeapsModel" "isWrong" "Z") kc_factor0_1) (fun _ h9 => h9) rfl (by decide +kernel) rfl rfl (Nat.le_of_ble_eq_true rfl) dX12_factor_39 (fun H locs hP hD hS => ?_)
      have hP : va_P (dC, dI) vwCl [(zo14irriiiiiirriirrrrlriiii m0 th aS aI im (nI a) (nI p0) (nI E) 0 0 aB aT se dn aG aO aN aD bv aY rn kd nu tv), (zaI aS cS 901 fS)] H := hP
      have hD : va_D A [(zo14irriiiiiirriirrrrlriiii m0 th aS aI im (nI a) (nI p0) (nI E) 0 0 aB aT se dn aG aO aN aD bv aY rn kd nu tv), (zaI aS cS 901 fS)] := hD
      refine lv_aload_n hx hb dX12_factor_42 rfl (lv_at hl 1 rfl) ?_
      refine lv_dup hx hb dX12_factor_43 rfl ?_
      refine va_get (D := (dC, dI)) (ci := 14) (v := .int 0) (C := RX12) (T := TX12) (N := 23) hx hb hts kc_factor0_0 hown hK hP 0 rfl rfl 8 (by decide) (hts (.fieldLink RX12 89 "MistHeapsModel" "open" "I") kc_factor0_2) (fun _ h9 => h9) rfl dX12_factor_44 ?_
      refine lv_iconst (v := 1) hx hb dX12_factor_47 (by decide) ?_
      refine lv_iadd hx hb dX12_factor_48 ?_
      refine qi_as (y := 1) (by decide) ?_
      refine va_put (D := (dC, dI)) (ci := 14) (v := .int 1) (ty := .int) (C := RX12) (T := TX12) (N := 23) hx hb hts kc_factor0_0 tyX12 tyX12_ok nmX12 hown hK hP hD hS 0 rfl rfl 8 (by decide) (hts (.fieldLink RX12 89 "MistHeapsModel" "open" "I") kc_factor0_2) (fun _ h9 => h9) rfl (by decide +kernel) rfl rfl (Nat.le_of_ble_eq_true rfl) dX12_factor_49 (fun H locs hP hD hS => ?_)
      have hP : va_P (dC, dI) vwCl [(zo14irriiiiiirriirrrrlriiii m0 th aS aI im (nI a) (nI p0) (nI E) 0 1 aB aT se dn aG aO aN aD bv aY rn kd nu tv), (zaI aS cS 901 fS)] H := hP
      have hD : va_D A [(zo14irriiiiiirriirrrrlriiii m0 th aS aI im (nI a) (nI p0) (nI E) 0 1 aB aT se dn aG aO aN aD bv aY rn kd nu tv), (zaI aS cS 901 fS)] := hD
      refine lv_aload_n hx hb dX12_factor_52 rfl (lv_at hl 1 rfl) ?_
      refine lv_dup hx hb dX12_factor_53 rfl ?_
      refine va_get (D := (dC, dI)) (ci := 14) (v := .int (nI p0)) (C := RX12) (T := TX12) (N := 23) hx hb hts kc_factor0_0 hown hK hP 0 rfl rfl 5 (by decide) (hts (.fieldLink RX12 59 "MistHeapsModel" "spot" "I") kc_factor0_3) (fun _ h9 => h9) rfl dX12_factor_54 ?_
      refine lv_aload_n hx hb dX12_factor_57 rfl (lv_at hl 1 rfl) ?_
      refine va_get (D := (dC, dI)) (ci := 14) (v := .int 0) (C := RX12) (T := TX12) (N := 23) hx hb hts kc_factor0_0 hown hK hP 0 rfl rfl 7 (by decide) (hts (.fieldLink RX12 65 "MistHeapsModel" "isWrong" "Z") kc_factor0_1) (fun _ h9 => h9) rfl dX12_factor_58 ?_
      refine lv_if_eq (tgt := 68) hx hb dX12_factor_61 (by decide) (fun _ => ?_) (fun c_101 => absurd c_101 (by decide))
      refine lv_iconst (v := 1) hx hb dX12_factor_68 (by decide) ?_
      refine lv_iadd hx hb dX12_factor_69 ?_
      refine qi_as (y := nI (p0 + 1)) (nI_add p0 1) ?_
      refine va_put (D := (dC, dI)) (ci := 14) (v := .int (nI (p0 + 1))) (ty := .int) (C := RX12) (T := TX12) (N := 23) hx hb hts kc_factor0_0 tyX12 tyX12_ok nmX12 hown hK hP hD hS 0 rfl rfl 5 (by decide) (hts (.fieldLink RX12 59 "MistHeapsModel" "spot" "I") kc_factor0_3) (fun _ h9 => h9) rfl (by decide +kernel) rfl rfl (Nat.le_of_ble_eq_true rfl) dX12_factor_70 (fun H locs hP hD hS => ?_)
      have hP : va_P (dC, dI) vwCl [(zo14irriiiiiirriirrrrlriiii m0 th aS aI im (nI a) (nI (p0 + 1)) (nI E) 0 1 aB aT se dn aG aO aN aD bv aY rn kd nu tv), (zaI aS cS 901 fS)] H := hP
      have hD : va_D A [(zo14irriiiiiirriirrrrlriiii m0 th aS aI im (nI a) (nI (p0 + 1)) (nI E) 0 1 aB aT se dn aG aO aN aD bv aY rn kd nu tv), (zaI aS cS 901 fS)] := hD
      refine lv_iload_n hx hb dX12_factor_73 rfl (lv_at hl 0 rfl) ?_
      refine lv_bipush (v := 33) hx hb dX12_factor_74 (by decide) ?_
      refine lv_icmp_ne (tgt := 91) hx hb dX12_factor_76 (by decide) (fun _ => ?_) (fun c_102 => absurd c_102 (by decide))
      refine lv_aload_n hx hb dX12_factor_91 rfl (lv_at hl 1 rfl) ?_
      have hPc := hP.sub (ws' := [(zo14irriiiiiirriirrrrlriiii m0 th aS aI im (nI a) (nI (p0 + 1)) (nI E) 0 1 aB aT se dn aG aO aN aD bv aY rn kd nu tv), (zaI aS cS 901 fS)]) [0, 1] rfl
      have hDc := hD.sub (ws' := [(zo14irriiiiiirriirrrrlriiii m0 th aS aI im (nI a) (nI (p0 + 1)) (nI E) 0 1 aB aT se dn aG aO aN aD bv aY rn kd nu tv), (zaI aS cS 901 fS)]) [0, 1] (by decide) rfl
      have hKc := hK.sub (tys' := [(cS, .int)]) [0] rfl
      have hFc := va_free (wc := [(zo14irriiiiiirriirrrrlriiii m0 th aS aI im (nI a) (nI (p0 + 1)) (nI E) 0 1 aB aT se dn aG aO aN aD bv aY rn kd nu tv), (zaI aS cS 901 fS)]) hD hS hA [0, 1] rfl
      refine va_callv (va_runV (As := []) (rest := []) ⟨hx, hb, hml, hown, hts⟩ (c_some1 l dC dI sK sV m0 aS aI aB aT aG aO aN aD aY th im (nI a) (nI (p0 + 1)) (nI E) 0 1 se dn rn kd nu tv bv cS fS a (p0 + 1) E K d ss H.size ((gI).mono (by omega) (by omega)) (gT)) (cwV 0 hts gX12_factor_X12_some rfl rfl rfl hd_yX12_some ⟨Nat.le_of_ble_eq_true rfl, Nat.le_of_ble_eq_true rfl⟩) ⟨fun a U g mk q => by obtain ⟨q0, q1, qP, qK, qD, qhE⟩ := q; exact ⟨q0, mvz g mk a q1, mvP g mk a qP, mvK g mk a qK, qD, qhE.mv g mk a⟩, va_recv hK hP (ci := 14) (q := (RX12, TX12, 23)) (q0 := 0) rfl rfl, fun U hU hW => ⟨rfl, by rw [hU], by rw [hU]; exact hPc, va_K.moved hW.alike hKc, hDc.weaken (fun _ _ _ _ => trivial), hE.call hS hU hW (fun q h => hFc q h)⟩⟩ rfl rfl hl.1 rfl (lv_room (Nat.le_of_ble_eq_true rfl)) dX12_factor_92 ⟨Nat.le_of_ble_eq_true rfl, Nat.le_of_ble_eq_true rfl⟩) hS (fun q _ h => hFc q h) hFc (fun u tC H1 locs htC hvm hw_104 hB hz1 hk1 hS => ?_)
      obtain ⟨fS9_105, sp9_106, wg9_107⟩ := u
      try dsimp only at hw_104 hB
      obtain ⟨hP1, hK1, hD1⟩ := hB
      rw [htC] at hP1
      have hK1 := va_K.moved hvm.symm hK1
      obtain ⟨hP, hD⟩ := va_join (wr := []) (w1 := [(zo14irriiiiiirriirrrrlriiii m0 th aS aI im (nI a) sp9_106 (nI E) wg9_107 1 aB aT se dn aG aO aN aD bv aY rn kd nu tv), (zaI aS cS 901 fS9_105)]) hP hD [0, 1] [] rfl rfl (by decide) (by decide) hk1 hFc hP1 hD1
      have hK := (hK.sub (tys' := []) [] rfl).app hK1
      generalize H1 = H at hP hS ⊢
      have hP : va_P (dC, dI) vwCl [(zo14irriiiiiirriirrrrlriiii m0 th aS aI im (nI a) sp9_106 (nI E) wg9_107 1 aB aT se dn aG aO aN aD bv aY rn kd nu tv), (zaI aS cS 901 fS9_105)] H := hP
      have hD : va_D A [(zo14irriiiiiirriirrrrlriiii m0 th aS aI im (nI a) sp9_106 (nI E) wg9_107 1 aB aT se dn aG aO aN aD bv aY rn kd nu tv), (zaI aS cS 901 fS9_105)] := hD
      have hK : va_K (dC, dI) vwCl [(cS, .int)] s := hK
      obtain ⟨p_108, rfl, h_111, h_112, hF_113, q9⟩ := hw_104
      rcases q9 with ⟨rfl, eP_110⟩ | ⟨rfl, L_109, eP_110, h_114, hI_115, h_116⟩
      · skip
        refine lv_aload_n hx hb dX12_factor_95 rfl (lv_at hl 1 rfl) ?_
        refine lv_bipush (v := 41) hx hb dX12_factor_96 (by decide) ?_
        have hPc := hP.sub (ws' := [(zo14irriiiiiirriirrrrlriiii m0 th aS aI im (nI a) (nI p_108) (nI E) 1 1 aB aT se dn aG aO aN aD bv aY rn kd nu tv), (zaI aS cS 901 fS9_105)]) [0, 1] rfl
        have hDc := hD.sub (ws' := [(zo14irriiiiiirriirrrrlriiii m0 th aS aI im (nI a) (nI p_108) (nI E) 1 1 aB aT se dn aG aO aN aD bv aY rn kd nu tv), (zaI aS cS 901 fS9_105)]) [0, 1] (by decide) rfl
        have hKc := hK.sub (tys' := [(cS, .int)]) [0] rfl
        have hFc := va_free (wc := [(zo14irriiiiiirriirrrrlriiii m0 th aS aI im (nI a) (nI p_108) (nI E) 1 1 aB aT se dn aG aO aN aD bv aY rn kd nu tv), (zaI aS cS 901 fS9_105)]) hD hS hA [0, 1] rfl
        refine va_callv (va_runV (As := [.int 41]) (rest := []) ⟨hx, hb, hml, hown, hts⟩ (c_must l dC dI m0 aS aI aB aT aG aO aN aD aY th im (nI a) (nI p_108) (nI E) 1 1 se dn rn kd nu tv bv cS fS9_105 a p_108 E 41 H.size (by omega) (by omega) (by omega) (Or.inr rfl) (by decide)) (cwV 1 hts gX12_factor_X12_must rfl rfl rfl hd_yX12_must ⟨Nat.le_of_ble_eq_true rfl, Nat.le_of_ble_eq_true rfl⟩) ⟨fun a U g mk q => by obtain ⟨q0, q1, qP, qK, qD⟩ := q; exact ⟨q0, mvz g mk a q1, mvP g mk a qP, mvK g mk a qK, qD⟩, va_recv hK hP (ci := 14) (q := (RX12, TX12, 23)) (q0 := 0) rfl rfl, fun U hU hW => ⟨rfl, by rw [hU], by rw [hU]; exact hPc, va_K.moved hW.alike hKc, hDc.weaken (fun _ _ _ _ => trivial)⟩⟩ rfl rfl hl.1 rfl (lv_room (Nat.le_of_ble_eq_true rfl)) dX12_factor_98 ⟨Nat.le_of_ble_eq_true rfl, Nat.le_of_ble_eq_true rfl⟩) hS (fun q _ h => hFc q h) hFc (fun u tC H1 locs htC hvm hw_118 hB hz1 hk1 hS => ?_)
        obtain ⟨sp9_119, wg9_120⟩ := u
        try dsimp only at hw_118 hB
        obtain ⟨hP1, hK1, hD1⟩ := hB
        rw [htC] at hP1
        have hK1 := va_K.moved hvm.symm hK1
        obtain ⟨hP, hD⟩ := va_join (wr := []) (w1 := [(zo14irriiiiiirriirrrrlriiii m0 th aS aI im (nI a) sp9_119 (nI E) wg9_120 1 aB aT se dn aG aO aN aD bv aY rn kd nu tv), (zaI aS cS 901 fS9_105)]) hP hD [0, 1] [] rfl rfl (by decide) (by decide) hk1 hFc hP1 hD1
        have hK := (hK.sub (tys' := []) [] rfl).app hK1
        generalize H1 = H at hP hS ⊢
        have hP : va_P (dC, dI) vwCl [(zo14irriiiiiirriirrrrlriiii m0 th aS aI im (nI a) sp9_119 (nI E) wg9_120 1 aB aT se dn aG aO aN aD bv aY rn kd nu tv), (zaI aS cS 901 fS9_105)] H := hP
        have hD : va_D A [(zo14irriiiiiirriirrrrlriiii m0 th aS aI im (nI a) sp9_119 (nI E) wg9_120 1 aB aT se dn aG aO aN aD bv aY rn kd nu tv), (zaI aS cS 901 fS9_105)] := hD
        have hK : va_K (dC, dI) vwCl [(cS, .int)] s := hK
        obtain ⟨rfl, rfl⟩ : _ ∧ _ := by rcases hw_118 with ⟨q, q2, _⟩ | ⟨_, q, _⟩; exact ⟨q, q2⟩; exact absurd q (by decide)
        refine lv_aload_n hx hb dX12_factor_101 rfl (lv_at hl 1 rfl) ?_
        refine lv_dup hx hb dX12_factor_102 rfl ?_
        refine va_get (D := (dC, dI)) (ci := 14) (v := .int 1) (C := RX12) (T := TX12) (N := 23) hx hb hts kc_factor0_0 hown hK hP 0 rfl rfl 8 (by decide) (hts (.fieldLink RX12 89 "MistHeapsModel" "open" "I") kc_factor0_2) (fun _ h9 => h9) rfl dX12_factor_103 ?_
        refine lv_iconst (v := 1) hx hb dX12_factor_106 (by decide) ?_
        refine lv_isub hx hb dX12_factor_107 ?_
        refine qi_as (y := 0) (by decide) ?_
        refine va_put (D := (dC, dI)) (ci := 14) (v := .int 0) (ty := .int) (C := RX12) (T := TX12) (N := 23) hx hb hts kc_factor0_0 tyX12 tyX12_ok nmX12 hown hK hP hD hS 0 rfl rfl 8 (by decide) (hts (.fieldLink RX12 89 "MistHeapsModel" "open" "I") kc_factor0_2) (fun _ h9 => h9) rfl (by decide +kernel) rfl rfl (Nat.le_of_ble_eq_true rfl) dX12_factor_108 (fun H locs hP hD hS => ?_)
        have hP : va_P (dC, dI) vwCl [(zo14irriiiiiirriirrrrlriiii m0 th aS aI im (nI a) (nI p_108) (nI E) 1 0 aB aT se dn aG aO aN aD bv aY rn kd nu tv), (zaI aS cS 901 fS9_105)] H := hP
        have hD : va_D A [(zo14irriiiiiirriirrrrlriiii m0 th aS aI im (nI a) (nI p_108) (nI E) 1 0 aB aT se dn aG aO aN aD bv aY rn kd nu tv), (zaI aS cS 901 fS9_105)] := hD
        rw [hQ]
        have hP9 := hP.sub (ws' := [(zo14irriiiiiirriirrrrlriiii m0 th aS aI im (nI a) (nI p_108) (nI E) 1 0 aB aT se dn aG aO aN aD bv aY rn kd nu tv), (zaI aS cS 901 fS9_105)]) [0, 1] rfl
        have hD9 := hD.sub (ws' := [(zo14irriiiiiirriirrrrlriiii m0 th aS aI im (nI a) (nI p_108) (nI E) 1 0 aB aT se dn aG aO aN aD bv aY rn kd nu tv), (zaI aS cS 901 fS9_105)]) [0, 1] (by decide) rfl
        have hK9 := hK.sub (tys' := [(cS, .int)]) [0] rfl
        exact W.vret hx hb hr (fun tQ htQ hWQ => ⟨⟨(fS9_105, (nI p_108), 1), rfl, ⟨p_108, rfl, by omega, by omega, (PF.rf).tr hF_113, Or.inl ⟨rfl, pf_b0 (l := 4) hs eP_110⟩⟩, by rw [htQ]; exact hP9, va_K.moved hWQ.alike hK9, hD9⟩, hS.F htQ⟩) hS.2.2 dX12_factor_111
      · skip
        have k5 := hI_115.2.2.2.2.1
        have hqL_109 : (K ++ L_109).length = K.length + L_109.length := List.length_append
        refine lv_aload_n hx hb dX12_factor_95 rfl (lv_at hl 1 rfl) ?_
        refine lv_bipush (v := 41) hx hb dX12_factor_96 (by decide) ?_
        have hPc := hP.sub (ws' := [(zo14irriiiiiirriirrrrlriiii m0 th aS aI im (nI a) (nI p_108) (nI E) 0 1 aB aT se dn aG aO aN aD bv aY rn kd nu tv), (zaI aS cS 901 fS9_105)]) [0, 1] rfl
        have hDc := hD.sub (ws' := [(zo14irriiiiiirriirrrrlriiii m0 th aS aI im (nI a) (nI p_108) (nI E) 0 1 aB aT se dn aG aO aN aD bv aY rn kd nu tv), (zaI aS cS 901 fS9_105)]) [0, 1] (by decide) rfl
        have hKc := hK.sub (tys' := [(cS, .int)]) [0] rfl
        have hFc := va_free (wc := [(zo14irriiiiiirriirrrrlriiii m0 th aS aI im (nI a) (nI p_108) (nI E) 0 1 aB aT se dn aG aO aN aD bv aY rn kd nu tv), (zaI aS cS 901 fS9_105)]) hD hS hA [0, 1] rfl
        refine va_callv (va_runV (As := [.int 41]) (rest := []) ⟨hx, hb, hml, hown, hts⟩ (c_must l dC dI m0 aS aI aB aT aG aO aN aD aY th im (nI a) (nI p_108) (nI E) 0 1 se dn rn kd nu tv bv cS fS9_105 a p_108 E 41 H.size (by omega) (by omega) (by omega) (Or.inl rfl) (by decide)) (cwV 1 hts gX12_factor_X12_must rfl rfl rfl hd_yX12_must ⟨Nat.le_of_ble_eq_true rfl, Nat.le_of_ble_eq_true rfl⟩) ⟨fun a U g mk q => by obtain ⟨q0, q1, qP, qK, qD⟩ := q; exact ⟨q0, mvz g mk a q1, mvP g mk a qP, mvK g mk a qK, qD⟩, va_recv hK hP (ci := 14) (q := (RX12, TX12, 23)) (q0 := 0) rfl rfl, fun U hU hW => ⟨rfl, by rw [hU], by rw [hU]; exact hPc, va_K.moved hW.alike hKc, hDc.weaken (fun _ _ _ _ => trivial)⟩⟩ rfl rfl hl.1 rfl (lv_room (Nat.le_of_ble_eq_true rfl)) dX12_factor_98 ⟨Nat.le_of_ble_eq_true rfl, Nat.le_of_ble_eq_true rfl⟩) hS (fun q _ h => hFc q h) hFc (fun u tC H1 locs htC hvm hw_122 hB hz1 hk1 hS => ?_)
        obtain ⟨sp9_123, wg9_124⟩ := u
        try dsimp only at hw_122 hB
        obtain ⟨hP1, hK1, hD1⟩ := hB
        rw [htC] at hP1
        have hK1 := va_K.moved hvm.symm hK1
        obtain ⟨hP, hD⟩ := va_join (wr := []) (w1 := [(zo14irriiiiiirriirrrrlriiii m0 th aS aI im (nI a) sp9_123 (nI E) wg9_124 1 aB aT se dn aG aO aN aD bv aY rn kd nu tv), (zaI aS cS 901 fS9_105)]) hP hD [0, 1] [] rfl rfl (by decide) (by decide) hk1 hFc hP1 hD1
        have hK := (hK.sub (tys' := []) [] rfl).app hK1
        generalize H1 = H at hP hS ⊢
        have hP : va_P (dC, dI) vwCl [(zo14irriiiiiirriirrrrlriiii m0 th aS aI im (nI a) sp9_123 (nI E) wg9_124 1 aB aT se dn aG aO aN aD bv aY rn kd nu tv), (zaI aS cS 901 fS9_105)] H := hP
        have hD : va_D A [(zo14irriiiiiirriirrrrlriiii m0 th aS aI im (nI a) sp9_123 (nI E) wg9_124 1 aB aT se dn aG aO aN aD bv aY rn kd nu tv), (zaI aS cS 901 fS9_105)] := hD
        have hK : va_K (dC, dI) vwCl [(cS, .int)] s := hK
        rcases hw_122 with ⟨rfl, rfl, h_125⟩ | ⟨rfl, _, h_125, h_126, rfl⟩
        · skip
          have hn41 : ¬ ss (p_108) = 41 := fun z => h_125 rfl ((((TP_PF gT gE ((PF.rf).tr hF_113))).eq (c := 41) (by omega) (by omega)).mpr z)
          refine lv_aload_n hx hb dX12_factor_101 rfl (lv_at hl 1 rfl) ?_
          refine lv_dup hx hb dX12_factor_102 rfl ?_
          refine va_get (D := (dC, dI)) (ci := 14) (v := .int 1) (C := RX12) (T := TX12) (N := 23) hx hb hts kc_factor0_0 hown hK hP 0 rfl rfl 8 (by decide) (hts (.fieldLink RX12 89 "MistHeapsModel" "open" "I") kc_factor0_2) (fun _ h9 => h9) rfl dX12_factor_103 ?_
          refine lv_iconst (v := 1) hx hb dX12_factor_106 (by decide) ?_
          refine lv_isub hx hb dX12_factor_107 ?_
          refine qi_as (y := 0) (by decide) ?_
          refine va_put (D := (dC, dI)) (ci := 14) (v := .int 0) (ty := .int) (C := RX12) (T := TX12) (N := 23) hx hb hts kc_factor0_0 tyX12 tyX12_ok nmX12 hown hK hP hD hS 0 rfl rfl 8 (by decide) (hts (.fieldLink RX12 89 "MistHeapsModel" "open" "I") kc_factor0_2) (fun _ h9 => h9) rfl (by decide +kernel) rfl rfl (Nat.le_of_ble_eq_true rfl) dX12_factor_108 (fun H locs hP hD hS => ?_)
          have hP : va_P (dC, dI) vwCl [(zo14irriiiiiirriirrrrlriiii m0 th aS aI im (nI a) (nI p_108) (nI E) 1 0 aB aT se dn aG aO aN aD bv aY rn kd nu tv), (zaI aS cS 901 fS9_105)] H := hP
          have hD : va_D A [(zo14irriiiiiirriirrrrlriiii m0 th aS aI im (nI a) (nI p_108) (nI E) 1 0 aB aT se dn aG aO aN aD bv aY rn kd nu tv), (zaI aS cS 901 fS9_105)] := hD
          rw [hQ]
          have hP9 := hP.sub (ws' := [(zo14irriiiiiirriirrrrlriiii m0 th aS aI im (nI a) (nI p_108) (nI E) 1 0 aB aT se dn aG aO aN aD bv aY rn kd nu tv), (zaI aS cS 901 fS9_105)]) [0, 1] rfl
          have hD9 := hD.sub (ws' := [(zo14irriiiiiirriirrrrlriiii m0 th aS aI im (nI a) (nI p_108) (nI E) 1 0 aB aT se dn aG aO aN aD bv aY rn kd nu tv), (zaI aS cS 901 fS9_105)]) [0, 1] (by decide) rfl
          have hK9 := hK.sub (tys' := [(cS, .int)]) [0] rfl
          exact W.vret hx hb hr (fun tQ htQ hWQ => ⟨⟨(fS9_105, (nI p_108), 1), rfl, ⟨p_108, rfl, by omega, by omega, (PF.rf).tr hF_113, Or.inl ⟨rfl, pf_b1 (l := 4) hs eP_110 hn41⟩⟩, by rw [htQ]; exact hP9, va_K.moved hWQ.alike hK9, hD9⟩, hS.F htQ⟩) hS.2.2 dX12_factor_111
        · skip
          have hs41 : ss (p_108) = 41 := (((TP_PF gT gE ((PF.rf).tr hF_113))).eq (c := 41) (by omega) (by omega)).mp h_125
          refine lv_aload_n hx hb dX12_factor_101 rfl (lv_at hl 1 rfl) ?_
          refine lv_dup hx hb dX12_factor_102 rfl ?_
          refine va_get (D := (dC, dI)) (ci := 14) (v := .int 1) (C := RX12) (T := TX12) (N := 23) hx hb hts kc_factor0_0 hown hK hP 0 rfl rfl 8 (by decide) (hts (.fieldLink RX12 89 "MistHeapsModel" "open" "I") kc_factor0_2) (fun _ h9 => h9) rfl dX12_factor_103 ?_
          refine lv_iconst (v := 1) hx hb dX12_factor_106 (by decide) ?_
          refine lv_isub hx hb dX12_factor_107 ?_
          refine qi_as (y := 0) (by decide) ?_
          refine va_put (D := (dC, dI)) (ci := 14) (v := .int 0) (ty := .int) (C := RX12) (T := TX12) (N := 23) hx hb hts kc_factor0_0 tyX12 tyX12_ok nmX12 hown hK hP hD hS 0 rfl rfl 8 (by decide) (hts (.fieldLink RX12 89 "MistHeapsModel" "open" "I") kc_factor0_2) (fun _ h9 => h9) rfl (by decide +kernel) rfl rfl (Nat.le_of_ble_eq_true rfl) dX12_factor_108 (fun H locs hP hD hS => ?_)
          have hP : va_P (dC, dI) vwCl [(zo14irriiiiiirriirrrrlriiii m0 th aS aI im (nI a) (nI (p_108 + 1)) (nI E) 0 0 aB aT se dn aG aO aN aD bv aY rn kd nu tv), (zaI aS cS 901 fS9_105)] H := hP
          have hD : va_D A [(zo14irriiiiiirriirrrrlriiii m0 th aS aI im (nI a) (nI (p_108 + 1)) (nI E) 0 0 aB aT se dn aG aO aN aD bv aY rn kd nu tv), (zaI aS cS 901 fS9_105)] := hD
          rw [hQ]
          have hP9 := hP.sub (ws' := [(zo14irriiiiiirriirrrrlriiii m0 th aS aI im (nI a) (nI (p_108 + 1)) (nI E) 0 0 aB aT se dn aG aO aN aD bv aY rn kd nu tv), (zaI aS cS 901 fS9_105)]) [0, 1] rfl
          have hD9 := hD.sub (ws' := [(zo14irriiiiiirriirrrrlriiii m0 th aS aI im (nI a) (nI (p_108 + 1)) (nI E) 0 0 aB aT se dn aG aO aN aD bv aY rn kd nu tv), (zaI aS cS 901 fS9_105)]) [0, 1] (by decide) rfl
          have hK9 := hK.sub (tys' := [(cS, .int)]) [0] rfl
          exact W.vret hx hb hr (fun tQ htQ hWQ => ⟨⟨(fS9_105, (nI (p_108 + 1)), 0), rfl, ⟨p_108 + 1, rfl, by omega, by omega, (PF.rf).tr hF_113, Or.inr ⟨rfl, L_109, pf_b2 (l := 4) hs eP_110 hs41, by omega, (hI_115).mono (by omega) (by omega), by (try simp only [List.length_append, List.length_cons, List.length_nil]); omega⟩⟩, by rw [htQ]; exact hP9, va_K.moved hWQ.alike hK9, hD9⟩, hS.F htQ⟩) hS.2.2 dX12_factor_111

theorem kc_every0_0 : ∀ w ∈ wsX120, w ∈ wsX12_every := fun w h => List.mem_cons_of_mem _ (gin_wsX120 w h)
theorem kc_every0_1 : (.fieldLink RX12 65 "MistHeapsModel" "isWrong" "Z" : Cond) ∈ wsX12_every := kc_of 1147 rfl rfl rfl
theorem kc_every0_2 : (.fieldLink RX12 59 "MistHeapsModel" "spot" "I" : Cond) ∈ wsX12_every := kc_of 1145 rfl rfl rfl
set_option maxHeartbeats 4000000 in
set_option maxRecDepth 100000 in
theorem c_every0 (l : Launch) (dC : Nat → ClassId) (dI : Nat → Nat → Nat) (sK sV : Nat → Nat) (m0 aS aI aB aT aG aO aN aD aY : Nat) (th im ac sp en wg op se dn rn kd nu tv : Int32) (bv : Int64) (cS : ClassId) (fS : Nat → Int32) (a p0 E : Nat) (K : List Nat) (d : Nat) (ss : Nat → Nat) (sz : Nat) (gI : PI fS a K d p0 E) (gT : TP fS E ss) : Met l yX12_every wsX12_every ({ frames := 21, cells := 0, slots := 0, locals := 451 } : Room) (va_Pc [.ref m0] (fun U => U.heap.size = sz ∧ va_P (dC, dI) vwCl [(zo14irriiiiiirriirrrrlriiii m0 th aS aI im (nI a) (nI p0) (nI E) 0 0 aB aT se dn aG aO aN aD bv aY rn kd nu tv), (zaI aS cS 901 fS)] U.heap ∧ va_K (dC, dI) vwCl [(cS, .int)] U ∧ va_D (fun _ => True) [(zo14irriiiiiirriirrrrlriiii m0 th aS aI im (nI a) (nI p0) (nI E) 0 0 aB aT se dn aG aO aN aD bv aY rn kd nu tv), (zaI aS cS 901 fS)] ∧ Gs sK sV (va_A [(zo14irriiiiiirriirrrrlriiii m0 th aS aI im (nI a) (nI p0) (nI E) 0 0 aB aT se dn aG aO aN aD bv aY rn kd nu tv), (zaI aS cS 901 fS)] sz) U)) (va_Qv (fun (u : (Nat → Int32) × (Int32) × (Int32)) => match u with | (fS9, sp9, wg9) => ∃ p9 : Nat, sp9 = nI p9 ∧ p0 ≤ p9 ∧ p9 ≤ E ∧ PF a fS fS9 ∧ ((wg9 = 1 ∧ pEv ss (pFac ss 5) p0 = (none, p9)) ∨ (wg9 = 0 ∧ ∃ L : List Nat, pEv ss (pFac ss 5) p0 = (some L, p9) ∧ p0 + 3 ≤ p9 ∧ PI fS9 a (K ++ L) (d + 1) p9 E ∧ L.length + p0 ≤ p9))) (fun (u : (Nat → Int32) × (Int32) × (Int32)) (t : State) => match u with | (fS9, sp9, wg9) => va_P (dC, dI) vwCl [(zo14irriiiiiirriirrrrlriiii m0 th aS aI im (nI a) sp9 (nI E) wg9 0 aB aT se dn aG aO aN aD bv aY rn kd nu tv), (zaI aS cS 901 fS9)] t.heap ∧ va_K (dC, dI) vwCl [(cS, .int)] t ∧ va_D (va_A [(zo14irriiiiiirriirrrrlriiii m0 th aS aI im (nI a) (nI p0) (nI E) 0 0 aB aT se dn aG aO aN aD bv aY rn kd nu tv), (zaI aS cS 901 fS)] sz) [(zo14irriiiiiirriirrrrlriiii m0 th aS aI im (nI a) sp9 (nI E) wg9 0 aB aT se dn aG aO aN aD bv aY rn kd nu tv), (zaI aS cS 901 fS9)]) (va_A [(zo14irriiiiiirriirrrrlriiii m0 th aS aI im (nI a) (nI p0) (nI E) 0 0 aB aT se dn aG aO aN aD bv aY rn kd nu tv), (zaI aS cS 901 fS)] sz)) 0 0 (va_A [(zo14irriiiiiirriirrrrlriiii m0 th aS aI im (nI a) (nI p0) (nI E) 0 0 aB aT se dn aG aO aN aD bv aY rn kd nu tv), (zaI aS cS 901 fS)] sz) := by
  refine met_ofQ (cc := cX12_every) (maxL := 1) (ret := none) (by decide) rfl ?_
  intro p e s m args below meth c s₁ Q B hml hv hQ
  obtain ⟨rfl, hsz, hP, hK, hD0, hE⟩ := hv
  have hx := B.exec
  have hb := B.bytes
  have hr := B.returns
  have hts := atoms_spec (ws := wsX12_every) B.pre
  have hown : s.vm.findClass RX12 = some m.cls := findClass_of_methodNamed B.named
  have hlocks := B.notSynchronized
  subst hsz
  have hD := hD0.self (sz := s.heap.size)
  generalize hAe : va_A [(zo14irriiiiiirriirrrrlriiii m0 th aS aI im (nI a) (nI p0) (nI E) 0 0 aB aT se dn aG aO aN aD bv aY rn kd nu tv), (zaI aS cS 901 fS)] s.heap.size = A at hD hQ hE ⊢
  have hA : ∀ q : Nat, s.heap.size ≤ q → A q := fun q h => by rw [← hAe]; exact Or.inr h
  have hS : va_S A s.heap s.heap [] := va_S.rf
  have hl := lv_entry [.ref m0] (n := 1) (Nat.le_of_ble_eq_true rfl)
  rw [lg_entry_eq]
  generalize (lg_sl [.ref m0] ++ List.replicate (1 - (lg_sl [.ref m0]).length) Slot.unset).toArray = ls at hl ⊢
  generalize hag : ([.ref m0] : List Value).toArray = args at hts hQ ⊢
  have hl : lv_has ls 1 [(0, .ref m0)] := hl
  obtain ⟨H, hH⟩ : ∃ H : Heap, H = s.heap := ⟨_, rfl⟩
  rw [← hH] at hP
  rw [← hH]
  have hS : va_S A s.heap H [] := by rw [hH]; exact hS
  obtain ⟨locs, hlo⟩ : ∃ L : List Loc, L = [] := ⟨_, rfl⟩
  rw [← hlo] at hS
  rw [← hlo]
  clear hH hlo
  obtain ⟨ga, gp, gE, zk, gkp, gd, gs, gcd⟩ := id gI
  refine lv_aload_n hx hb dX12_every_0 rfl (lv_at hl 0 rfl) ?_
  have hPc := hP.sub (ws' := [(zo14irriiiiiirriirrrrlriiii m0 th aS aI im (nI a) (nI p0) (nI E) 0 0 aB aT se dn aG aO aN aD bv aY rn kd nu tv), (zaI aS cS 901 fS)]) [0, 1] rfl
  have hDc := hD.sub (ws' := [(zo14irriiiiiirriirrrrlriiii m0 th aS aI im (nI a) (nI p0) (nI E) 0 0 aB aT se dn aG aO aN aD bv aY rn kd nu tv), (zaI aS cS 901 fS)]) [0, 1] (by decide) rfl
  have hKc := hK.sub (tys' := [(cS, .int)]) [0] rfl
  have hFc := va_free (wc := [(zo14irriiiiiirriirrrrlriiii m0 th aS aI im (nI a) (nI p0) (nI E) 0 0 aB aT se dn aG aO aN aD bv aY rn kd nu tv), (zaI aS cS 901 fS)]) hD hS hA [0, 1] rfl
  refine va_callv (va_runV (As := []) (rest := []) ⟨hx, hb, hml, hown, hts⟩ (c_factor0 l dC dI sK sV m0 aS aI aB aT aG aO aN aD aY th im (nI a) (nI p0) (nI E) 0 0 se dn rn kd nu tv bv cS fS a p0 E K d ss H.size ((gI).mono (by omega) (by omega)) (gT)) (cwV 0 hts gX12_every_X12_factor rfl rfl rfl hd_yX12_factor ⟨Nat.le_of_ble_eq_true rfl, Nat.le_of_ble_eq_true rfl⟩) ⟨fun a U g mk q => by obtain ⟨q0, q1, qP, qK, qD, qhE⟩ := q; exact ⟨q0, mvz g mk a q1, mvP g mk a qP, mvK g mk a qK, qD, qhE.mv g mk a⟩, va_recv hK hP (ci := 14) (q := (RX12, TX12, 23)) (q0 := 0) rfl rfl, fun U hU hW => ⟨rfl, by rw [hU], by rw [hU]; exact hPc, va_K.moved hW.alike hKc, hDc.weaken (fun _ _ _ _ => trivial), hE.call hS hU hW (fun q h => hFc q h)⟩⟩ rfl rfl hl.1 rfl (lv_room (Nat.le_of_ble_eq_true rfl)) dX12_every_1 ⟨Nat.le_of_ble_eq_true rfl, Nat.le_of_ble_eq_true rfl⟩) hS (fun q _ h => hFc q h) hFc (fun u tC H1 locs htC hvm hw_2 hB hz1 hk1 hS => ?_)
  obtain ⟨fS9_3, sp9_4, wg9_5⟩ := u
  try dsimp only at hw_2 hB
  obtain ⟨hP1, hK1, hD1⟩ := hB
  rw [htC] at hP1
  have hK1 := va_K.moved hvm.symm hK1
  obtain ⟨hP, hD⟩ := va_join (wr := []) (w1 := [(zo14irriiiiiirriirrrrlriiii m0 th aS aI im (nI a) sp9_4 (nI E) wg9_5 0 aB aT se dn aG aO aN aD bv aY rn kd nu tv), (zaI aS cS 901 fS9_3)]) hP hD [0, 1] [] rfl rfl (by decide) (by decide) hk1 hFc hP1 hD1
  have hK := (hK.sub (tys' := []) [] rfl).app hK1
  generalize H1 = H at hP hS ⊢
  have hP : va_P (dC, dI) vwCl [(zo14irriiiiiirriirrrrlriiii m0 th aS aI im (nI a) sp9_4 (nI E) wg9_5 0 aB aT se dn aG aO aN aD bv aY rn kd nu tv), (zaI aS cS 901 fS9_3)] H := hP
  have hD : va_D A [(zo14irriiiiiirriirrrrlriiii m0 th aS aI im (nI a) sp9_4 (nI E) wg9_5 0 aB aT se dn aG aO aN aD bv aY rn kd nu tv), (zaI aS cS 901 fS9_3)] := hD
  have hK : va_K (dC, dI) vwCl [(cS, .int)] s := hK
  obtain ⟨p_6, rfl, h_9, h_10, hF_11, q9⟩ := hw_2
  rcases q9 with ⟨rfl, eP_8⟩ | ⟨rfl, L_7, eP_8, h_12, hI_13, h_14⟩
  · skip
    have L4 : ∀ (nF : Nat) (p1 : Nat) (L1 : List Nat) (m1 : Nat) (w1 : Int32) (f1 : Nat → Int32), E - p1 < nF → (p0 ≤ p1 ∧ p1 ≤ E) → (PF a fS f1) → ((w1 = 1 ∧ pEv ss (pFac ss 5) p0 = (none, p1)) ∨ (w1 = 0 ∧ pEv ss (pFac ss 5) p0 = pSep ss 38 1802 (pFac ss 5) m1 (some L1, p1) ∧ 101 ≤ m1 + p1 ∧ p0 + 3 ≤ p1 ∧ PI f1 a (K ++ L1) (d + 1) p1 E ∧ L1.length + p0 ≤ p1)) → ∀ (H : Heap) (locs : List Loc), va_K (dC, dI) vwCl [(cS, .int)] s → va_P (dC, dI) vwCl [(zo14irriiiiiirriirrrrlriiii m0 th aS aI im (nI a) (nI p1) (nI E) w1 0 aB aT se dn aG aO aN aD bv aY rn kd nu tv), (zaI aS cS 901 f1)] H → va_D A [(zo14irriiiiiirriirrrrlriiii m0 th aS aI im (nI a) (nI p1) (nI E) w1 0 aB aT se dn aG aO aN aD bv aY rn kd nu tv), (zaI aS cS 901 f1)] → va_S A s.heap H locs → ∀ (ls : Array Slot), lv_has ls 1 [(0, .ref m0)] → W p l e ({ frames := 21, cells := 0, slots := 0, locals := 451 } : Room) s m args below meth c H locs 0 0 Q (F0 m 4 ls []) := by
      intro nF
      induction nF with
      | zero => intro p1 L1 m1 w1 f1 hm; exact absurd hm (Nat.not_lt_zero _)
      | succ nF ih4 =>
        intro p1 L1 m1 w1 f1 hm h1 hF hw1 H locs hK hP hD hS ls hl
        obtain ⟨h1a, h1b⟩ := h1
        rcases hw1 with ⟨rfl, hE9⟩ | ⟨rfl, hE9, hm9, h3, hI, h4⟩
        · skip
          refine lv_aload_n hx hb dX12_every_4 rfl (lv_at hl 0 rfl) ?_
          refine va_get (D := (dC, dI)) (ci := 14) (v := .int 1) (C := RX12) (T := TX12) (N := 23) hx hb hts kc_every0_0 hown hK hP 0 rfl rfl 7 (by decide) (hts (.fieldLink RX12 65 "MistHeapsModel" "isWrong" "Z") kc_every0_1) (fun _ h9 => h9) rfl dX12_every_5 ?_
          refine lv_if_ne (tgt := 43) hx hb dX12_every_8 (by decide) (fun _ => ?_) (fun c_15 => absurd c_15 (by decide))
          rw [hQ]
          have hP9 := hP.sub (ws' := [(zo14irriiiiiirriirrrrlriiii m0 th aS aI im (nI a) (nI p1) (nI E) 1 0 aB aT se dn aG aO aN aD bv aY rn kd nu tv), (zaI aS cS 901 f1)]) [0, 1] rfl
          have hD9 := hD.sub (ws' := [(zo14irriiiiiirriirrrrlriiii m0 th aS aI im (nI a) (nI p1) (nI E) 1 0 aB aT se dn aG aO aN aD bv aY rn kd nu tv), (zaI aS cS 901 f1)]) [0, 1] (by decide) rfl
          have hK9 := hK.sub (tys' := [(cS, .int)]) [0] rfl
          exact W.vret hx hb hr (fun tQ htQ hWQ => ⟨⟨(f1, (nI p1), 1), rfl, ⟨p1, rfl, by omega, by omega, hF, Or.inl ⟨rfl, hE9⟩⟩, by rw [htQ]; exact hP9, va_K.moved hWQ.alike hK9, hD9⟩, hS.F htQ⟩) hS.2.2 dX12_every_43
        · skip
          have k5 := hI.2.2.2.2.1
          have hq1 : (K ++ L1).length = K.length + L1.length := List.length_append
          refine lv_aload_n hx hb dX12_every_4 rfl (lv_at hl 0 rfl) ?_
          refine va_get (D := (dC, dI)) (ci := 14) (v := .int 0) (C := RX12) (T := TX12) (N := 23) hx hb hts kc_every0_0 hown hK hP 0 rfl rfl 7 (by decide) (hts (.fieldLink RX12 65 "MistHeapsModel" "isWrong" "Z") kc_every0_1) (fun _ h9 => h9) rfl dX12_every_5 ?_
          refine lv_if_ne (tgt := 43) hx hb dX12_every_8 (by decide) (fun c_16 => absurd c_16 (by decide)) (fun _ => ?_)
          refine lv_aload_n hx hb dX12_every_11 rfl (lv_at hl 0 rfl) ?_
          have hPc := hP.sub (ws' := [(zo14irriiiiiirriirrrrlriiii m0 th aS aI im (nI a) (nI p1) (nI E) 0 0 aB aT se dn aG aO aN aD bv aY rn kd nu tv), (zaI aS cS 901 f1)]) [0, 1] rfl
          have hKc := hK.sub (tys' := [(cS, .int)]) [0] rfl
          refine vp_callSi (va_runV (As := []) (rest := []) ⟨hx, hb, hml, hown, hts⟩ (c_here l dC dI m0 aS aI aB aT aG aO aN aD aY th im (nI a) (nI p1) (nI E) 0 0 se dn rn kd nu tv bv cS f1 a p1 E (by omega) (by omega) (by omega)) (cwV 0 hts gX12_every_X12_here rfl rfl rfl hd_yX12_here ⟨Nat.le_of_ble_eq_true rfl, Nat.le_of_ble_eq_true rfl⟩) ⟨fun a U g mk q => by obtain ⟨q0, qP, qK⟩ := q; exact ⟨q0, mvP g mk a qP, mvK g mk a qK⟩, va_recv hK hP (ci := 14) (q := (RX12, TX12, 23)) (q0 := 0) rfl rfl, fun U hU hW => ⟨rfl, by rw [hU]; exact hPc, va_K.moved hW.alike hKc⟩⟩ rfl rfl hl.1 rfl (lv_room (Nat.le_of_ble_eq_true rfl)) dX12_every_12 ⟨Nat.le_of_ble_eq_true rfl, Nat.le_of_ble_eq_true rfl⟩).run (fun r_17 hw_18 => ?_)
          refine lv_bipush (v := 38) hx hb dX12_every_15 (by decide) ?_
          refine lv_icmp_ne (tgt := 43) hx hb dX12_every_17 (by decide) (fun c_19 => ?_) (fun c_19 => ?_)
          · skip
            have hn9 : ¬ ss p1 = 38 := fun z => c_19 (by rw [hw_18]; exact ((TP_PF gT gE hF).eq (c := 38) (by omega) (by omega)).mpr z)
            rw [hQ]
            have hP9 := hP.sub (ws' := [(zo14irriiiiiirriirrrrlriiii m0 th aS aI im (nI a) (nI p1) (nI E) 0 0 aB aT se dn aG aO aN aD bv aY rn kd nu tv), (zaI aS cS 901 f1)]) [0, 1] rfl
            have hD9 := hD.sub (ws' := [(zo14irriiiiiirriirrrrlriiii m0 th aS aI im (nI a) (nI p1) (nI E) 0 0 aB aT se dn aG aO aN aD bv aY rn kd nu tv), (zaI aS cS 901 f1)]) [0, 1] (by decide) rfl
            have hK9 := hK.sub (tys' := [(cS, .int)]) [0] rfl
            exact W.vret hx hb hr (fun tQ htQ hWQ => ⟨⟨(f1, (nI p1), 0), rfl, ⟨p1, rfl, by omega, by omega, hF, Or.inr ⟨rfl, L1, hE9.trans (ps_end hn9), by omega, hI, by (try simp only [List.length_append, List.length_cons, List.length_nil]); omega⟩⟩, by rw [htQ]; exact hP9, va_K.moved hWQ.alike hK9, hD9⟩, hS.F htQ⟩) hS.2.2 dX12_every_43
          · skip
            have hs9 : ss p1 = 38 := ((TP_PF gT gE hF).eq (c := 38) (by omega) (by omega)).mp (by rw [← hw_18, c_19]; rfl)
            have hlt : p1 < E := Nat.lt_of_not_le (fun z => by have := gT.2.1 p1 z; omega)
            obtain ⟨m2, rfl⟩ : ∃ q : Nat, m1 = q + 1 := ⟨m1 - 1, by omega⟩
            refine lv_aload_n hx hb dX12_every_20 rfl (lv_at hl 0 rfl) ?_
            refine lv_dup hx hb dX12_every_21 rfl ?_
            refine va_get (D := (dC, dI)) (ci := 14) (v := .int (nI p1)) (C := RX12) (T := TX12) (N := 23) hx hb hts kc_every0_0 hown hK hP 0 rfl rfl 5 (by decide) (hts (.fieldLink RX12 59 "MistHeapsModel" "spot" "I") kc_every0_2) (fun _ h9 => h9) rfl dX12_every_22 ?_
            refine lv_iconst (v := 1) hx hb dX12_every_25 (by decide) ?_
            refine lv_iadd hx hb dX12_every_26 ?_
            refine qi_as (y := nI (p1 + 1)) (nI_add p1 1) ?_
            refine va_put (D := (dC, dI)) (ci := 14) (v := .int (nI (p1 + 1))) (ty := .int) (C := RX12) (T := TX12) (N := 23) hx hb hts kc_every0_0 tyX12 tyX12_ok nmX12 hown hK hP hD hS 0 rfl rfl 5 (by decide) (hts (.fieldLink RX12 59 "MistHeapsModel" "spot" "I") kc_every0_2) (fun _ h9 => h9) rfl (by decide +kernel) rfl rfl (Nat.le_of_ble_eq_true rfl) dX12_every_27 (fun H locs hP hD hS => ?_)
            have hP : va_P (dC, dI) vwCl [(zo14irriiiiiirriirrrrlriiii m0 th aS aI im (nI a) (nI (p1 + 1)) (nI E) 0 0 aB aT se dn aG aO aN aD bv aY rn kd nu tv), (zaI aS cS 901 f1)] H := hP
            have hD : va_D A [(zo14irriiiiiirriirrrrlriiii m0 th aS aI im (nI a) (nI (p1 + 1)) (nI E) 0 0 aB aT se dn aG aO aN aD bv aY rn kd nu tv), (zaI aS cS 901 f1)] := hD
            refine lv_aload_n hx hb dX12_every_30 rfl (lv_at hl 0 rfl) ?_
            have hPc := hP.sub (ws' := [(zo14irriiiiiirriirrrrlriiii m0 th aS aI im (nI a) (nI (p1 + 1)) (nI E) 0 0 aB aT se dn aG aO aN aD bv aY rn kd nu tv), (zaI aS cS 901 f1)]) [0, 1] rfl
            have hDc := hD.sub (ws' := [(zo14irriiiiiirriirrrrlriiii m0 th aS aI im (nI a) (nI (p1 + 1)) (nI E) 0 0 aB aT se dn aG aO aN aD bv aY rn kd nu tv), (zaI aS cS 901 f1)]) [0, 1] (by decide) rfl
            have hKc := hK.sub (tys' := [(cS, .int)]) [0] rfl
            have hFc := va_free (wc := [(zo14irriiiiiirriirrrrlriiii m0 th aS aI im (nI a) (nI (p1 + 1)) (nI E) 0 0 aB aT se dn aG aO aN aD bv aY rn kd nu tv), (zaI aS cS 901 f1)]) hD hS hA [0, 1] rfl
            refine va_callv (va_runV (As := []) (rest := []) ⟨hx, hb, hml, hown, hts⟩ (c_factor0 l dC dI sK sV m0 aS aI aB aT aG aO aN aD aY th im (nI a) (nI (p1 + 1)) (nI E) 0 0 se dn rn kd nu tv bv cS f1 a (p1 + 1) E (K ++ L1) (d + 1) ss H.size ((hI).mono (by omega) (by omega)) ((TP_PF gT gE (hF)))) (cwV 0 hts gX12_every_X12_factor rfl rfl rfl hd_yX12_factor ⟨Nat.le_of_ble_eq_true rfl, Nat.le_of_ble_eq_true rfl⟩) ⟨fun a U g mk q => by obtain ⟨q0, q1, qP, qK, qD, qhE⟩ := q; exact ⟨q0, mvz g mk a q1, mvP g mk a qP, mvK g mk a qK, qD, qhE.mv g mk a⟩, va_recv hK hP (ci := 14) (q := (RX12, TX12, 23)) (q0 := 0) rfl rfl, fun U hU hW => ⟨rfl, by rw [hU], by rw [hU]; exact hPc, va_K.moved hW.alike hKc, hDc.weaken (fun _ _ _ _ => trivial), hE.call hS hU hW (fun q h => hFc q h)⟩⟩ rfl rfl hl.1 rfl (lv_room (Nat.le_of_ble_eq_true rfl)) dX12_every_31 ⟨Nat.le_of_ble_eq_true rfl, Nat.le_of_ble_eq_true rfl⟩) hS (fun q _ h => hFc q h) hFc (fun u tC H1 locs htC hvm hw_21 hB hz1 hk1 hS => ?_)
            obtain ⟨fS9_22, sp9_23, wg9_24⟩ := u
            try dsimp only at hw_21 hB
            obtain ⟨hP1, hK1, hD1⟩ := hB
            rw [htC] at hP1
            have hK1 := va_K.moved hvm.symm hK1
            obtain ⟨hP, hD⟩ := va_join (wr := []) (w1 := [(zo14irriiiiiirriirrrrlriiii m0 th aS aI im (nI a) sp9_23 (nI E) wg9_24 0 aB aT se dn aG aO aN aD bv aY rn kd nu tv), (zaI aS cS 901 fS9_22)]) hP hD [0, 1] [] rfl rfl (by decide) (by decide) hk1 hFc hP1 hD1
            have hK := (hK.sub (tys' := []) [] rfl).app hK1
            generalize H1 = H at hP hS ⊢
            have hP : va_P (dC, dI) vwCl [(zo14irriiiiiirriirrrrlriiii m0 th aS aI im (nI a) sp9_23 (nI E) wg9_24 0 aB aT se dn aG aO aN aD bv aY rn kd nu tv), (zaI aS cS 901 fS9_22)] H := hP
            have hD : va_D A [(zo14irriiiiiirriirrrrlriiii m0 th aS aI im (nI a) sp9_23 (nI E) wg9_24 0 aB aT se dn aG aO aN aD bv aY rn kd nu tv), (zaI aS cS 901 fS9_22)] := hD
            have hK : va_K (dC, dI) vwCl [(cS, .int)] s := hK
            obtain ⟨p_25, rfl, h_28, h_29, hF_30, q9⟩ := hw_21
            rcases q9 with ⟨rfl, eP_27⟩ | ⟨rfl, L_26, eP_27, h_31, hI_32, h_33⟩
            · skip
              refine lv_aload_n hx hb dX12_every_34 rfl (lv_at hl 0 rfl) ?_
              refine lv_bipush (v := (-2)) hx hb dX12_every_35 (by decide) ?_
              have hPc := hP.sub (ws' := [(zo14irriiiiiirriirrrrlriiii m0 th aS aI im (nI a) (nI p_25) (nI E) 1 0 aB aT se dn aG aO aN aD bv aY rn kd nu tv)]) [0] rfl
              have hKc := hK.sub (tys' := []) [] rfl
              refine va_csv (va_runV (As := [.int (-2)]) (rest := []) ⟨hx, hb, hml, hown, hts⟩ (c_emitsW l dC dI m0 aS aI aB aT aG aO aN aD aY th im (nI a) (nI p_25) (nI E) 1 0 se dn rn kd nu tv bv (-2)) (cwV 1 hts gX12_every_X12_emits rfl rfl rfl hd_yX12_emits ⟨Nat.le_of_ble_eq_true rfl, Nat.le_of_ble_eq_true rfl⟩) ⟨fun a U g mk q => by obtain ⟨q0, qP, qK⟩ := q; exact ⟨q0, mvP g mk a qP, mvK g mk a qK⟩, va_recv hK hP (ci := 14) (q := (RX12, TX12, 23)) (q0 := 0) rfl rfl, fun U hU hW => ⟨rfl, by rw [hU]; exact hPc, va_K.moved hW.alike hKc⟩⟩ rfl rfl hl.1 rfl (lv_room (Nat.le_of_ble_eq_true rfl)) dX12_every_37 ⟨Nat.le_of_ble_eq_true rfl, Nat.le_of_ble_eq_true rfl⟩).run (fun hw_35 => ?_)
              refine lv_goto (tgt := 4) hx hb dX12_every_40 (by decide) ?_
              exact ih4 (p_25) ([]) (0) (1) (fS9_22) (by omega) (by omega) ((hF).tr hF_30) (Or.inl ⟨rfl, hE9.trans (ps_bad hs9 eP_27)⟩) _ _ (hK.sub [0] rfl) (hP.sub [0, 1] rfl) (hD.sub [0, 1] (by decide) rfl) hS ls (lv_sub hl [0] rfl)
            · skip
              have k5 := hI_32.2.2.2.2.1
              have hqL_26 : ((K ++ L1) ++ L_26).length = (K ++ L1).length + L_26.length := List.length_append
              refine lv_aload_n hx hb dX12_every_34 rfl (lv_at hl 0 rfl) ?_
              refine lv_bipush (v := (-2)) hx hb dX12_every_35 (by decide) ?_
              have hPc := hP.sub (ws' := [(zo14irriiiiiirriirrrrlriiii m0 th aS aI im (nI a) (nI p_25) (nI E) 0 0 aB aT se dn aG aO aN aD bv aY rn kd nu tv), (zaI aS cS 901 fS9_22)]) [0, 1] rfl
              have hDc := hD.sub (ws' := [(zo14irriiiiiirriirrrrlriiii m0 th aS aI im (nI a) (nI p_25) (nI E) 0 0 aB aT se dn aG aO aN aD bv aY rn kd nu tv), (zaI aS cS 901 fS9_22)]) [0, 1] (by decide) rfl
              have hKc := hK.sub (tys' := [(cS, .int)]) [0] rfl
              have hFc := va_free (wc := [(zo14irriiiiiirriirrrrlriiii m0 th aS aI im (nI a) (nI p_25) (nI E) 0 0 aB aT se dn aG aO aN aD bv aY rn kd nu tv), (zaI aS cS 901 fS9_22)]) hD hS hA [0, 1] rfl
              refine va_callv (va_runV (As := [.int (-2)]) (rest := []) ⟨hx, hb, hml, hown, hts⟩ (c_emits l dC dI m0 aS aI aB aT aG aO aN aD aY th im (nI a) (nI p_25) (nI E) 0 0 se dn rn kd nu tv bv cS fS9_22 a ((K ++ L1) ++ L_26).length (-2) H.size (ga) ((hI_32).2.2.2.1) (by have := (hI_32).2.2.2.2.1; omega)) (cwV 1 hts gX12_every_X12_emits rfl rfl rfl hd_yX12_emits ⟨Nat.le_of_ble_eq_true rfl, Nat.le_of_ble_eq_true rfl⟩) ⟨fun a U g mk q => by obtain ⟨q0, q1, qP, qK, qD⟩ := q; exact ⟨q0, mvz g mk a q1, mvP g mk a qP, mvK g mk a qK, qD⟩, va_recv hK hP (ci := 14) (q := (RX12, TX12, 23)) (q0 := 0) rfl rfl, fun U hU hW => ⟨rfl, by rw [hU], by rw [hU]; exact hPc, va_K.moved hW.alike hKc, hDc.weaken (fun _ _ _ _ => trivial)⟩⟩ rfl rfl hl.1 rfl (lv_room (Nat.le_of_ble_eq_true rfl)) dX12_every_37 ⟨Nat.le_of_ble_eq_true rfl, Nat.le_of_ble_eq_true rfl⟩) hS (fun q _ h => hFc q h) hFc (fun u tC H1 locs htC hvm hw_37 hB hz1 hk1 hS => ?_)
              obtain ⟨fS9_38, rfl⟩ : ∃ z, z = u := ⟨_, rfl⟩
              try dsimp only at hw_37 hB
              obtain ⟨hP1, hK1, hD1⟩ := hB
              rw [htC] at hP1
              have hK1 := va_K.moved hvm.symm hK1
              obtain ⟨hP, hD⟩ := va_join (wr := []) (w1 := [(zo14irriiiiiirriirrrrlriiii m0 th aS aI im (nI a) (nI p_25) (nI E) 0 0 aB aT se dn aG aO aN aD bv aY rn kd nu tv), (zaI aS cS 901 fS9_38)]) hP hD [0, 1] [] rfl rfl (by decide) (by decide) hk1 hFc hP1 hD1
              have hK := (hK.sub (tys' := []) [] rfl).app hK1
              generalize H1 = H at hP hS ⊢
              have hP : va_P (dC, dI) vwCl [(zo14irriiiiiirriirrrrlriiii m0 th aS aI im (nI a) (nI p_25) (nI E) 0 0 aB aT se dn aG aO aN aD bv aY rn kd nu tv), (zaI aS cS 901 fS9_38)] H := hP
              have hD : va_D A [(zo14irriiiiiirriirrrrlriiii m0 th aS aI im (nI a) (nI p_25) (nI E) 0 0 aB aT se dn aG aO aN aD bv aY rn kd nu tv), (zaI aS cS 901 fS9_38)] := hD
              have hK : va_K (dC, dI) vwCl [(cS, .int)] s := hK
              obtain rfl : fS9_38 = emt fS9_22 a ((K ++ L1) ++ L_26).length (-2) := by rcases hw_37 with ⟨q, _⟩ | ⟨_, q⟩; exact absurd rfl q; exact q
              have hI_39 : PI (emt fS9_22 a ((K ++ L1) ++ L_26).length (-2)) a (((K ++ L1) ++ L_26) ++ [1802]) (((d + 1) + 1) - 1) p_25 E := PI.em (t := 1802) ((hI_32).mono (by omega) (by omega)) (by omega) (by omega) (stepd_both (by omega)) (by decide)
              have hF_40 : PF a fS (emt fS9_22 a ((K ++ L1) ++ L_26).length (-2)) := ((hF).tr hF_30).tr (PF_emt (k := ((K ++ L1) ++ L_26).length) (x := (-2)) ga (by have := (hI_32).2.2.2.2.1; omega))
              have hKhI_39 : (((K ++ L1) ++ L_26) ++ [1802]).length = ((K ++ L1) ++ L_26).length + 1 := by rw [List.length_append]; rfl
              refine lv_goto (tgt := 4) hx hb dX12_every_40 (by decide) ?_
              exact ih4 (p_25) (L1 ++ (L_26 ++ [1802])) (m2) (0) (emt fS9_22 a ((K ++ L1) ++ L_26).length (-2)) (by omega) (by omega) (hF_40) (Or.inr ⟨rfl, hE9.trans (ps_go hs9 eP_27), by omega, by omega, PI.as (PI.as hI_39), by simp only [List.length_append, List.length_cons, List.length_nil]; omega⟩) _ _ (hK.sub [0] rfl) (hP.sub [0, 1] rfl) (hD.sub [0, 1] (by decide) rfl) hS ls (lv_sub hl [0] rfl)
    exact L4 _ (p_6) ([]) (0) (1) (fS9_3) (Nat.lt_succ_self _) (by omega) ((PF.rf).tr hF_11) (Or.inl ⟨rfl, pEv_n eP_8⟩) _ _ (hK.sub [0] rfl) (hP.sub [0, 1] rfl) (hD.sub [0, 1] (by decide) rfl) hS ls (lv_sub hl [0] rfl)
  · skip
    have k5 := hI_13.2.2.2.2.1
    have hqL_7 : (K ++ L_7).length = K.length + L_7.length := List.length_append
    have L4 : ∀ (nF : Nat) (p1 : Nat) (L1 : List Nat) (m1 : Nat) (w1 : Int32) (f1 : Nat → Int32), E - p1 < nF → (p0 ≤ p1 ∧ p1 ≤ E) → (PF a fS f1) → ((w1 = 1 ∧ pEv ss (pFac ss 5) p0 = (none, p1)) ∨ (w1 = 0 ∧ pEv ss (pFac ss 5) p0 = pSep ss 38 1802 (pFac ss 5) m1 (some L1, p1) ∧ 101 ≤ m1 + p1 ∧ p0 + 3 ≤ p1 ∧ PI f1 a (K ++ L1) (d + 1) p1 E ∧ L1.length + p0 ≤ p1)) → ∀ (H : Heap) (locs : List Loc), va_K (dC, dI) vwCl [(cS, .int)] s → va_P (dC, dI) vwCl [(zo14irriiiiiirriirrrrlriiii m0 th aS aI im (nI a) (nI p1) (nI E) w1 0 aB aT se dn aG aO aN aD bv aY rn kd nu tv), (zaI aS cS 901 f1)] H → va_D A [(zo14irriiiiiirriirrrrlriiii m0 th aS aI im (nI a) (nI p1) (nI E) w1 0 aB aT se dn aG aO aN aD bv aY rn kd nu tv), (zaI aS cS 901 f1)] → va_S A s.heap H locs → ∀ (ls : Array Slot), lv_has ls 1 [(0, .ref m0)] → W p l e ({ frames := 21, cells := 0, slots := 0, locals := 451 } : Room) s m args below meth c H locs 0 0 Q (F0 m 4 ls []) := by
      intro nF
      induction nF with
      | zero => intro p1 L1 m1 w1 f1 hm; exact absurd hm (Nat.not_lt_zero _)
      | succ nF ih4 =>
        intro p1 L1 m1 w1 f1 hm h1 hF hw1 H locs hK hP hD hS ls hl
        obtain ⟨h1a, h1b⟩ := h1
        rcases hw1 with ⟨rfl, hE9⟩ | ⟨rfl, hE9, hm9, h3, hI, h4⟩
        · skip
          refine lv_aload_n hx hb dX12_every_4 rfl (lv_at hl 0 rfl) ?_
          refine va_get (D := (dC, dI)) (ci := 14) (v := .int 1) (C := RX12) (T := TX12) (N := 23) hx hb hts kc_every0_0 hown hK hP 0 rfl rfl 7 (by decide) (hts (.fieldLink RX12 65 "MistHeapsModel" "isWrong" "Z") kc_every0_1) (fun _ h9 => h9) rfl dX12_every_5 ?_
          refine lv_if_ne (tgt := 43) hx hb dX12_every_8 (by decide) (fun _ => ?_) (fun c_41 => absurd c_41 (by decide))
          rw [hQ]
          have hP9 := hP.sub (ws' := [(zo14irriiiiiirriirrrrlriiii m0 th aS aI im (nI a) (nI p1) (nI E) 1 0 aB aT se dn aG aO aN aD bv aY rn kd nu tv), (zaI aS cS 901 f1)]) [0, 1] rfl
          have hD9 := hD.sub (ws' := [(zo14irriiiiiirriirrrrlriiii m0 th aS aI im (nI a) (nI p1) (nI E) 1 0 aB aT se dn aG aO aN aD bv aY rn kd nu tv), (zaI aS cS 901 f1)]) [0, 1] (by decide) rfl
          have hK9 := hK.sub (tys' := [(cS, .int)]) [0] rfl
          exact W.vret hx hb hr (fun tQ htQ hWQ => ⟨⟨(f1, (nI p1), 1), rfl, ⟨p1, rfl, by omega, by omega, hF, Or.inl ⟨rfl, hE9⟩⟩, by rw [htQ]; exact hP9, va_K.moved hWQ.alike hK9, hD9⟩, hS.F htQ⟩) hS.2.2 dX12_every_43
        · skip
          have k5 := hI.2.2.2.2.1
          have hq1 : (K ++ L1).length = K.length + L1.length := List.length_append
          refine lv_aload_n hx hb dX12_every_4 rfl (lv_at hl 0 rfl) ?_
          refine va_get (D := (dC, dI)) (ci := 14) (v := .int 0) (C := RX12) (T := TX12) (N := 23) hx hb hts kc_every0_0 hown hK hP 0 rfl rfl 7 (by decide) (hts (.fieldLink RX12 65 "MistHeapsModel" "isWrong" "Z") kc_every0_1) (fun _ h9 => h9) rfl dX12_every_5 ?_
          refine lv_if_ne (tgt := 43) hx hb dX12_every_8 (by decide) (fun c_42 => absurd c_42 (by decide)) (fun _ => ?_)
          refine lv_aload_n hx hb dX12_every_11 rfl (lv_at hl 0 rfl) ?_
          have hPc := hP.sub (ws' := [(zo14irriiiiiirriirrrrlriiii m0 th aS aI im (nI a) (nI p1) (nI E) 0 0 aB aT se dn aG aO aN aD bv aY rn kd nu tv), (zaI aS cS 901 f1)]) [0, 1] rfl
          have hKc := hK.sub (tys' := [(cS, .int)]) [0] rfl
          refine vp_callSi (va_runV (As := []) (rest := []) ⟨hx, hb, hml, hown, hts⟩ (c_here l dC dI m0 aS aI aB aT aG aO aN aD aY th im (nI a) (nI p1) (nI E) 0 0 se dn rn kd nu tv bv cS f1 a p1 E (by omega) (by omega) (by omega)) (cwV 0 hts gX12_every_X12_here rfl rfl rfl hd_yX12_here ⟨Nat.le_of_ble_eq_true rfl, Nat.le_of_ble_eq_true rfl⟩) ⟨fun a U g mk q => by obtain ⟨q0, qP, qK⟩ := q; exact ⟨q0, mvP g mk a qP, mvK g mk a qK⟩, va_recv hK hP (ci := 14) (q := (RX12, TX12, 23)) (q0 := 0) rfl rfl, fun U hU hW => ⟨rfl, by rw [hU]; exact hPc, va_K.moved hW.alike hKc⟩⟩ rfl rfl hl.1 rfl (lv_room (Nat.le_of_ble_eq_true rfl)) dX12_every_12 ⟨Nat.le_of_ble_eq_true rfl, Nat.le_of_ble_eq_true rfl⟩).run (fun r_43 hw_44 => ?_)
          refine lv_bipush (v := 38) hx hb dX12_every_15 (by decide) ?_
          refine lv_icmp_ne (tgt := 43) hx hb dX12_every_17 (by decide) (fun c_45 => ?_) (fun c_45 => ?_)
          · skip
            have hn9 : ¬ ss p1 = 38 := fun z => c_45 (by rw [hw_44]; exact ((TP_PF gT gE hF).eq (c := 38) (by omega) (by omega)).mpr z)
            rw [hQ]
            have hP9 := hP.sub (ws' := [(zo14irriiiiiirriirrrrlriiii m0 th aS aI im (nI a) (nI p1) (nI E) 0 0 aB aT se dn aG aO aN aD bv aY rn kd nu tv), (zaI aS cS 901 f1)]) [0, 1] rfl
            have hD9 := hD.sub (ws' := [(zo14irriiiiiirriirrrrlriiii m0 th aS aI im (nI a) (nI p1) (nI E) 0 0 aB aT se dn aG aO aN aD bv aY rn kd nu tv), (zaI aS cS 901 f1)]) [0, 1] (by decide) rfl
            have hK9 := hK.sub (tys' := [(cS, .int)]) [0] rfl
            exact W.vret hx hb hr (fun tQ htQ hWQ => ⟨⟨(f1, (nI p1), 0), rfl, ⟨p1, rfl, by omega, by omega, hF, Or.inr ⟨rfl, L1, hE9.trans (ps_end hn9), by omega, hI, by (try simp only [List.length_append, List.length_cons, List.length_nil]); omega⟩⟩, by rw [htQ]; exact hP9, va_K.moved hWQ.alike hK9, hD9⟩, hS.F htQ⟩) hS.2.2 dX12_every_43
          · skip
            have hs9 : ss p1 = 38 := ((TP_PF gT gE hF).eq (c := 38) (by omega) (by omega)).mp (by rw [← hw_44, c_45]; rfl)
            have hlt : p1 < E := Nat.lt_of_not_le (fun z => by have := gT.2.1 p1 z; omega)
            obtain ⟨m2, rfl⟩ : ∃ q : Nat, m1 = q + 1 := ⟨m1 - 1, by omega⟩
            refine lv_aload_n hx hb dX12_every_20 rfl (lv_at hl 0 rfl) ?_
            refine lv_dup hx hb dX12_every_21 rfl ?_
            refine va_get (D := (dC, dI)) (ci := 14) (v := .int (nI p1)) (C := RX12) (T := TX12) (N := 23) hx hb hts kc_every0_0 hown hK hP 0 rfl rfl 5 (by decide) (hts (.fieldLink RX12 59 "MistHeapsModel" "spot" "I") kc_every0_2) (fun _ h9 => h9) rfl dX12_every_22 ?_
            refine lv_iconst (v := 1) hx hb dX12_every_25 (by decide) ?_
            refine lv_iadd hx hb dX12_every_26 ?_
            refine qi_as (y := nI (p1 + 1)) (nI_add p1 1) ?_
            refine va_put (D := (dC, dI)) (ci := 14) (v := .int (nI (p1 + 1))) (ty := .int) (C := RX12) (T := TX12) (N := 23) hx hb hts kc_every0_0 tyX12 tyX12_ok nmX12 hown hK hP hD hS 0 rfl rfl 5 (by decide) (hts (.fieldLink RX12 59 "MistHeapsModel" "spot" "I") kc_every0_2) (fun _ h9 => h9) rfl (by decide +kernel) rfl rfl (Nat.le_of_ble_eq_true rfl) dX12_every_27 (fun H locs hP hD hS => ?_)
            have hP : va_P (dC, dI) vwCl [(zo14irriiiiiirriirrrrlriiii m0 th aS aI im (nI a) (nI (p1 + 1)) (nI E) 0 0 aB aT se dn aG aO aN aD bv aY rn kd nu tv), (zaI aS cS 901 f1)] H := hP
            have hD : va_D A [(zo14irriiiiiirriirrrrlriiii m0 th aS aI im (nI a) (nI (p1 + 1)) (nI E) 0 0 aB aT se dn aG aO aN aD bv aY rn kd nu tv), (zaI aS cS 901 f1)] := hD
            refine lv_aload_n hx hb dX12_every_30 rfl (lv_at hl 0 rfl) ?_
            have hPc := hP.sub (ws' := [(zo14irriiiiiirriirrrrlriiii m0 th aS aI im (nI a) (nI (p1 + 1)) (nI E) 0 0 aB aT se dn aG aO aN aD bv aY rn kd nu tv), (zaI aS cS 901 f1)]) [0, 1] rfl
            have hDc := hD.sub (ws' := [(zo14irriiiiiirriirrrrlriiii m0 th aS aI im (nI a) (nI (p1 + 1)) (nI E) 0 0 aB aT se dn aG aO aN aD bv aY rn kd nu tv), (zaI aS cS 901 f1)]) [0, 1] (by decide) rfl
            have hKc := hK.sub (tys' := [(cS, .int)]) [0] rfl
            have hFc := va_free (wc := [(zo14irriiiiiirriirrrrlriiii m0 th aS aI im (nI a) (nI (p1 + 1)) (nI E) 0 0 aB aT se dn aG aO aN aD bv aY rn kd nu tv), (zaI aS cS 901 f1)]) hD hS hA [0, 1] rfl
            refine va_callv (va_runV (As := []) (rest := []) ⟨hx, hb, hml, hown, hts⟩ (c_factor0 l dC dI sK sV m0 aS aI aB aT aG aO aN aD aY th im (nI a) (nI (p1 + 1)) (nI E) 0 0 se dn rn kd nu tv bv cS f1 a (p1 + 1) E (K ++ L1) (d + 1) ss H.size ((hI).mono (by omega) (by omega)) ((TP_PF gT gE (hF)))) (cwV 0 hts gX12_every_X12_factor rfl rfl rfl hd_yX12_factor ⟨Nat.le_of_ble_eq_true rfl, Nat.le_of_ble_eq_true rfl⟩) ⟨fun a U g mk q => by obtain ⟨q0, q1, qP, qK, qD, qhE⟩ := q; exact ⟨q0, mvz g mk a q1, mvP g mk a qP, mvK g mk a qK, qD, qhE.mv g mk a⟩, va_recv hK hP (ci := 14) (q := (RX12, TX12, 23)) (q0 := 0) rfl rfl, fun U hU hW => ⟨rfl, by rw [hU], by rw [hU]; exact hPc, va_K.moved hW.alike hKc, hDc.weaken (fun _ _ _ _ => trivial), hE.call hS hU hW (fun q h => hFc q h)⟩⟩ rfl rfl hl.1 rfl (lv_room (Nat.le_of_ble_eq_true rfl)) dX12_every_31 ⟨Nat.le_of_ble_eq_true rfl, Nat.le_of_ble_eq_true rfl⟩) hS (fun q _ h => hFc q h) hFc (fun u tC H1 locs htC hvm hw_47 hB hz1 hk1 hS => ?_)
            obtain ⟨fS9_48, sp9_49, wg9_50⟩ := u
            try dsimp only at hw_47 hB
            obtain ⟨hP1, hK1, hD1⟩ := hB
            rw [htC] at hP1
            have hK1 := va_K.moved hvm.symm hK1
            obtain ⟨hP, hD⟩ := va_join (wr := []) (w1 := [(zo14irriiiiiirriirrrrlriiii m0 th aS aI im (nI a) sp9_49 (nI E) wg9_50 0 aB aT se dn aG aO aN aD bv aY rn kd nu tv), (zaI aS cS 901 fS9_48)]) hP hD [0, 1] [] rfl rfl (by decide) (by decide) hk1 hFc hP1 hD1
            have hK := (hK.sub (tys' := []) [] rfl).app hK1
            generalize H1 = H at hP hS ⊢
            have hP : va_P (dC, dI) vwCl [(zo14irriiiiiirriirrrrlriiii m0 th aS aI im (nI a) sp9_49 (nI E) wg9_50 0 aB aT se dn aG aO aN aD bv aY rn kd nu tv), (zaI aS cS 901 fS9_48)] H := hP
            have hD : va_D A [(zo14irriiiiiirriirrrrlriiii m0 th aS aI im (nI a) sp9_49 (nI E) wg9_50 0 aB aT se dn aG aO aN aD bv aY rn kd nu tv), (zaI aS cS 901 fS9_48)] := hD
            have hK : va_K (dC, dI) vwCl [(cS, .int)] s := hK
            obtain ⟨p_51, rfl, h_54, h_55, hF_56, q9⟩ := hw_47
            rcases q9 with ⟨rfl, eP_53⟩ | ⟨rfl, L_52, eP_53, h_57, hI_58, h_59⟩
            · skip
              refine lv_aload_n hx hb dX12_every_34 rfl (lv_at hl 0 rfl) ?_
              refine lv_bipush (v := (-2)) hx hb dX12_every_35 (by decide) ?_
              have hPc := hP.sub (ws' := [(zo14irriiiiiirriirrrrlriiii m0 th aS aI im (nI a) (nI p_51) (nI E) 1 0 aB aT se dn aG aO aN aD bv aY rn kd nu tv)]) [0] rfl
              have hKc := hK.sub (tys' := []) [] rfl
              refine va_csv (va_runV (As := [.int (-2)]) (rest := []) ⟨hx, hb, hml, hown, hts⟩ (c_emitsW l dC dI m0 aS aI aB aT aG aO aN aD aY th im (nI a) (nI p_51) (nI E) 1 0 se dn rn kd nu tv bv (-2)) (cwV 1 hts gX12_every_X12_emits rfl rfl rfl hd_yX12_emits ⟨Nat.le_of_ble_eq_true rfl, Nat.le_of_ble_eq_true rfl⟩) ⟨fun a U g mk q => by obtain ⟨q0, qP, qK⟩ := q; exact ⟨q0, mvP g mk a qP, mvK g mk a qK⟩, va_recv hK hP (ci := 14) (q := (RX12, TX12, 23)) (q0 := 0) rfl rfl, fun U hU hW => ⟨rfl, by rw [hU]; exact hPc, va_K.moved hW.alike hKc⟩⟩ rfl rfl hl.1 rfl (lv_room (Nat.le_of_ble_eq_true rfl)) dX12_every_37 ⟨Nat.le_of_ble_eq_true rfl, Nat.le_of_ble_eq_true rfl⟩).run (fun hw_61 => ?_)
              refine lv_goto (tgt := 4) hx hb dX12_every_40 (by decide) ?_
              exact ih4 (p_51) ([]) (0) (1) (fS9_48) (by omega) (by omega) ((hF).tr hF_56) (Or.inl ⟨rfl, hE9.trans (ps_bad hs9 eP_53)⟩) _ _ (hK.sub [0] rfl) (hP.sub [0, 1] rfl) (hD.sub [0, 1] (by decide) rfl) hS ls (lv_sub hl [0] rfl)
            · skip
              have k5 := hI_58.2.2.2.2.1
              have hqL_52 : ((K ++ L1) ++ L_52).length = (K ++ L1).length + L_52.length := List.length_append
              refine lv_aload_n hx hb dX12_every_34 rfl (lv_at hl 0 rfl) ?_
              refine lv_bipush (v := (-2)) hx hb dX12_every_35 (by decide) ?_
              have hPc := hP.sub (ws' := [(zo14irriiiiiirriirrrrlriiii m0 th aS aI im (nI a) (nI p_51) (nI E) 0 0 aB aT se dn aG aO aN aD bv aY rn kd nu tv), (zaI aS cS 901 fS9_48)]) [0, 1] rfl
              have hDc := hD.sub (ws' := [(zo14irriiiiiirriirrrrlriiii m0 th aS aI im (nI a) (nI p_51) (nI E) 0 0 aB aT se dn aG aO aN aD bv aY rn kd nu tv), (zaI aS cS 901 fS9_48)]) [0, 1] (by decide) rfl
              have hKc := hK.sub (tys' := [(cS, .int)]) [0] rfl
              have hFc := va_free (wc := [(zo14irriiiiiirriirrrrlriiii m0 th aS aI im (nI a) (nI p_51) (nI E) 0 0 aB aT se dn aG aO aN aD bv aY rn kd nu tv), (zaI aS cS 901 fS9_48)]) hD hS hA [0, 1] rfl
              refine va_callv (va_runV (As := [.int (-2)]) (rest := []) ⟨hx, hb, hml, hown, hts⟩ (c_emits l dC dI m0 aS aI aB aT aG aO aN aD aY th im (nI a) (nI p_51) (nI E) 0 0 se dn rn kd nu tv bv cS fS9_48 a ((K ++ L1) ++ L_52).length (-2) H.size (ga) ((hI_58).2.2.2.1) (by have := (hI_58).2.2.2.2.1; omega)) (cwV 1 hts gX12_every_X12_emits rfl rfl rfl hd_yX12_emits ⟨Nat.le_of_ble_eq_true rfl, Nat.le_of_ble_eq_true rfl⟩) ⟨fun a U g mk q => by obtain ⟨q0, q1, qP, qK, qD⟩ := q; exact ⟨q0, mvz g mk a q1, mvP g mk a qP, mvK g mk a qK, qD⟩, va_recv hK hP (ci := 14) (q := (RX12, TX12, 23)) (q0 := 0) rfl rfl, fun U hU hW => ⟨rfl, by rw [hU], by rw [hU]; exact hPc, va_K.moved hW.alike hKc, hDc.weaken (fun _ _ _ _ => trivial)⟩⟩ rfl rfl hl.1 rfl (lv_room (Nat.le_of_ble_eq_true rfl)) dX12_every_37 ⟨Nat.le_of_ble_eq_true rfl, Nat.le_of_ble_eq_true rfl⟩) hS (fun q _ h => hFc q h) hFc (fun u tC H1 locs htC hvm hw_63 hB hz1 hk1 hS => ?_)
              obtain ⟨fS9_64, rfl⟩ : ∃ z, z = u := ⟨_, rfl⟩
              try dsimp only at hw_63 hB
              obtain ⟨hP1, hK1, hD1⟩ := hB
              rw [htC] at hP1
              have hK1 := va_K.moved hvm.symm hK1
              obtain ⟨hP, hD⟩ := va_join (wr := []) (w1 := [(zo14irriiiiiirriirrrrlriiii m0 th aS aI im (nI a) (nI p_51) (nI E) 0 0 aB aT se dn aG aO aN aD bv aY rn kd nu tv), (zaI aS cS 901 fS9_64)]) hP hD [0, 1] [] rfl rfl (by decide) (by decide) hk1 hFc hP1 hD1
              have hK := (hK.sub (tys' := []) [] rfl).app hK1
              generalize H1 = H at hP hS ⊢
              have hP : va_P (dC, dI) vwCl [(zo14irriiiiiirriirrrrlriiii m0 th aS aI im (nI a) (nI p_51) (nI E) 0 0 aB aT se dn aG aO aN aD bv aY rn kd nu tv), (zaI aS cS 901 fS9_64)] H := hP
              have hD : va_D A [(zo14irriiiiiirriirrrrlriiii m0 th aS aI im (nI a) (nI p_51) (nI E) 0 0 aB aT se dn aG aO aN aD bv aY rn kd nu tv), (zaI aS cS 901 fS9_64)] := hD
              have hK : va_K (dC, dI) vwCl [(cS, .int)] s := hK
              obtain rfl : fS9_64 = emt fS9_48 a ((K ++ L1) ++ L_52).length (-2) := by rcases hw_63 with ⟨q, _⟩ | ⟨_, q⟩; exact absurd rfl q; exact q
              have hI_65 : PI (emt fS9_48 a ((K ++ L1) ++ L_52).length (-2)) a (((K ++ L1) ++ L_52) ++ [1802]) (((d + 1) + 1) - 1) p_51 E := PI.em (t := 1802) ((hI_58).mono (by omega) (by omega)) (by omega) (by omega) (stepd_both (by omega)) (by decide)
              have hF_66 : PF a fS (emt fS9_48 a ((K ++ L1) ++ L_52).length (-2)) := ((hF).tr hF_56).tr (PF_emt (k := ((K ++ L1) ++ L_52).length) (x := (-2)) ga (by have := (hI_58).2.2.2.2.1; omega))
              have hKhI_65 : (((K ++ L1) ++ L_52) ++ [1802]).length = ((K ++ L1) ++ L_52).length + 1 := by rw [List.length_append]; rfl
              refine lv_goto (tgt := 4) hx hb dX12_every_40 (by decide) ?_
              exact ih4 (p_51) (L1 ++ (L_52 ++ [1802])) (m2) (0) (emt fS9_48 a ((K ++ L1) ++ L_52).length (-2)) (by omega) (by omega) (hF_66) (Or.inr ⟨rfl, hE9.trans (ps_go hs9 eP_53), by omega, by omega, PI.as (PI.as hI_65), by simp only [List.length_append, List.length_cons, List.length_nil]; omega⟩) _ _ (hK.sub [0] rfl) (hP.sub [0, 1] rfl) (hD.sub [0, 1] (by decide) rfl) hS ls (lv_sub hl [0] rfl)
    exact L4 _ (p_6) (L_7) (101) (0) (fS9_3) (Nat.lt_succ_self _) (by omega) ((PF.rf).tr hF_11) (Or.inr ⟨rfl, pEv_s eP_8, by omega, by omega, hI_13, by omega⟩) _ _ (hK.sub [0] rfl) (hP.sub [0, 1] rfl) (hD.sub [0, 1] (by decide) rfl) hS ls (lv_sub hl [0] rfl)

theorem kc_some0_0 : ∀ w ∈ wsX120, w ∈ wsX12_some := fun w h => List.mem_cons_of_mem _ (gin_wsX120 w h)
theorem kc_some0_1 : (.fieldLink RX12 65 "MistHeapsModel" "isWrong" "Z" : Cond) ∈ wsX12_some := kc_of 1147 rfl rfl rfl
theorem kc_some0_2 : (.fieldLink RX12 59 "MistHeapsModel" "spot" "I" : Cond) ∈ wsX12_some := kc_of 1145 rfl rfl rfl
set_option maxHeartbeats 4000000 in
set_option maxRecDepth 100000 in
theorem c_some0 (l : Launch) (dC : Nat → ClassId) (dI : Nat → Nat → Nat) (sK sV : Nat → Nat) (m0 aS aI aB aT aG aO aN aD aY : Nat) (th im ac sp en wg op se dn rn kd nu tv : Int32) (bv : Int64) (cS : ClassId) (fS : Nat → Int32) (a p0 E : Nat) (K : List Nat) (d : Nat) (ss : Nat → Nat) (sz : Nat) (gI : PI fS a K d p0 E) (gT : TP fS E ss) : Met l yX12_some wsX12_some ({ frames := 22, cells := 0, slots := 0, locals := 471 } : Room) (va_Pc [.ref m0] (fun U => U.heap.size = sz ∧ va_P (dC, dI) vwCl [(zo14irriiiiiirriirrrrlriiii m0 th aS aI im (nI a) (nI p0) (nI E) 0 0 aB aT se dn aG aO aN aD bv aY rn kd nu tv), (zaI aS cS 901 fS)] U.heap ∧ va_K (dC, dI) vwCl [(cS, .int)] U ∧ va_D (fun _ => True) [(zo14irriiiiiirriirrrrlriiii m0 th aS aI im (nI a) (nI p0) (nI E) 0 0 aB aT se dn aG aO aN aD bv aY rn kd nu tv), (zaI aS cS 901 fS)] ∧ Gs sK sV (va_A [(zo14irriiiiiirriirrrrlriiii m0 th aS aI im (nI a) (nI p0) (nI E) 0 0 aB aT se dn aG aO aN aD bv aY rn kd nu tv), (zaI aS cS 901 fS)] sz) U)) (va_Qv (fun (u : (Nat → Int32) × (Int32) × (Int32)) => match u with | (fS9, sp9, wg9) => ∃ p9 : Nat, sp9 = nI p9 ∧ p0 ≤ p9 ∧ p9 ≤ E ∧ PF a fS fS9 ∧ ((wg9 = 1 ∧ pSm ss (pFac ss 5) p0 = (none, p9)) ∨ (wg9 = 0 ∧ ∃ L : List Nat, pSm ss (pFac ss 5) p0 = (some L, p9) ∧ p0 + 3 ≤ p9 ∧ PI fS9 a (K ++ L) (d + 1) p9 E ∧ L.length + p0 ≤ p9))) (fun (u : (Nat → Int32) × (Int32) × (Int32)) (t : State) => match u with | (fS9, sp9, wg9) => va_P (dC, dI) vwCl [(zo14irriiiiiirriirrrrlriiii m0 th aS aI im (nI a) sp9 (nI E) wg9 0 aB aT se dn aG aO aN aD bv aY rn kd nu tv), (zaI aS cS 901 fS9)] t.heap ∧ va_K (dC, dI) vwCl [(cS, .int)] t ∧ va_D (va_A [(zo14irriiiiiirriirrrrlriiii m0 th aS aI im (nI a) (nI p0) (nI E) 0 0 aB aT se dn aG aO aN aD bv aY rn kd nu tv), (zaI aS cS 901 fS)] sz) [(zo14irriiiiiirriirrrrlriiii m0 th aS aI im (nI a) sp9 (nI E) wg9 0 aB aT se dn aG aO aN aD bv aY rn kd nu tv), (zaI aS cS 901 fS9)]) (va_A [(zo14irriiiiiirriirrrrlriiii m0 th aS aI im (nI a) (nI p0) (nI E) 0 0 aB aT se dn aG aO aN aD bv aY rn kd nu tv), (zaI aS cS 901 fS)] sz)) 0 0 (va_A [(zo14irriiiiiirriirrrrlriiii m0 th aS aI im (nI a) (nI p0) (nI E) 0 0 aB aT se dn aG aO aN aD bv aY rn kd nu tv), (zaI aS cS 901 fS)] sz) := by
  refine met_ofQ (cc := cX12_some) (maxL := 1) (ret := none) (by decide) rfl ?_
  intro p e s m args below meth c s₁ Q B hml hv hQ
  obtain ⟨rfl, hsz, hP, hK, hD0, hE⟩ := hv
  have hx := B.exec
  have hb := B.bytes
  have hr := B.returns
  have hts := atoms_spec (ws := wsX12_some) B.pre
  have hown : s.vm.findClass RX12 = some m.cls := findClass_of_methodNamed B.named
  have hlocks := B.notSynchronized
  subst hsz
  have hD := hD0.self (sz := s.heap.size)
  generalize hAe : va_A [(zo14irriiiiiirriirrrrlriiii m0 th aS aI im (nI a) (nI p0) (nI E) 0 0 aB aT se dn aG aO aN aD bv aY rn kd nu tv), (zaI aS cS 901 fS)] s.heap.size = A at hD hQ hE ⊢
  have hA : ∀ q : Nat, s.heap.size ≤ q → A q := fun q h => by rw [← hAe]; exact Or.inr h
  have hS : va_S A s.heap s.heap [] := va_S.rf
  have hl := lv_entry [.ref m0] (n := 1) (Nat.le_of_ble_eq_true rfl)
  rw [lg_entry_eq]
  generalize (lg_sl [.ref m0] ++ List.replicate (1 - (lg_sl [.ref m0]).length) Slot.unset).toArray = ls at hl ⊢
  generalize hag : ([.ref m0] : List Value).toArray = args at hts hQ ⊢
  have hl : lv_has ls 1 [(0, .ref m0)] := hl
  obtain ⟨H, hH⟩ : ∃ H : Heap, H = s.heap := ⟨_, rfl⟩
  rw [← hH] at hP
  rw [← hH]
  have hS : va_S A s.heap H [] := by rw [hH]; exact hS
  obtain ⟨locs, hlo⟩ : ∃ L : List Loc, L = [] := ⟨_, rfl⟩
  rw [← hlo] at hS
  rw [← hlo]
  clear hH hlo
  obtain ⟨ga, gp, gE, zk, gkp, gd, gs, gcd⟩ := id gI
  refine lv_aload_n hx hb dX12_some_0 rfl (lv_at hl 0 rfl) ?_
  have hPc := hP.sub (ws' := [(zo14irriiiiiirriirrrrlriiii m0 th aS aI im (nI a) (nI p0) (nI E) 0 0 aB aT se dn aG aO aN aD bv aY rn kd nu tv), (zaI aS cS 901 fS)]) [0, 1] rfl
  have hDc := hD.sub (ws' := [(zo14irriiiiiirriirrrrlriiii m0 th aS aI im (nI a) (nI p0) (nI E) 0 0 aB aT se dn aG aO aN aD bv aY rn kd nu tv), (zaI aS cS 901 fS)]) [0, 1] (by decide) rfl
  have hKc := hK.sub (tys' := [(cS, .int)]) [0] rfl
  have hFc := va_free (wc := [(zo14irriiiiiirriirrrrlriiii m0 th aS aI im (nI a) (nI p0) (nI E) 0 0 aB aT se dn aG aO aN aD bv aY rn kd nu tv), (zaI aS cS 901 fS)]) hD hS hA [0, 1] rfl
  refine va_callv (va_runV (As := []) (rest := []) ⟨hx, hb, hml, hown, hts⟩ (c_every0 l dC dI sK sV m0 aS aI aB aT aG aO aN aD aY th im (nI a) (nI p0) (nI E) 0 0 se dn rn kd nu tv bv cS fS a p0 E K d ss H.size ((gI).mono (by omega) (by omega)) (gT)) (cwV 0 hts gX12_some_X12_every rfl rfl rfl hd_yX12_every ⟨Nat.le_of_ble_eq_true rfl, Nat.le_of_ble_eq_true rfl⟩) ⟨fun a U g mk q => by obtain ⟨q0, q1, qP, qK, qD, qhE⟩ := q; exact ⟨q0, mvz g mk a q1, mvP g mk a qP, mvK g mk a qK, qD, qhE.mv g mk a⟩, va_recv hK hP (ci := 14) (q := (RX12, TX12, 23)) (q0 := 0) rfl rfl, fun U hU hW => ⟨rfl, by rw [hU], by rw [hU]; exact hPc, va_K.moved hW.alike hKc, hDc.weaken (fun _ _ _ _ => trivial), hE.call hS hU hW (fun q h => hFc q h)⟩⟩ rfl rfl hl.1 rfl (lv_room (Nat.le_of_ble_eq_true rfl)) dX12_some_1 ⟨Nat.le_of_ble_eq_true rfl, Nat.le_of_ble_eq_true rfl⟩) hS (fun q _ h => hFc q h) hFc (fun u tC H1 locs htC hvm hw_2 hB hz1 hk1 hS => ?_)
  obtain ⟨fS9_3, sp9_4, wg9_5⟩ := u
  try dsimp only at hw_2 hB
  obtain ⟨hP1, hK1, hD1⟩ := hB
  rw [htC] at hP1
  have hK1 := va_K.moved hvm.symm hK1
  obtain ⟨hP, hD⟩ := va_join (wr := []) (w1 := [(zo14irriiiiiirriirrrrlriiii m0 th aS aI im (nI a) sp9_4 (nI E) wg9_5 0 aB aT se dn aG aO aN aD bv aY rn kd nu tv), (zaI aS cS 901 fS9_3)]) hP hD [0, 1] [] rfl rfl (by decide) (by decide) hk1 hFc hP1 hD1
  have hK := (hK.sub (tys' := []) [] rfl).app hK1
  generalize H1 = H at hP hS ⊢
  have hP : va_P (dC, dI) vwCl [(zo14irriiiiiirriirrrrlriiii m0 th aS aI im (nI a) sp9_4 (nI E) wg9_5 0 aB aT se dn aG aO aN aD bv aY rn kd nu tv), (zaI aS cS 901 fS9_3)] H := hP
  have hD : va_D A [(zo14irriiiiiirriirrrrlriiii m0 th aS aI im (nI a) sp9_4 (nI E) wg9_5 0 aB aT se dn aG aO aN aD bv aY rn kd nu tv), (zaI aS cS 901 fS9_3)] := hD
  have hK : va_K (dC, dI) vwCl [(cS, .int)] s := hK
  obtain ⟨p_6, rfl, h_9, h_10, hF_11, q9⟩ := hw_2
  rcases q9 with ⟨rfl, eP_8⟩ | ⟨rfl, L_7, eP_8, h_12, hI_13, h_14⟩
  · skip
    have L4 : ∀ (nF : Nat) (p1 : Nat) (L1 : List Nat) (m1 : Nat) (w1 : Int32) (f1 : Nat → Int32), E - p1 < nF → (p0 ≤ p1 ∧ p1 ≤ E) → (PF a fS f1) → ((w1 = 1 ∧ pSm ss (pFac ss 5) p0 = (none, p1)) ∨ (w1 = 0 ∧ pSm ss (pFac ss 5) p0 = pSep ss 124 1803 (pEv ss (pFac ss 5)) m1 (some L1, p1) ∧ 101 ≤ m1 + p1 ∧ p0 + 3 ≤ p1 ∧ PI f1 a (K ++ L1) (d + 1) p1 E ∧ L1.length + p0 ≤ p1)) → ∀ (H : Heap) (locs : List Loc), va_K (dC, dI) vwCl [(cS, .int)] s → va_P (dC, dI) vwCl [(zo14irriiiiiirriirrrrlriiii m0 th aS aI im (nI a) (nI p1) (nI E) w1 0 aB aT se dn aG aO aN aD bv aY rn kd nu tv), (zaI aS cS 901 f1)] H → va_D A [(zo14irriiiiiirriirrrrlriiii m0 th aS aI im (nI a) (nI p1) (nI E) w1 0 aB aT se dn aG aO aN aD bv aY rn kd nu tv), (zaI aS cS 901 f1)] → va_S A s.heap H locs → ∀ (ls : Array Slot), lv_has ls 1 [(0, .ref m0)] → W p l e ({ frames := 22, cells := 0, slots := 0, locals := 471 } : Room) s m args below meth c H locs 0 0 Q (F0 m 4 ls []) := by
      intro nF
      induction nF with
      | zero => intro p1 L1 m1 w1 f1 hm; exact absurd hm (Nat.not_lt_zero _)
      | succ nF ih4 =>
        intro p1 L1 m1 w1 f1 hm h1 hF hw1 H locs hK hP hD hS ls hl
        obtain ⟨h1a, h1b⟩ := h1
        rcases hw1 with ⟨rfl, hE9⟩ | ⟨rfl, hE9, hm9, h3, hI, h4⟩
        · skip
          refine lv_aload_n hx hb dX12_some_4 rfl (lv_at hl 0 rfl) ?_
          refine va_get (D := (dC, dI)) (ci := 14) (v := .int 1) (C := RX12) (T := TX12) (N := 23) hx hb hts kc_some0_0 hown hK hP 0 rfl rfl 7 (by decide) (hts (.fieldLink RX12 65 "MistHeapsModel" "isWrong" "Z") kc_some0_1) (fun _ h9 => h9) rfl dX12_some_5 ?_
          refine lv_if_ne (tgt := 43) hx hb dX12_some_8 (by decide) (fun _ => ?_) (fun c_15 => absurd c_15 (by decide))
          rw [hQ]
          have hP9 := hP.sub (ws' := [(zo14irriiiiiirriirrrrlriiii m0 th aS aI im (nI a) (nI p1) (nI E) 1 0 aB aT se dn aG aO aN aD bv aY rn kd nu tv), (zaI aS cS 901 f1)]) [0, 1] rfl
          have hD9 := hD.sub (ws' := [(zo14irriiiiiirriirrrrlriiii m0 th aS aI im (nI a) (nI p1) (nI E) 1 0 aB aT se dn aG aO aN aD bv aY rn kd nu tv), (zaI aS cS 901 f1)]) [0, 1] (by decide) rfl
          have hK9 := hK.sub (tys' := [(cS, .int)]) [0] rfl
          exact W.vret hx hb hr (fun tQ htQ hWQ => ⟨⟨(f1, (nI p1), 1), rfl, ⟨p1, rfl, by omega, by omega, hF, Or.inl ⟨rfl, hE9⟩⟩, by rw [htQ]; exact hP9, va_K.moved hWQ.alike hK9, hD9⟩, hS.F htQ⟩) hS.2.2 dX12_some_43
        · skip
          have k5 := hI.2.2.2.2.1
          have hq1 : (K ++ L1).length = K.length + L1.length := List.length_append
          refine lv_aload_n hx hb dX12_some_4 rfl (lv_at hl 0 rfl) ?_
          refine va_get (D := (dC, dI)) (ci := 14) (v := .int 0) (C := RX12) (T := TX12) (N := 23) hx hb hts kc_some0_0 hown hK hP 0 rfl rfl 7 (by decide) (hts (.fieldLink RX12 65 "MistHeapsModel" "isWrong" "Z") kc_some0_1) (fun _ h9 => h9) rfl dX12_some_5 ?_
          refine lv_if_ne (tgt := 43) hx hb dX12_some_8 (by decide) (fun c_16 => absurd c_16 (by decide)) (fun _ => ?_)
          refine lv_aload_n hx hb dX12_some_11 rfl (lv_at hl 0 rfl) ?_
          have hPc := hP.sub (ws' := [(zo14irriiiiiirriirrrrlriiii m0 th aS aI im (nI a) (nI p1) (nI E) 0 0 aB aT se dn aG aO aN aD bv aY rn kd nu tv), (zaI aS cS 901 f1)]) [0, 1] rfl
          have hKc := hK.sub (tys' := [(cS, .int)]) [0] rfl
          refine vp_callSi (va_runV (As := []) (rest := []) ⟨hx, hb, hml, hown, hts⟩ (c_here l dC dI m0 aS aI aB aT aG aO aN aD aY th im (nI a) (nI p1) (nI E) 0 0 se dn rn kd nu tv bv cS f1 a p1 E (by omega) (by omega) (by omega)) (cwV 0 hts gX12_some_X12_here rfl rfl rfl hd_yX12_here ⟨Nat.le_of_ble_eq_true rfl, Nat.le_of_ble_eq_true rfl⟩) ⟨fun a U g mk q => by obtain ⟨q0, qP, qK⟩ := q; exact ⟨q0, mvP g mk a qP, mvK g mk a qK⟩, va_recv hK hP (ci := 14) (q := (RX12, TX12, 23)) (q0 := 0) rfl rfl, fun U hU hW => ⟨rfl, by rw [hU]; exact hPc, va_K.moved hW.alike hKc⟩⟩ rfl rfl hl.1 rfl (lv_room (Nat.le_of_ble_eq_true rfl)) dX12_some_12 ⟨Nat.le_of_ble_eq_true rfl, Nat.le_of_ble_eq_true rfl⟩).run (fun r_17 hw_18 => ?_)
          refine lv_bipush (v := 124) hx hb dX12_some_15 (by decide) ?_
          refine lv_icmp_ne (tgt := 43) hx hb dX12_some_17 (by decide) (fun c_19 => ?_) (fun c_19 => ?_)
          · skip
            have hn9 : ¬ ss p1 = 124 := fun z => c_19 (by rw [hw_18]; exact ((TP_PF gT gE hF).eq (c := 124) (by omega) (by omega)).mpr z)
            rw [hQ]
            have hP9 := hP.sub (ws' := [(zo14irriiiiiirriirrrrlriiii m0 th aS aI im (nI a) (nI p1) (nI E) 0 0 aB aT se dn aG aO aN aD bv aY rn kd nu tv), (zaI aS cS 901 f1)]) [0, 1] rfl
            have hD9 := hD.sub (ws' := [(zo14irriiiiiirriirrrrlriiii m0 th aS aI im (nI a) (nI p1) (nI E) 0 0 aB aT se dn aG aO aN aD bv aY rn kd nu tv), (zaI aS cS 901 f1)]) [0, 1] (by decide) rfl
            have hK9 := hK.sub (tys' := [(cS, .int)]) [0] rfl
            exact W.vret hx hb hr (fun tQ htQ hWQ => ⟨⟨(f1, (nI p1), 0), rfl, ⟨p1, rfl, by omega, by omega, hF, Or.inr ⟨rfl, L1, hE9.trans (ps_end hn9), by omega, hI, by (try simp only [List.length_append, List.length_cons, List.length_nil]); omega⟩⟩, by rw [htQ]; exact hP9, va_K.moved hWQ.alike hK9, hD9⟩, hS.F htQ⟩) hS.2.2 dX12_some_43
          · skip
            have hs9 : ss p1 = 124 := ((TP_PF gT gE hF).eq (c := 124) (by omega) (by omega)).mp (by rw [← hw_18, c_19]; rfl)
            have hlt : p1 < E := Nat.lt_of_not_le (fun z => by have := gT.2.1 p1 z; omega)
            obtain ⟨m2, rfl⟩ : ∃ q : Nat, m1 = q + 1 := ⟨m1 - 1, by omega⟩
            refine lv_aload_n hx hb dX12_some_20 rfl (lv_at hl 0 rfl) ?_
            refine lv_dup hx hb dX12_some_21 rfl ?_
            refine va_get (D := (dC, dI)) (ci := 14) (v := .int (nI p1)) (C := RX12) (T := TX12) (N := 23) hx hb hts kc_some0_0 hown hK hP 0 rfl rfl 5 (by decide) (hts (.fieldLink RX12 59 "MistHeapsModel" "spot" "I") kc_some0_2) (fun _ h9 => h9) rfl dX12_some_22 ?_
            refine lv_iconst (v := 1) hx hb dX12_some_25 (by decide) ?_
            refine lv_iadd hx hb dX12_some_26 ?_
            refine qi_as (y := nI (p1 + 1)) (nI_add p1 1) ?_
            refine va_put (D := (dC, dI)) (ci := 14) (v := .int (nI (p1 + 1))) (ty := .int) (C := RX12) (T := TX12) (N := 23) hx hb hts kc_some0_0 tyX12 tyX12_ok nmX12 hown hK hP hD hS 0 rfl rfl 5 (by decide) (hts (.fieldLink RX12 59 "MistHeapsModel" "spot" "I") kc_some0_2) (fun _ h9 => h9) rfl (by decide +kernel) rfl rfl (Nat.le_of_ble_eq_true rfl) dX12_some_27 (fun H locs hP hD hS => ?_)
            have hP : va_P (dC, dI) vwCl [(zo14irriiiiiirriirrrrlriiii m0 th aS aI im (nI a) (nI (p1 + 1)) (nI E) 0 0 aB aT se dn aG aO aN aD bv aY rn kd nu tv), (zaI aS cS 901 f1)] H := hP
            have hD : va_D A [(zo14irriiiiiirriirrrrlriiii m0 th aS aI im (nI a) (nI (p1 + 1)) (nI E) 0 0 aB aT se dn aG aO aN aD bv aY rn kd nu tv), (zaI aS cS 901 f1)] := hD
            refine lv_aload_n hx hb dX12_some_30 rfl (lv_at hl 0 rfl) ?_
            have hPc := hP.sub (ws' := [(zo14irriiiiiirriirrrrlriiii m0 th aS aI im (nI a) (nI (p1 + 1)) (nI E) 0 0 aB aT se dn aG aO aN aD bv aY rn kd nu tv), (zaI aS cS 901 f1)]) [0, 1] rfl
            have hDc := hD.sub (ws' := [(zo14irriiiiiirriirrrrlriiii m0 th aS aI im (nI a) (nI (p1 + 1)) (nI E) 0 0 aB aT se dn aG aO aN aD bv aY rn kd nu tv), (zaI aS cS 901 f1)]) [0, 1] (by decide) rfl
            have hKc := hK.sub (tys' := [(cS, .int)]) [0] rfl
            have hFc := va_free (wc := [(zo14irriiiiiirriirrrrlriiii m0 th aS aI im (nI a) (nI (p1 + 1)) (nI E) 0 0 aB aT se dn aG aO aN aD bv aY rn kd nu tv), (zaI aS cS 901 f1)]) hD hS hA [0, 1] rfl
            refine va_callv (va_runV (As := []) (rest := []) ⟨hx, hb, hml, hown, hts⟩ (c_every0 l dC dI sK sV m0 aS aI aB aT aG aO aN aD aY th im (nI a) (nI (p1 + 1)) (nI E) 0 0 se dn rn kd nu tv bv cS f1 a (p1 + 1) E (K ++ L1) (d + 1) ss H.size ((hI).mono (by omega) (by omega)) ((TP_PF gT gE (hF)))) (cwV 0 hts gX12_some_X12_every rfl rfl rfl hd_yX12_every ⟨Nat.le_of_ble_eq_true rfl, Nat.le_of_ble_eq_true rfl⟩) ⟨fun a U g mk q => by obtain ⟨q0, q1, qP, qK, qD, qhE⟩ := q; exact ⟨q0, mvz g mk a q1, mvP g mk a qP, mvK g mk a qK, qD, qhE.mv g mk a⟩, va_recv hK hP (ci := 14) (q := (RX12, TX12, 23)) (q0 := 0) rfl rfl, fun U hU hW => ⟨rfl, by rw [hU], by rw [hU]; exact hPc, va_K.moved hW.alike hKc, hDc.weaken (fun _ _ _ _ => trivial), hE.call hS hU hW (fun q h => hFc q h)⟩⟩ rfl rfl hl.1 rfl (lv_room (Nat.le_of_ble_eq_true rfl)) dX12_some_31 ⟨Nat.le_of_ble_eq_true rfl, Nat.le_of_ble_eq_true rfl⟩) hS (fun q _ h => hFc q h) hFc (fun u tC H1 locs htC hvm hw_21 hB hz1 hk1 hS => ?_)
            obtain ⟨fS9_22, sp9_23, wg9_24⟩ := u
            try dsimp only at hw_21 hB
            obtain ⟨hP1, hK1, hD1⟩ := hB
            rw [htC] at hP1
            have hK1 := va_K.moved hvm.symm hK1
            obtain ⟨hP, hD⟩ := va_join (wr := []) (w1 := [(zo14irriiiiiirriirrrrlriiii m0 th aS aI im (nI a) sp9_23 (nI E) wg9_24 0 aB aT se dn aG aO aN aD bv aY rn kd nu tv), (zaI aS cS 901 fS9_22)]) hP hD [0, 1] [] rfl rfl (by decide) (by decide) hk1 hFc hP1 hD1
            have hK := (hK.sub (tys' := []) [] rfl).app hK1
            generalize H1 = H at hP hS ⊢
            have hP : va_P (dC, dI) vwCl [(zo14irriiiiiirriirrrrlriiii m0 th aS aI im (nI a) sp9_23 (nI E) wg9_24 0 aB aT se dn aG aO aN aD bv aY rn kd nu tv), (zaI aS cS 901 fS9_22)] H := hP
            have hD : va_D A [(zo14irriiiiiirriirrrrlriiii m0 th aS aI im (nI a) sp9_23 (nI E) wg9_24 0 aB aT se dn aG aO aN aD bv aY rn kd nu tv), (zaI aS cS 901 fS9_22)] := hD
            have hK : va_K (dC, dI) vwCl [(cS, .int)] s := hK
            obtain ⟨p_25, rfl, h_28, h_29, hF_30, q9⟩ := hw_21
            rcases q9 with ⟨rfl, eP_27⟩ | ⟨rfl, L_26, eP_27, h_31, hI_32, h_33⟩
            · skip
              refine lv_aload_n hx hb dX12_some_34 rfl (lv_at hl 0 rfl) ?_
              refine lv_bipush (v := (-3)) hx hb dX12_some_35 (by decide) ?_
              have hPc := hP.sub (ws' := [(zo14irriiiiiirriirrrrlriiii m0 th aS aI im (nI a) (nI p_25) (nI E) 1 0 aB aT se dn aG aO aN aD bv aY rn kd nu tv)]) [0] rfl
              have hKc := hK.sub (tys' := []) [] rfl
              refine va_csv (va_runV (As := [.int (-3)]) (rest := []) ⟨hx, hb, hml, hown, hts⟩ (c_emitsW l dC dI m0 aS aI aB aT aG aO aN aD aY th im (nI a) (nI p_25) (nI E) 1 0 se dn rn kd nu tv bv (-3)) (cwV 1 hts gX12_some_X12_emits rfl rfl rfl hd_yX12_emits ⟨Nat.le_of_ble_eq_true rfl, Nat.le_of_ble_eq_true rfl⟩) ⟨fun a U g mk q => by obtain ⟨q0, qP, qK⟩ := q; exact ⟨q0, mvP g mk a qP, mvK g mk a qK⟩, va_recv hK hP (ci := 14) (q := (RX12, TX12, 23)) (q0 := 0) rfl rfl, fun U hU hW => ⟨rfl, by rw [hU]; exact hPc, va_K.moved hW.alike hKc⟩⟩ rfl rfl hl.1 rfl (lv_room (Nat.le_of_ble_eq_true rfl)) dX12_some_37 ⟨Nat.le_of_ble_eq_true rfl, Nat.le_of_ble_eq_true rfl⟩).run (fun hw_35 => ?_)
              refine lv_goto (tgt := 4) hx hb dX12_some_40 (by decide) ?_
              exact ih4 (p_25) ([]) (0) (1) (fS9_22) (by omega) (by omega) ((hF).tr hF_30) (Or.inl ⟨rfl, hE9.trans (ps_bad hs9 eP_27)⟩) _ _ (hK.sub [0] rfl) (hP.sub [0, 1] rfl) (hD.sub [0, 1] (by decide) rfl) hS ls (lv_sub hl [0] rfl)
            · skip
              have k5 := hI_32.2.2.2.2.1
              have hqL_26 : ((K ++ L1) ++ L_26).length = (K ++ L1).length + L_26.length := List.length_append
              refine lv_aload_n hx hb dX12_some_34 rfl (lv_at hl 0 rfl) ?_
              refine lv_bipush (v := (-3)) hx hb dX12_some_35 (by decide) ?_
              have hPc := hP.sub (ws' := [(zo14irriiiiiirriirrrrlriiii m0 th aS aI im (nI a) (nI p_25) (nI E) 0 0 aB aT se dn aG aO aN aD bv aY rn kd nu tv), (zaI aS cS 901 fS9_22)]) [0, 1] rfl
              have hDc := hD.sub (ws' := [(zo14irriiiiiirriirrrrlriiii m0 th aS aI im (nI a) (nI p_25) (nI E) 0 0 aB aT se dn aG aO aN aD bv aY rn kd nu tv), (zaI aS cS 901 fS9_22)]) [0, 1] (by decide) rfl
              have hKc := hK.sub (tys' := [(cS, .int)]) [0] rfl
              have hFc := va_free (wc := [(zo14irriiiiiirriirrrrlriiii m0 th aS aI im (nI a) (nI p_25) (nI E) 0 0 aB aT se dn aG aO aN aD bv aY rn kd nu tv), (zaI aS cS 901 fS9_22)]) hD hS hA [0, 1] rfl
              refine va_callv (va_runV (As := [.int (-3)]) (rest := []) ⟨hx, hb, hml, hown, hts⟩ (c_emits l dC dI m0 aS aI aB aT aG aO aN aD aY th im (nI a) (nI p_25) (nI E) 0 0 se dn rn kd nu tv bv cS fS9_22 a ((K ++ L1) ++ L_26).length (-3) H.size (ga) ((hI_32).2.2.2.1) (by have := (hI_32).2.2.2.2.1; omega)) (cwV 1 hts gX12_some_X12_emits rfl rfl rfl hd_yX12_emits ⟨Nat.le_of_ble_eq_true rfl, Nat.le_of_ble_eq_true rfl⟩) ⟨fun a U g mk q => by obtain ⟨q0, q1, qP, qK, qD⟩ := q; exact ⟨q0, mvz g mk a q1, mvP g mk a qP, mvK g mk a qK, qD⟩, va_recv hK hP (ci := 14) (q := (RX12, TX12, 23)) (q0 := 0) rfl rfl, fun U hU hW => ⟨rfl, by rw [hU], by rw [hU]; exact hPc, va_K.moved hW.alike hKc, hDc.weaken (fun _ _ _ _ => trivial)⟩⟩ rfl rfl hl.1 rfl (lv_room (Nat.le_of_ble_eq_true rfl)) dX12_some_37 ⟨Nat.le_of_ble_eq_true rfl, Nat.le_of_ble_eq_true rfl⟩) hS (fun q _ h => hFc q h) hFc (fun u tC H1 locs htC hvm hw_37 hB hz1 hk1 hS => ?_)
              obtain ⟨fS9_38, rfl⟩ : ∃ z, z = u := ⟨_, rfl⟩
              try dsimp only at hw_37 hB
              obtain ⟨hP1, hK1, hD1⟩ := hB
              rw [htC] at hP1
              have hK1 := va_K.moved hvm.symm hK1
              obtain ⟨hP, hD⟩ := va_join (wr := []) (w1 := [(zo14irriiiiiirriirrrrlriiii m0 th aS aI im (nI a) (nI p_25) (nI E) 0 0 aB aT se dn aG aO aN aD bv aY rn kd nu tv), (zaI aS cS 901 fS9_38)]) hP hD [0, 1] [] rfl rfl (by decide) (by decide) hk1 hFc hP1 hD1
              have hK := (hK.sub (tys' := []) [] rfl).app hK1
              generalize H1 = H at hP hS ⊢
              have hP : va_P (dC, dI) vwCl [(zo14irriiiiiirriirrrrlriiii m0 th aS aI im (nI a) (nI p_25) (nI E) 0 0 aB aT se dn aG aO aN aD bv aY rn kd nu tv), (zaI aS cS 901 fS9_38)] H := hP
              have hD : va_D A [(zo14irriiiiiirriirrrrlriiii m0 th aS aI im (nI a) (nI p_25) (nI E) 0 0 aB aT se dn aG aO aN aD bv aY rn kd nu tv), (zaI aS cS 901 fS9_38)] := hD
              have hK : va_K (dC, dI) vwCl [(cS, .int)] s := hK
              obtain rfl : fS9_38 = emt fS9_22 a ((K ++ L1) ++ L_26).length (-3) := by rcases hw_37 with ⟨q, _⟩ | ⟨_, q⟩; exact absurd rfl q; exact q
              have hI_39 : PI (emt fS9_22 a ((K ++ L1) ++ L_26).length (-3)) a (((K ++ L1) ++ L_26) ++ [1803]) (((d + 1) + 1) - 1) p_25 E := PI.em (t := 1803) ((hI_32).mono (by omega) (by omega)) (by omega) (by omega) (stepd_either (by omega)) (by decide)
              have hF_40 : PF a fS (emt fS9_22 a ((K ++ L1) ++ L_26).length (-3)) := ((hF).tr hF_30).tr (PF_emt (k := ((K ++ L1) ++ L_26).length) (x := (-3)) ga (by have := (hI_32).2.2.2.2.1; omega))
              have hKhI_39 : (((K ++ L1) ++ L_26) ++ [1803]).length = ((K ++ L1) ++ L_26).length + 1 := by rw [List.length_append]; rfl
              refine lv_goto (tgt := 4) hx hb dX12_some_40 (by decide) ?_
              exact ih4 (p_25) (L1 ++ (L_26 ++ [1803])) (m2) (0) (emt fS9_22 a ((K ++ L1) ++ L_26).length (-3)) (by omega) (by omega) (hF_40) (Or.inr ⟨rfl, hE9.trans (ps_go hs9 eP_27), by omega, by omega, PI.as (PI.as hI_39), by simp only [List.length_append, List.length_cons, List.length_nil]; omega⟩) _ _ (hK.sub [0] rfl) (hP.sub [0, 1] rfl) (hD.sub [0, 1] (by decide) rfl) hS ls (lv_sub hl [0] rfl)
    exact L4 _ (p_6) ([]) (0) (1) (fS9_3) (Nat.lt_succ_self _) (by omega) ((PF.rf).tr hF_11) (Or.inl ⟨rfl, pSm_n eP_8⟩) _ _ (hK.sub [0] rfl) (hP.sub [0, 1] rfl) (hD.sub [0, 1] (by decide) rfl) hS ls (lv_sub hl [0] rfl)
  · skip
    have k5 := hI_13.2.2.2.2.1
    have hqL_7 : (K ++ L_7).length = K.length + L_7.length := List.length_append
    have L4 : ∀ (nF : Nat) (p1 : Nat) (L1 : List Nat) (m1 : Nat) (w1 : Int32) (f1 : Nat → Int32), E - p1 < nF → (p0 ≤ p1 ∧ p1 ≤ E) → (PF a fS f1) → ((w1 = 1 ∧ pSm ss (pFac ss 5) p0 = (none, p1)) ∨ (w1 = 0 ∧ pSm ss (pFac ss 5) p0 = pSep ss 124 1803 (pEv ss (pFac ss 5)) m1 (some L1, p1) ∧ 101 ≤ m1 + p1 ∧ p0 + 3 ≤ p1 ∧ PI f1 a (K ++ L1) (d + 1) p1 E ∧ L1.length + p0 ≤ p1)) → ∀ (H : Heap) (locs : List Loc), va_K (dC, dI) vwCl [(cS, .int)] s → va_P (dC, dI) vwCl [(zo14irriiiiiirriirrrrlriiii m0 th aS aI im (nI a) (nI p1) (nI E) w1 0 aB aT se dn aG aO aN aD bv aY rn kd nu tv), (zaI aS cS 901 f1)] H → va_D A [(zo14irriiiiiirriirrrrlriiii m0 th aS aI im (nI a) (nI p1) (nI E) w1 0 aB aT se dn aG aO aN aD bv aY rn kd nu tv), (zaI aS cS 901 f1)] → va_S A s.heap H locs → ∀ (ls : Array Slot), lv_has ls 1 [(0, .ref m0)] → W p l e ({ frames := 22, cells := 0, slots := 0, locals := 471 } : Room) s m args below meth c H locs 0 0 Q (F0 m 4 ls []) := by
      intro nF
      induction nF with
      | zero => intro p1 L1 m1 w1 f1 hm; exact absurd hm (Nat.not_lt_zero _)
      | succ nF ih4 =>
        intro p1 L1 m1 w1 f1 hm h1 hF hw1 H locs hK hP hD hS ls hl
        obtain ⟨h1a, h1b⟩ := h1
        rcases hw1 with ⟨rfl, hE9⟩ | ⟨rfl, hE9, hm9, h3, hI, h4⟩
        · skip
          refine lv_aload_n hx hb dX12_some_4 rfl (lv_at hl 0 rfl) ?_
          refine va_get (D := (dC, dI)) (ci := 14) (v := .int 1) (C := RX12) (T := TX12) (N := 23) hx hb hts kc_some0_0 hown hK hP 0 rfl rfl 7 (by decide) (hts (.fieldLink RX12 65 "MistHeapsModel" "isWrong" "Z") kc_some0_1) (fun _ h9 => h9) rfl dX12_some_5 ?_
          refine lv_if_ne (tgt := 43) hx hb dX12_some_8 (by decide) (fun _ => ?_) (fun c_41 => absurd c_41 (by decide))
          rw [hQ]
          have hP9 := hP.sub (ws' := [(zo14irriiiiiirriirrrrlriiii m0 th aS aI im (nI a) (nI p1) (nI E) 1 0 aB aT se dn aG aO aN aD bv aY rn kd nu tv), (zaI aS cS 901 f1)]) [0, 1] rfl
          have hD9 := hD.sub (ws' := [(zo14irriiiiiirriirrrrlriiii m0 th aS aI im (nI a) (nI p1) (nI E) 1 0 aB aT se dn aG aO aN aD bv aY rn kd nu tv), (zaI aS cS 901 f1)]) [0, 1] (by decide) rfl
          have hK9 := hK.sub (tys' := [(cS, .int)]) [0] rfl
          exact W.vret hx hb hr (fun tQ htQ hWQ => ⟨⟨(f1, (nI p1), 1), rfl, ⟨p1, rfl, by omega, by omega, hF, Or.inl ⟨rfl, hE9⟩⟩, by rw [htQ]; exact hP9, va_K.moved hWQ.alike hK9, hD9⟩, hS.F htQ⟩) hS.2.2 dX12_some_43
        · skip
          have k5 := hI.2.2.2.2.1
          have hq1 : (K ++ L1).length = K.length + L1.length := List.length_append
          refine lv_aload_n hx hb dX12_some_4 rfl (lv_at hl 0 rfl) ?_
          refine va_get (D := (dC, dI)) (ci := 14) (v := .int 0) (C := RX12) (T := TX12) (N := 23) hx hb hts kc_some0_0 hown hK hP 0 rfl rfl 7 (by decide) (hts (.fieldLink RX12 65 "MistHeapsModel" "isWrong" "Z") kc_some0_1) (fun _ h9 => h9) rfl dX12_some_5 ?_
          refine lv_if_ne (tgt := 43) hx hb dX12_some_8 (by decide) (fun c_42 => absurd c_42 (by decide)) (fun _ => ?_)
          refine lv_aload_n hx hb dX12_some_11 rfl (lv_at hl 0 rfl) ?_
          have hPc := hP.sub (ws' := [(zo14irriiiiiirriirrrrlriiii m0 th aS aI im (nI a) (nI p1) (nI E) 0 0 aB aT se dn aG aO aN aD bv aY rn kd nu tv), (zaI aS cS 901 f1)]) [0, 1] rfl
          have hKc := hK.sub (tys' := [(cS, .int)]) [0] rfl
          refine vp_callSi (va_runV (As := []) (rest := []) ⟨hx, hb, hml, hown, hts⟩ (c_here l dC dI m0 aS aI aB aT aG aO aN aD aY th im (nI a) (nI p1) (nI E) 0 0 se dn rn kd nu tv bv cS f1 a p1 E (by omega) (by omega) (by omega)) (cwV 0 hts gX12_some_X12_here rfl rfl rfl hd_yX12_here ⟨Nat.le_of_ble_eq_true rfl, Nat.le_of_ble_eq_true rfl⟩) ⟨fun a U g mk q => by obtain ⟨q0, qP, qK⟩ := q; exact ⟨q0, mvP g mk a qP, mvK g mk a qK⟩, va_recv hK hP (ci := 14) (q := (RX12, TX12, 23)) (q0 := 0) rfl rfl, fun U hU hW => ⟨rfl, by rw [hU]; exact hPc, va_K.moved hW.alike hKc⟩⟩ rfl rfl hl.1 rfl (lv_room (Nat.le_of_ble_eq_true rfl)) dX12_some_12 ⟨Nat.le_of_ble_eq_true rfl, Nat.le_of_ble_eq_true rfl⟩).run (fun r_43 hw_44 => ?_)
          refine lv_bipush (v := 124) hx hb dX12_some_15 (by decide) ?_
          refine lv_icmp_ne (tgt := 43) hx hb dX12_some_17 (by decide) (fun c_45 => ?_) (fun c_45 => ?_)
          · skip
            have hn9 : ¬ ss p1 = 124 := fun z => c_45 (by rw [hw_44]; exact ((TP_PF gT gE hF).eq (c := 124) (by omega) (by omega)).mpr z)
            rw [hQ]
            have hP9 := hP.sub (ws' := [(zo14irriiiiiirriirrrrlriiii m0 th aS aI im (nI a) (nI p1) (nI E) 0 0 aB aT se dn aG aO aN aD bv aY rn kd nu tv), (zaI aS cS 901 f1)]) [0, 1] rfl
            have hD9 := hD.sub (ws' := [(zo14irriiiiiirriirrrrlriiii m0 th aS aI im (nI a) (nI p1) (nI E) 0 0 aB aT se dn aG aO aN aD bv aY rn kd nu tv), (zaI aS cS 901 f1)]) [0, 1] (by decide) rfl
            have hK9 := hK.sub (tys' := [(cS, .int)]) [0] rfl
            exact W.vret hx hb hr (fun tQ htQ hWQ => ⟨⟨(f1, (nI p1), 0), rfl, ⟨p1, rfl, by omega, by omega, hF, Or.inr ⟨rfl, L1, hE9.trans (ps_end hn9), by omega, hI, by (try simp only [List.length_append, List.length_cons, List.length_nil]); omega⟩⟩, by rw [htQ]; exact hP9, va_K.moved hWQ.alike hK9, hD9⟩, hS.F htQ⟩) hS.2.2 dX12_some_43
          · skip
            have hs9 : ss p1 = 124 := ((TP_PF gT gE hF).eq (c := 124) (by omega) (by omega)).mp (by rw [← hw_44, c_45]; rfl)
            have hlt : p1 < E := Nat.lt_of_not_le (fun z => by have := gT.2.1 p1 z; omega)
            obtain ⟨m2, rfl⟩ : ∃ q : Nat, m1 = q + 1 := ⟨m1 - 1, by omega⟩
            refine lv_aload_n hx hb dX12_some_20 rfl (lv_at hl 0 rfl) ?_
            refine lv_dup hx hb dX12_some_21 rfl ?_
            refine va_get (D := (dC, dI)) (ci := 14) (v := .int (nI p1)) (C := RX12) (T := TX12) (N := 23) hx hb hts kc_some0_0 hown hK hP 0 rfl rfl 5 (by decide) (hts (.fieldLink RX12 59 "MistHeapsModel" "spot" "I") kc_some0_2) (fun _ h9 => h9) rfl dX12_some_22 ?_
            refine lv_iconst (v := 1) hx hb dX12_some_25 (by decide) ?_
            refine lv_iadd hx hb dX12_some_26 ?_
            refine qi_as (y := nI (p1 + 1)) (nI_add p1 1) ?_
            refine va_put (D := (dC, dI)) (ci := 14) (v := .int (nI (p1 + 1))) (ty := .int) (C := RX12) (T := TX12) (N := 23) hx hb hts kc_some0_0 tyX12 tyX12_ok nmX12 hown hK hP hD hS 0 rfl rfl 5 (by decide) (hts (.fieldLink RX12 59 "MistHeapsModel" "spot" "I") kc_some0_2) (fun _ h9 => h9) rfl (by decide +kernel) rfl rfl (Nat.le_of_ble_eq_true rfl) dX12_some_27 (fun H locs hP hD hS => ?_)
            have hP : va_P (dC, dI) vwCl [(zo14irriiiiiirriirrrrlriiii m0 th aS aI im (nI a) (nI (p1 + 1)) (nI E) 0 0 aB aT se dn aG aO aN aD bv aY rn kd nu tv), (zaI aS cS 901 f1)] H := hP
            have hD : va_D A [(zo14irriiiiiirriirrrrlriiii m0 th aS aI im (nI a) (nI (p1 + 1)) (nI E) 0 0 aB aT se dn aG aO aN aD bv aY rn kd nu tv), (zaI aS cS 901 f1)] := hD
            refine lv_aload_n hx hb dX12_some_30 rfl (lv_at hl 0 rfl) ?_
            have hPc := hP.sub (ws' := [(zo14irriiiiiirriirrrrlriiii m0 th aS aI im (nI a) (nI (p1 + 1)) (nI E) 0 0 aB aT se dn aG aO aN aD bv aY rn kd nu tv), (zaI aS cS 901 f1)]) [0, 1] rfl
            have hDc := hD.sub (ws' := [(zo14irriiiiiirriirrrrlriiii m0 th aS aI im (nI a) (nI (p1 + 1)) (nI E) 0 0 aB aT se dn aG aO aN aD bv aY rn kd nu tv), (zaI aS cS 901 f1)]) [0, 1] (by decide) rfl
            have hKc := hK.sub (tys' := [(cS, .int)]) [0] rfl
            have hFc := va_free (wc := [(zo14irriiiiiirriirrrrlriiii m0 th aS aI im (nI a) (nI (p1 + 1)) (nI E) 0 0 aB aT se dn aG aO aN aD bv aY rn kd nu tv), (zaI aS cS 901 f1)]) hD hS hA [0, 1] rfl
            refine va_callv (va_runV (As := []) (rest := []) ⟨hx, hb, hml, hown, hts⟩ (c_every0 l dC dI sK sV m0 aS aI aB aT aG aO aN aD aY th im (nI a) (nI (p1 + 1)) (nI E) 0 0 se dn rn kd nu tv bv cS f1 a (p1 + 1) E (K ++ L1) (d + 1) ss H.size ((hI).mono (by omega) (by omega)) ((TP_PF gT gE (hF)))) (cwV 0 hts gX12_some_X12_every rfl rfl rfl hd_yX12_every ⟨Nat.le_of_ble_eq_true rfl, Nat.le_of_ble_eq_true rfl⟩) ⟨fun a U g mk q => by obtain ⟨q0, q1, qP, qK, qD, qhE⟩ := q; exact ⟨q0, mvz g mk a q1, mvP g mk a qP, mvK g mk a qK, qD, qhE.mv g mk a⟩, va_recv hK hP (ci := 14) (q := (RX12, TX12, 23)) (q0 := 0) rfl rfl, fun U hU hW => ⟨rfl, by rw [hU], by rw [hU]; exact hPc, va_K.moved hW.alike hKc, hDc.weaken (fun _ _ _ _ => trivial), hE.call hS hU hW (fun q h => hFc q h)⟩⟩ rfl rfl hl.1 rfl (lv_room (Nat.le_of_ble_eq_true rfl)) dX12_some_31 ⟨Nat.le_of_ble_eq_true rfl, Nat.le_of_ble_eq_true rfl⟩) hS (fun q _ h => hFc q h) hFc (fun u tC H1 locs htC hvm hw_47 hB hz1 hk1 hS => ?_)
            obtain ⟨fS9_48, sp9_49, wg9_50⟩ := u
            try dsimp only at hw_47 hB
            obtain ⟨hP1, hK1, hD1⟩ := hB
            rw [htC] at hP1
            have hK1 := va_K.moved hvm.symm hK1
            obtain ⟨hP, hD⟩ := va_join (wr := []) (w1 := [(zo14irriiiiiirriirrrrlriiii m0 th aS aI im (nI a) sp9_49 (nI E) wg9_50 0 aB aT se dn aG aO aN aD bv aY rn kd nu tv), (zaI aS cS 901 fS9_48)]) hP hD [0, 1] [] rfl rfl (by decide) (by decide) hk1 hFc hP1 hD1
            have hK := (hK.sub (tys' := []) [] rfl).app hK1
            generalize H1 = H at hP hS ⊢
            have hP : va_P (dC, dI) vwCl [(zo14irriiiiiirriirrrrlriiii m0 th aS aI im (nI a) sp9_49 (nI E) wg9_50 0 aB aT se dn aG aO aN aD bv aY rn kd nu tv), (zaI aS cS 901 fS9_48)] H := hP
            have hD : va_D A [(zo14irriiiiiirriirrrrlriiii m0 th aS aI im (nI a) sp9_49 (nI E) wg9_50 0 aB aT se dn aG aO aN aD bv aY rn kd nu tv), (zaI aS cS 901 fS9_48)] := hD
            have hK : va_K (dC, dI) vwCl [(cS, .int)] s := hK
            obtain ⟨p_51, rfl, h_54, h_55, hF_56, q9⟩ := hw_47
            rcases q9 with ⟨rfl, eP_53⟩ | ⟨rfl, L_52, eP_53, h_57, hI_58, h_59⟩
            · skip
              refine lv_aload_n hx hb dX12_some_34 rfl (lv_at hl 0 rfl) ?_
              refine lv_bipush (v := (-3)) hx hb dX12_some_35 (by decide) ?_
              have hPc := hP.sub (ws' := [(zo14irriiiiiirriirrrrlriiii m0 th aS aI im (nI a) (nI p_51) (nI E) 1 0 aB aT se dn aG aO aN aD bv aY rn kd nu tv)]) [0] rfl
              have hKc := hK.sub (tys' := []) [] rfl
              refine va_csv (va_runV (As := [.int (-3)]) (rest := []) ⟨hx, hb, hml, hown, hts⟩ (c_emitsW l dC dI m0 aS aI aB aT aG aO aN aD aY th im (nI a) (nI p_51) (nI E) 1 0 se dn rn kd nu tv bv (-3)) (cwV 1 hts gX12_some_X12_emits rfl rfl rfl hd_yX12_emits ⟨Nat.le_of_ble_eq_true rfl, Nat.le_of_ble_eq_true rfl⟩) ⟨fun a U g mk q => by obtain ⟨q0, qP, qK⟩ := q; exact ⟨q0, mvP g mk a qP, mvK g mk a qK⟩, va_recv hK hP (ci := 14) (q := (RX12, TX12, 23)) (q0 := 0) rfl rfl, fun U hU hW => ⟨rfl, by rw [hU]; exact hPc, va_K.moved hW.alike hKc⟩⟩ rfl rfl hl.1 rfl (lv_room (Nat.le_of_ble_eq_true rfl)) dX12_some_37 ⟨Nat.le_of_ble_eq_true rfl, Nat.le_of_ble_eq_true rfl⟩).run (fun hw_61 => ?_)
              refine lv_goto (tgt := 4) hx hb dX12_some_40 (by decide) ?_
              exact ih4 (p_51) ([]) (0) (1) (fS9_48) (by omega) (by omega) ((hF).tr hF_56) (Or.inl ⟨rfl, hE9.trans (ps_bad hs9 eP_53)⟩) _ _ (hK.sub [0] rfl) (hP.sub [0, 1] rfl) (hD.sub [0, 1] (by decide) rfl) hS ls (lv_sub hl [0] rfl)
            · skip
              have k5 := hI_58.2.2.2.2.1
              have hqL_52 : ((K ++ L1) ++ L_52).length = (K ++ L1).length + L_52.length := List.length_append
              refine lv_aload_n hx hb dX12_some_34 rfl (lv_at hl 0 rfl) ?_
              refine lv_bipush (v := (-3)) hx hb dX12_some_35 (by decide) ?_
              have hPc := hP.sub (ws' := [(zo14irriiiiiirriirrrrlriiii m0 th aS aI im (nI a) (nI p_51) (nI E) 0 0 aB aT se dn aG aO aN aD bv aY rn kd nu tv), (zaI aS cS 901 fS9_48)]) [0, 1] rfl
              have hDc := hD.sub (ws' := [(zo14irriiiiiirriirrrrlriiii m0 th aS aI im (nI a) (nI p_51) (nI E) 0 0 aB aT se dn aG aO aN aD bv aY rn kd nu tv), (zaI aS cS 901 fS9_48)]) [0, 1] (by decide) rfl
              have hKc := hK.sub (tys' := [(cS, .int)]) [0] rfl
              have hFc := va_free (wc := [(zo14irriiiiiirriirrrrlriiii m0 th aS aI im (nI a) (nI p_51) (nI E) 0 0 aB aT se dn aG aO aN aD bv aY rn kd nu tv), (zaI aS cS 901 fS9_48)]) hD hS hA [0, 1] rfl
              refine va_callv (va_runV (As := [.int (-3)]) (rest := []) ⟨hx, hb, hml, hown, hts⟩ (c_emits l dC dI m0 aS aI aB aT aG aO aN aD aY th im (nI a) (nI p_51) (nI E) 0 0 se dn rn kd nu tv bv cS fS9_48 a ((K ++ L1) ++ L_52).length (-3) H.size (ga) ((hI_58).2.2.2.1) (by have := (hI_58).2.2.2.2.1; omega)) (cwV 1 hts gX12_some_X12_emits rfl rfl rfl hd_yX12_emits ⟨Nat.le_of_ble_eq_true rfl, Nat.le_of_ble_eq_true rfl⟩) ⟨fun a U g mk q => by obtain ⟨q0, q1, qP, qK, qD⟩ := q; exact ⟨q0, mvz g mk a q1, mvP g mk a qP, mvK g mk a qK, qD⟩, va_recv hK hP (ci := 14) (q := (RX12, TX12, 23)) (q0 := 0) rfl rfl, fun U hU hW => ⟨rfl, by rw [hU], by rw [hU]; exact hPc, va_K.moved hW.alike hKc, hDc.weaken (fun _ _ _ _ => trivial)⟩⟩ rfl rfl hl.1 rfl (lv_room (Nat.le_of_ble_eq_true rfl)) dX12_some_37 ⟨Nat.le_of_ble_eq_true rfl, Nat.le_of_ble_eq_true rfl⟩) hS (fun q _ h => hFc q h) hFc (fun u tC H1 locs htC hvm hw_63 hB hz1 hk1 hS => ?_)
              obtain ⟨fS9_64, rfl⟩ : ∃ z, z = u := ⟨_, rfl⟩
              try dsimp only at hw_63 hB
              obtain ⟨hP1, hK1, hD1⟩ := hB
              rw [htC] at hP1
              have hK1 := va_K.moved hvm.symm hK1
              obtain ⟨hP, hD⟩ := va_join (wr := []) (w1 := [(zo14irriiiiiirriirrrrlriiii m0 th aS aI im (nI a) (nI p_51) (nI E) 0 0 aB aT se dn aG aO aN aD bv aY rn kd nu tv), (zaI aS cS 901 fS9_64)]) hP hD [0, 1] [] rfl rfl (by decide) (by decide) hk1 hFc hP1 hD1
              have hK := (hK.sub (tys' := []) [] rfl).app hK1
              generalize H1 = H at hP hS ⊢
              have hP : va_P (dC, dI) vwCl [(zo14irriiiiiirriirrrrlriiii m0 th aS aI im (nI a) (nI p_51) (nI E) 0 0 aB aT se dn aG aO aN aD bv aY rn kd nu tv), (zaI aS cS 901 fS9_64)] H := hP
              have hD : va_D A [(zo14irriiiiiirriirrrrlriiii m0 th aS aI im (nI a) (nI p_51) (nI E) 0 0 aB aT se dn aG aO aN aD bv aY rn kd nu tv), (zaI aS cS 901 fS9_64)] := hD
              have hK : va_K (dC, dI) vwCl [(cS, .int)] s := hK
              obtain rfl : fS9_64 = emt fS9_48 a ((K ++ L1) ++ L_52).length (-3) := by rcases hw_63 with ⟨q, _⟩ | ⟨_, q⟩; exact absurd rfl q; exact q
              have hI_65 : PI (emt fS9_48 a ((K ++ L1) ++ L_52).length (-3)) a (((K ++ L1) ++ L_52) ++ [1803]) (((d + 1) + 1) - 1) p_51 E := PI.em (t := 1803) ((hI_58).mono (by omega) (by omega)) (by omega) (by omega) (stepd_either (by omega)) (by decide)
              have hF_66 : PF a fS (emt fS9_48 a ((K ++ L1) ++ L_52).length (-3)) := ((hF).tr hF_56).tr (PF_emt (k := ((K ++ L1) ++ L_52).length) (x := (-3)) ga (by have := (hI_58).2.2.2.2.1; omega))
              have hKhI_65 : (((K ++ L1) ++ L_52) ++ [1803]).length = ((K ++ L1) ++ L_52).length + 1 := by rw [List.length_append]; rfl
              refine lv_goto (tgt := 4) hx hb dX12_some_40 (by decide) ?_
              exact ih4 (p_51) (L1 ++ (L_52 ++ [1803])) (m2) (0) (emt fS9_48 a ((K ++ L1) ++ L_52).length (-3)) (by omega) (by omega) (hF_66) (Or.inr ⟨rfl, hE9.trans (ps_go hs9 eP_53), by omega, by omega, PI.as (PI.as hI_65), by simp only [List.length_append, List.length_cons, List.length_nil]; omega⟩) _ _ (hK.sub [0] rfl) (hP.sub [0, 1] rfl) (hD.sub [0, 1] (by decide) rfl) hS ls (lv_sub hl [0] rfl)
    exact L4 _ (p_6) (L_7) (101) (0) (fS9_3) (Nat.lt_succ_self _) (by omega) ((PF.rf).tr hF_11) (Or.inr ⟨rfl, pSm_s eP_8, by omega, by omega, hI_13, by omega⟩) _ _ (hK.sub [0] rfl) (hP.sub [0, 1] rfl) (hD.sub [0, 1] (by decide) rfl) hS ls (lv_sub hl [0] rfl)
end mg12b
