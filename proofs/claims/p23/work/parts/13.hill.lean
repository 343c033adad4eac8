theorem ggX12_much_X12_spells : GoodIn wsX12_much wsX12_spells := gga_of 1246 rfl rfl rfl
theorem gX12_much_X12_spells : GoodIn wsX12_much (wsV RX12 115 RX12 yX12_spells wsX12_spells) := goodIn_app (ggh_of [1243, 1245, 26, 72] rfl rfl rfl) ggX12_much_X12_spells
theorem ggX12_much_X12_figures : GoodIn wsX12_much wsX12_figures := gga_of 1252 rfl rfl rfl
theorem gX12_much_X12_figures : GoodIn wsX12_much (wsV RX12 109 RX12 yX12_figures wsX12_figures) := goodIn_app (ggh_of [1249, 1251, 27, 72] rfl rfl rfl) ggX12_much_X12_figures
theorem ggX12_much_X12_must : GoodIn wsX12_much wsX12_must := gga_of 1237 rfl rfl rfl
theorem gX12_much_X12_must : GoodIn wsX12_much (wsV RX12 82 RX12 yX12_must wsX12_must) := goodIn_app (ggh_of [1234, 1236, 24, 72] rfl rfl rfl) ggX12_much_X12_must
theorem ggX12_much_X12_some : GoodIn wsX12_much wsX12_some := gga_of 1256 rfl rfl rfl
theorem gX12_much_X12_some : GoodIn wsX12_much (wsV RX12 98 RX12 yX12_some wsX12_some) := goodIn_app (ggh_of [1253, 1255, 28, 72] rfl rfl rfl) ggX12_much_X12_some
theorem ggX12_much_X12_emits : GoodIn wsX12_much wsX12_emits := gga_of 1268 rfl rfl rfl
theorem gX12_much_X12_emits : GoodIn wsX12_much (wsV RX12 95 RX12 yX12_emits wsX12_emits) := goodIn_app (ggh_of [1265, 1267, 31, 72] rfl rfl rfl) ggX12_much_X12_emits
theorem ggX12_clauseOfS_X12_must : GoodIn wsX12_clauseOfS wsX12_must := gga_of 1237 rfl rfl rfl
theorem gX12_clauseOfS_X12_must : GoodIn wsX12_clauseOfS (wsV RX12 82 RX12 yX12_must wsX12_must) := goodIn_app (ggh_of [1234, 1236, 24, 72] rfl rfl rfl) ggX12_clauseOfS_X12_must
theorem ggX12_clauseOfS_X12_here : GoodIn wsX12_clauseOfS wsX12_here := gga_of 1229 rfl rfl rfl
theorem gX12_clauseOfS_X12_here : GoodIn wsX12_clauseOfS (wsV RX12 69 RX12 yX12_here wsX12_here) := goodIn_app (ggh_of [1226, 1228, 22, 72] rfl rfl rfl) ggX12_clauseOfS_X12_here
theorem ggX12_clauseOfS_X12_spells : GoodIn wsX12_clauseOfS wsX12_spells := gga_of 1246 rfl rfl rfl
theorem gX12_clauseOfS_X12_spells : GoodIn wsX12_clauseOfS (wsV RX12 115 RX12 yX12_spells wsX12_spells) := goodIn_app (ggh_of [1243, 1245, 26, 72] rfl rfl rfl) ggX12_clauseOfS_X12_spells
theorem ggX12_clauseOfS_X12_figures : GoodIn wsX12_clauseOfS wsX12_figures := gga_of 1252 rfl rfl rfl
theorem gX12_clauseOfS_X12_figures : GoodIn wsX12_clauseOfS (wsV RX12 109 RX12 yX12_figures wsX12_figures) := goodIn_app (ggh_of [1249, 1251, 27, 72] rfl rfl rfl) ggX12_clauseOfS_X12_figures
theorem ggX12_clauseOfS_X12_much : GoodIn wsX12_clauseOfS wsX12_much := gga_of 1242 rfl rfl rfl
theorem gX12_clauseOfS_X12_much : GoodIn wsX12_clauseOfS (wsV RX12 121 RX12 yX12_much wsX12_much) := goodIn_app (ggh_of [1239, 1241, 25, 72] rfl rfl rfl) ggX12_clauseOfS_X12_much
theorem ggX12_clauseHere_X12_here : GoodIn wsX12_clauseHere wsX12_here := gga_of 1229 rfl rfl rfl
theorem gX12_clauseHere_X12_here : GoodIn wsX12_clauseHere (wsV RX12 69 RX12 yX12_here wsX12_here) := goodIn_app (ggh_of [1226, 1228, 22, 72] rfl rfl rfl) ggX12_clauseHere_X12_here
theorem ggX12_clauseHere_X12_much : GoodIn wsX12_clauseHere wsX12_much := gga_of 1242 rfl rfl rfl
theorem gX12_clauseHere_X12_much : GoodIn wsX12_clauseHere (wsV RX12 121 RX12 yX12_much wsX12_much) := goodIn_app (ggh_of [1239, 1241, 25, 72] rfl rfl rfl) ggX12_clauseHere_X12_much
theorem ggX12_clauseHere_X12_clauseOfS : GoodIn wsX12_clauseHere wsX12_clauseOfS := gga_of 1233 rfl rfl rfl
theorem gX12_clauseHere_X12_clauseOfS : GoodIn wsX12_clauseHere (wsV RX12 127 RX12 yX12_clauseOfS wsX12_clauseOfS) := goodIn_app (ggh_of [1230, 1232, 23, 72] rfl rfl rfl) ggX12_clauseHere_X12_clauseOfS
theorem ggX12_hill_X12_clauseHere : GoodIn wsX12_hill wsX12_clauseHere := gga_of 1225 rfl rfl rfl
theorem gX12_hill_X12_clauseHere : GoodIn wsX12_hill (wsV RX12 134 RX12 yX12_clauseHere wsX12_clauseHere) := goodIn_app (ggh_of [1222, 1224, 21, 72] rfl rfl rfl) ggX12_hill_X12_clauseHere
theorem ggX12_hill_X12_here : GoodIn wsX12_hill wsX12_here := gga_of 1229 rfl rfl rfl
theorem gX12_hill_X12_here : GoodIn wsX12_hill (wsV RX12 69 RX12 yX12_here wsX12_here) := goodIn_app (ggh_of [1226, 1228, 22, 72] rfl rfl rfl) ggX12_hill_X12_here
noncomputable def dk13hill_cX12_much_0 : List (Nat × Instr × Nat) := [(0, .aload_n 0, 1), (1, .aload_n 2, 1), (2, .invokevirtual 115, 3), (5, .aload_n 0, 1), (6, .invokevirtual 109, 3), (9, .istore_n 3, 1), (10, .aload_n 0, 1), (11, .bipush 32, 2), (13, .invokevirtual 82, 3), (16, .aload_n 0, 1), (17, .invokevirtual 98, 3), (20, .aload_n 0, 1), (21, .iload_n 1, 1), (22, .iload_n 3, 1), (23, .isub, 1), (24, .invokevirtual 95, 3), (27, .return_, 1)]
set_option maxRecDepth 100000 in
theorem dk13hill_cX12_much_0_a : dkA cX12_much dk13hill_cX12_much_0 = true := by decide +kernel
theorem dX12_much_0 : decode cX12_much 0 = .ok (.aload_n 0, 1) := dkAt dk13hill_cX12_much_0_a 0 rfl
theorem dX12_much_1 : decode cX12_much 1 = .ok (.aload_n 2, 1) := dkAt dk13hill_cX12_much_0_a 1 rfl
theorem dX12_much_2 : decode cX12_much 2 = .ok (.invokevirtual 115, 3) := dkAt dk13hill_cX12_much_0_a 2 rfl
theorem dX12_much_5 : decode cX12_much 5 = .ok (.aload_n 0, 1) := dkAt dk13hill_cX12_much_0_a 3 rfl
theorem dX12_much_6 : decode cX12_much 6 = .ok (.invokevirtual 109, 3) := dkAt dk13hill_cX12_much_0_a 4 rfl
theorem dX12_much_9 : decode cX12_much 9 = .ok (.istore_n 3, 1) := dkAt dk13hill_cX12_much_0_a 5 rfl
theorem dX12_much_10 : decode cX12_much 10 = .ok (.aload_n 0, 1) := dkAt dk13hill_cX12_much_0_a 6 rfl
theorem dX12_much_11 : decode cX12_much 11 = .ok (.bipush 32, 2) := dkAt dk13hill_cX12_much_0_a 7 rfl
theorem dX12_much_13 : decode cX12_much 13 = .ok (.invokevirtual 82, 3) := dkAt dk13hill_cX12_much_0_a 8 rfl
theorem dX12_much_16 : decode cX12_much 16 = .ok (.aload_n 0, 1) := dkAt dk13hill_cX12_much_0_a 9 rfl
theorem dX12_much_17 : decode cX12_much 17 = .ok (.invokevirtual 98, 3) := dkAt dk13hill_cX12_much_0_a 10 rfl
theorem dX12_much_20 : decode cX12_much 20 = .ok (.aload_n 0, 1) := dkAt dk13hill_cX12_much_0_a 11 rfl
theorem dX12_much_21 : decode cX12_much 21 = .ok (.iload_n 1, 1) := dkAt dk13hill_cX12_much_0_a 12 rfl
theorem dX12_much_22 : decode cX12_much 22 = .ok (.iload_n 3, 1) := dkAt dk13hill_cX12_much_0_a 13 rfl
theorem dX12_much_23 : decode cX12_much 23 = .ok (.isub, 1) := dkAt dk13hill_cX12_much_0_a 14 rfl
theorem dX12_much_24 : decode cX12_much 24 = .ok (.invokevirtual 95, 3) := dkAt dk13hill_cX12_much_0_a 15 rfl
theorem dX12_much_27 : decode cX12_much 27 = .ok (.return_, 1) := dkAt dk13hill_cX12_much_0_a 16 rfl
noncomputable def dk13hill_cX12_clauseOfS_0 : List (Nat × Instr × Nat) := [(0, .aload_n 0, 1), (1, .bipush 115, 2), (3, .invokevirtual 82, 3), (6, .aload_n 0, 1), (7, .invokevirtual 69, 3), (10, .bipush 101, 2), (12, .if_icmp .ne 12, 3), (24, .aload_n 0, 1), (25, .ldc 125, 2), (27, .invokevirtual 115, 3), (30, .aload_n 0, 1), (31, .invokevirtual 109, 3), (34, .istore_n 1, 1), (35, .aload_n 0, 1), (36, .getfield 65, 3), (39, .ifCond .ne 17, 3), (56, .return_, 1), (15, .aload_n 0, 1), (16, .bipush (-10), 2), (18, .ldc 119, 2), (20, .invokevirtual 121, 3), (23, .return_, 1), (42, .aload_n 0, 1), (43, .getfield 9, 3), (46, .sipush 191, 3), (49, .aload_n 0, 1), (50, .getfield 86, 3), (53, .iadd, 1), (54, .iload_n 1, 1), (55, .iastore, 1)]
set_option maxRecDepth 100000 in
theorem dk13hill_cX12_clauseOfS_0_a : dkA cX12_clauseOfS dk13hill_cX12_clauseOfS_0 = true := by decide +kernel
theorem dX12_clauseOfS_0 : decode cX12_clauseOfS 0 = .ok (.aload_n 0, 1) := dkAt dk13hill_cX12_clauseOfS_0_a 0 rfl
theorem dX12_clauseOfS_1 : decode cX12_clauseOfS 1 = .ok (.bipush 115, 2) := dkAt dk13hill_cX12_clauseOfS_0_a 1 rfl
theorem dX12_clauseOfS_3 : decode cX12_clauseOfS 3 = .ok (.invokevirtual 82, 3) := dkAt dk13hill_cX12_clauseOfS_0_a 2 rfl
theorem dX12_clauseOfS_6 : decode cX12_clauseOfS 6 = .ok (.aload_n 0, 1) := dkAt dk13hill_cX12_clauseOfS_0_a 3 rfl
theorem dX12_clauseOfS_7 : decode cX12_clauseOfS 7 = .ok (.invokevirtual 69, 3) := dkAt dk13hill_cX12_clauseOfS_0_a 4 rfl
theorem dX12_clauseOfS_10 : decode cX12_clauseOfS 10 = .ok (.bipush 101, 2) := dkAt dk13hill_cX12_clauseOfS_0_a 5 rfl
theorem dX12_clauseOfS_12 : decode cX12_clauseOfS 12 = .ok (.if_icmp .ne 12, 3) := dkAt dk13hill_cX12_clauseOfS_0_a 6 rfl
theorem dX12_clauseOfS_24 : decode cX12_clauseOfS 24 = .ok (.aload_n 0, 1) := dkAt dk13hill_cX12_clauseOfS_0_a 7 rfl
theorem dX12_clauseOfS_25 : decode cX12_clauseOfS 25 = .ok (.ldc 125, 2) := dkAt dk13hill_cX12_clauseOfS_0_a 8 rfl
theorem dX12_clauseOfS_27 : decode cX12_clauseOfS 27 = .ok (.invokevirtual 115, 3) := dkAt dk13hill_cX12_clauseOfS_0_a 9 rfl
theorem dX12_clauseOfS_30 : decode cX12_clauseOfS 30 = .ok (.aload_n 0, 1) := dkAt dk13hill_cX12_clauseOfS_0_a 10 rfl
theorem dX12_clauseOfS_31 : decode cX12_clauseOfS 31 = .ok (.invokevirtual 109, 3) := dkAt dk13hill_cX12_clauseOfS_0_a 11 rfl
theorem dX12_clauseOfS_34 : decode cX12_clauseOfS 34 = .ok (.istore_n 1, 1) := dkAt dk13hill_cX12_clauseOfS_0_a 12 rfl
theorem dX12_clauseOfS_35 : decode cX12_clauseOfS 35 = .ok (.aload_n 0, 1) := dkAt dk13hill_cX12_clauseOfS_0_a 13 rfl
theorem dX12_clauseOfS_36 : decode cX12_clauseOfS 36 = .ok (.getfield 65, 3) := dkAt dk13hill_cX12_clauseOfS_0_a 14 rfl
theorem dX12_clauseOfS_39 : decode cX12_clauseOfS 39 = .ok (.ifCond .ne 17, 3) := dkAt dk13hill_cX12_clauseOfS_0_a 15 rfl
theorem dX12_clauseOfS_56 : decode cX12_clauseOfS 56 = .ok (.return_, 1) := dkAt dk13hill_cX12_clauseOfS_0_a 16 rfl
theorem dX12_clauseOfS_15 : decode cX12_clauseOfS 15 = .ok (.aload_n 0, 1) := dkAt dk13hill_cX12_clauseOfS_0_a 17 rfl
theorem dX12_clauseOfS_16 : decode cX12_clauseOfS 16 = .ok (.bipush (-10), 2) := dkAt dk13hill_cX12_clauseOfS_0_a 18 rfl
theorem dX12_clauseOfS_18 : decode cX12_clauseOfS 18 = .ok (.ldc 119, 2) := dkAt dk13hill_cX12_clauseOfS_0_a 19 rfl
theorem dX12_clauseOfS_20 : decode cX12_clauseOfS 20 = .ok (.invokevirtual 121, 3) := dkAt dk13hill_cX12_clauseOfS_0_a 20 rfl
theorem dX12_clauseOfS_23 : decode cX12_clauseOfS 23 = .ok (.return_, 1) := dkAt dk13hill_cX12_clauseOfS_0_a 21 rfl
theorem dX12_clauseOfS_42 : decode cX12_clauseOfS 42 = .ok (.aload_n 0, 1) := dkAt dk13hill_cX12_clauseOfS_0_a 22 rfl
theorem dX12_clauseOfS_43 : decode cX12_clauseOfS 43 = .ok (.getfield 9, 3) := dkAt dk13hill_cX12_clauseOfS_0_a 23 rfl
theorem dX12_clauseOfS_46 : decode cX12_clauseOfS 46 = .ok (.sipush 191, 3) := dkAt dk13hill_cX12_clauseOfS_0_a 24 rfl
theorem dX12_clauseOfS_49 : decode cX12_clauseOfS 49 = .ok (.aload_n 0, 1) := dkAt dk13hill_cX12_clauseOfS_0_a 25 rfl
theorem dX12_clauseOfS_50 : decode cX12_clauseOfS 50 = .ok (.getfield 86, 3) := dkAt dk13hill_cX12_clauseOfS_0_a 26 rfl
theorem dX12_clauseOfS_53 : decode cX12_clauseOfS 53 = .ok (.iadd, 1) := dkAt dk13hill_cX12_clauseOfS_0_a 27 rfl
theorem dX12_clauseOfS_54 : decode cX12_clauseOfS 54 = .ok (.iload_n 1, 1) := dkAt dk13hill_cX12_clauseOfS_0_a 28 rfl
theorem dX12_clauseOfS_55 : decode cX12_clauseOfS 55 = .ok (.iastore, 1) := dkAt dk13hill_cX12_clauseOfS_0_a 29 rfl
noncomputable def dk13hill_cX12_clauseHere_0 : List (Nat × Instr × Nat) := [(0, .aload_n 0, 1), (1, .invokevirtual 69, 3), (4, .lookupswitch 67 #[(100, 55), (104, 43), (115, 36)], 36), (59, .aload_n 0, 1), (60, .sipush (-400), 3), (63, .ldc 132, 2), (65, .invokevirtual 121, 3), (68, .goto 8, 3), (76, .return_, 1), (47, .aload_n 0, 1), (48, .sipush (-200), 3), (51, .ldc 130, 2), (53, .invokevirtual 121, 3), (56, .goto 20, 3), (40, .aload_n 0, 1), (41, .invokevirtual 127, 3), (44, .goto 32, 3), (71, .aload_n 0, 1), (72, .iconst 1, 1), (73, .putfield 65, 3)]
set_option maxRecDepth 100000 in
theorem dk13hill_cX12_clauseHere_0_a : dkA cX12_clauseHere dk13hill_cX12_clauseHere_0 = true := by decide +kernel
theorem dX12_clauseHere_0 : decode cX12_clauseHere 0 = .ok (.aload_n 0, 1) := dkAt dk13hill_cX12_clauseHere_0_a 0 rfl
theorem dX12_clauseHere_1 : decode cX12_clauseHere 1 = .ok (.invokevirtual 69, 3) := dkAt dk13hill_cX12_clauseHere_0_a 1 rfl
theorem dX12_clauseHere_4 : decode cX12_clauseHere 4 = .ok (.lookupswitch 67 #[(100, 55), (104, 43), (115, 36)], 36) := dkAt dk13hill_cX12_clauseHere_0_a 2 rfl
theorem dX12_clauseHere_59 : decode cX12_clauseHere 59 = .ok (.aload_n 0, 1) := dkAt dk13hill_cX12_clauseHere_0_a 3 rfl
theorem dX12_clauseHere_60 : decode cX12_clauseHere 60 = .ok (.sipush (-400), 3) := dkAt dk13hill_cX12_clauseHere_0_a 4 rfl
theorem dX12_clauseHere_63 : decode cX12_clauseHere 63 = .ok (.ldc 132, 2) := dkAt dk13hill_cX12_clauseHere_0_a 5 rfl
theorem dX12_clauseHere_65 : decode cX12_clauseHere 65 = .ok (.invokevirtual 121, 3) := dkAt dk13hill_cX12_clauseHere_0_a 6 rfl
theorem dX12_clauseHere_68 : decode cX12_clauseHere 68 = .ok (.goto 8, 3) := dkAt dk13hill_cX12_clauseHere_0_a 7 rfl
theorem dX12_clauseHere_76 : decode cX12_clauseHere 76 = .ok (.return_, 1) := dkAt dk13hill_cX12_clauseHere_0_a 8 rfl
theorem dX12_clauseHere_47 : decode cX12_clauseHere 47 = .ok (.aload_n 0, 1) := dkAt dk13hill_cX12_clauseHere_0_a 9 rfl
theorem dX12_clauseHere_48 : decode cX12_clauseHere 48 = .ok (.sipush (-200), 3) := dkAt dk13hill_cX12_clauseHere_0_a 10 rfl
theorem dX12_clauseHere_51 : decode cX12_clauseHere 51 = .ok (.ldc 130, 2) := dkAt dk13hill_cX12_clauseHere_0_a 11 rfl
theorem dX12_clauseHere_53 : decode cX12_clauseHere 53 = .ok (.invokevirtual 121, 3) := dkAt dk13hill_cX12_clauseHere_0_a 12 rfl
theorem dX12_clauseHere_56 : decode cX12_clauseHere 56 = .ok (.goto 20, 3) := dkAt dk13hill_cX12_clauseHere_0_a 13 rfl
theorem dX12_clauseHere_40 : decode cX12_clauseHere 40 = .ok (.aload_n 0, 1) := dkAt dk13hill_cX12_clauseHere_0_a 14 rfl
theorem dX12_clauseHere_41 : decode cX12_clauseHere 41 = .ok (.invokevirtual 127, 3) := dkAt dk13hill_cX12_clauseHere_0_a 15 rfl
theorem dX12_clauseHere_44 : decode cX12_clauseHere 44 = .ok (.goto 32, 3) := dkAt dk13hill_cX12_clauseHere_0_a 16 rfl
theorem dX12_clauseHere_71 : decode cX12_clauseHere 71 = .ok (.aload_n 0, 1) := dkAt dk13hill_cX12_clauseHere_0_a 17 rfl
theorem dX12_clauseHere_72 : decode cX12_clauseHere 72 = .ok (.iconst 1, 1) := dkAt dk13hill_cX12_clauseHere_0_a 18 rfl
theorem dX12_clauseHere_73 : decode cX12_clauseHere 73 = .ok (.putfield 65, 3) := dkAt dk13hill_cX12_clauseHere_0_a 19 rfl
noncomputable def dk13hill_cX12_hill_0 : List (Nat × Instr × Nat) := [(0, .aload_n 0, 1), (1, .getfield 9, 3), (4, .iconst 1, 1), (5, .iaload, 1), (6, .iconst 5, 1), (7, .if_icmp .ne 6, 3), (13, .aload_n 0, 1), (14, .aload_n 0, 1), (15, .getfield 9, 3), (18, .iconst 1, 1), (19, .iaload, 1), (20, .putfield 86, 3), (23, .aload_n 0, 1), (24, .aload_n 0, 1), (25, .getfield 9, 3), (28, .iconst 4, 1), (29, .iaload, 1), (30, .putfield 62, 3), (33, .aload_n 0, 1), (34, .getfield 9, 3), (37, .iconst 4, 1), (38, .iconst 0, 1), (39, .iastore, 1), (40, .aload_n 0, 1), (41, .getfield 9, 3), (44, .sipush 191, 3), (47, .aload_n 0, 1), (48, .getfield 86, 3), (51, .iadd, 1), (52, .iconst 3, 1), (53, .iastore, 1), (54, .aload_n 0, 1), (55, .getfield 9, 3), (58, .sipush 196, 3), (61, .aload_n 0, 1), (62, .getfield 86, 3), (65, .iadd, 1), (66, .iconst 0, 1), (67, .iastore, 1), (68, .aload_n 0, 1)]
set_option maxRecDepth 100000 in
theorem dk13hill_cX12_hill_0_a : dkA cX12_hill dk13hill_cX12_hill_0 = true := by decide +kernel
theorem dX12_hill_0 : decode cX12_hill 0 = .ok (.aload_n 0, 1) := dkAt dk13hill_cX12_hill_0_a 0 rfl
theorem dX12_hill_1 : decode cX12_hill 1 = .ok (.getfield 9, 3) := dkAt dk13hill_cX12_hill_0_a 1 rfl
theorem dX12_hill_4 : decode cX12_hill 4 = .ok (.iconst 1, 1) := dkAt dk13hill_cX12_hill_0_a 2 rfl
theorem dX12_hill_5 : decode cX12_hill 5 = .ok (.iaload, 1) := dkAt dk13hill_cX12_hill_0_a 3 rfl
theorem dX12_hill_6 : decode cX12_hill 6 = .ok (.iconst 5, 1) := dkAt dk13hill_cX12_hill_0_a 4 rfl
theorem dX12_hill_7 : decode cX12_hill 7 = .ok (.if_icmp .ne 6, 3) := dkAt dk13hill_cX12_hill_0_a 5 rfl
theorem dX12_hill_13 : decode cX12_hill 13 = .ok (.aload_n 0, 1) := dkAt dk13hill_cX12_hill_0_a 6 rfl
theorem dX12_hill_14 : decode cX12_hill 14 = .ok (.aload_n 0, 1) := dkAt dk13hill_cX12_hill_0_a 7 rfl
theorem dX12_hill_15 : decode cX12_hill 15 = .ok (.getfield 9, 3) := dkAt dk13hill_cX12_hill_0_a 8 rfl
theorem dX12_hill_18 : decode cX12_hill 18 = .ok (.iconst 1, 1) := dkAt dk13hill_cX12_hill_0_a 9 rfl
theorem dX12_hill_19 : decode cX12_hill 19 = .ok (.iaload, 1) := dkAt dk13hill_cX12_hill_0_a 10 rfl
theorem dX12_hill_20 : decode cX12_hill 20 = .ok (.putfield 86, 3) := dkAt dk13hill_cX12_hill_0_a 11 rfl
theorem dX12_hill_23 : decode cX12_hill 23 = .ok (.aload_n 0, 1) := dkAt dk13hill_cX12_hill_0_a 12 rfl
theorem dX12_hill_24 : decode cX12_hill 24 = .ok (.aload_n 0, 1) := dkAt dk13hill_cX12_hill_0_a 13 rfl
theorem dX12_hill_25 : decode cX12_hill 25 = .ok (.getfield 9, 3) := dkAt dk13hill_cX12_hill_0_a 14 rfl
theorem dX12_hill_28 : decode cX12_hill 28 = .ok (.iconst 4, 1) := dkAt dk13hill_cX12_hill_0_a 15 rfl
theorem dX12_hill_29 : decode cX12_hill 29 = .ok (.iaload, 1) := dkAt dk13hill_cX12_hill_0_a 16 rfl
theorem dX12_hill_30 : decode cX12_hill 30 = .ok (.putfield 62, 3) := dkAt dk13hill_cX12_hill_0_a 17 rfl
theorem dX12_hill_33 : decode cX12_hill 33 = .ok (.aload_n 0, 1) := dkAt dk13hill_cX12_hill_0_a 18 rfl
theorem dX12_hill_34 : decode cX12_hill 34 = .ok (.getfield 9, 3) := dkAt dk13hill_cX12_hill_0_a 19 rfl
theorem dX12_hill_37 : decode cX12_hill 37 = .ok (.iconst 4, 1) := dkAt dk13hill_cX12_hill_0_a 20 rfl
theorem dX12_hill_38 : decode cX12_hill 38 = .ok (.iconst 0, 1) := dkAt dk13hill_cX12_hill_0_a 21 rfl
theorem dX12_hill_39 : decode cX12_hill 39 = .ok (.iastore, 1) := dkAt dk13hill_cX12_hill_0_a 22 rfl
theorem dX12_hill_40 : decode cX12_hill 40 = .ok (.aload_n 0, 1) := dkAt dk13hill_cX12_hill_0_a 23 rfl
theorem dX12_hill_41 : decode cX12_hill 41 = .ok (.getfield 9, 3) := dkAt dk13hill_cX12_hill_0_a 24 rfl
theorem dX12_hill_44 : decode cX12_hill 44 = .ok (.sipush 191, 3) := dkAt dk13hill_cX12_hill_0_a 25 rfl
theorem dX12_hill_47 : decode cX12_hill 47 = .ok (.aload_n 0, 1) := dkAt dk13hill_cX12_hill_0_a 26 rfl
theorem dX12_hill_48 : decode cX12_hill 48 = .ok (.getfield 86, 3) := dkAt dk13hill_cX12_hill_0_a 27 rfl
theorem dX12_hill_51 : decode cX12_hill 51 = .ok (.iadd, 1) := dkAt dk13hill_cX12_hill_0_a 28 rfl
theorem dX12_hill_52 : decode cX12_hill 52 = .ok (.iconst 3, 1) := dkAt dk13hill_cX12_hill_0_a 29 rfl
theorem dX12_hill_53 : decode cX12_hill 53 = .ok (.iastore, 1) := dkAt dk13hill_cX12_hill_0_a 30 rfl
theorem dX12_hill_54 : decode cX12_hill 54 = .ok (.aload_n 0, 1) := dkAt dk13hill_cX12_hill_0_a 31 rfl
theorem dX12_hill_55 : decode cX12_hill 55 = .ok (.getfield 9, 3) := dkAt dk13hill_cX12_hill_0_a 32 rfl
theorem dX12_hill_58 : decode cX12_hill 58 = .ok (.sipush 196, 3) := dkAt dk13hill_cX12_hill_0_a 33 rfl
theorem dX12_hill_61 : decode cX12_hill 61 = .ok (.aload_n 0, 1) := dkAt dk13hill_cX12_hill_0_a 34 rfl
theorem dX12_hill_62 : decode cX12_hill 62 = .ok (.getfield 86, 3) := dkAt dk13hill_cX12_hill_0_a 35 rfl
theorem dX12_hill_65 : decode cX12_hill 65 = .ok (.iadd, 1) := dkAt dk13hill_cX12_hill_0_a 36 rfl
theorem dX12_hill_66 : decode cX12_hill 66 = .ok (.iconst 0, 1) := dkAt dk13hill_cX12_hill_0_a 37 rfl
theorem dX12_hill_67 : decode cX12_hill 67 = .ok (.iastore, 1) := dkAt dk13hill_cX12_hill_0_a 38 rfl
theorem dX12_hill_68 : decode cX12_hill 68 = .ok (.aload_n 0, 1) := dkAt dk13hill_cX12_hill_0_a 39 rfl
noncomputable def dk13hill_cX12_hill_40 : List (Nat × Instr × Nat) := [(69, .iconst 0, 1), (70, .putfield 59, 3), (73, .aload_n 0, 1), (74, .iconst 0, 1), (75, .putfield 65, 3), (78, .aload_n 0, 1), (79, .iconst 0, 1), (80, .putfield 89, 3), (83, .iconst 1, 1), (84, .istore_n 1, 1), (85, .aload_n 0, 1), (86, .invokevirtual 134, 3), (89, .aload_n 0, 1), (90, .getfield 65, 3), (93, .ifCond .ne 38, 3), (131, .aload_n 0, 1), (132, .getfield 65, 3), (135, .ifCond .ne 14, 3), (149, .bipush (-10), 2), (151, .aload_n 0, 1), (152, .getfield 59, 3), (155, .isub, 1), (156, .ireturn, 1), (96, .iload_n 1, 1), (97, .bipush 10, 2), (99, .if_icmp .ge 32, 3), (138, .aload_n 0, 1), (139, .getfield 59, 3), (142, .aload_n 0, 1), (143, .getfield 62, 3), (146, .if_icmp .eq 11, 3), (157, .aload_n 0, 1), (158, .getfield 9, 3), (161, .iconst 1, 1), (162, .dup2, 1), (163, .iaload, 1), (164, .iconst 1, 1), (165, .iadd, 1), (166, .iastore, 1), (167, .aload_n 0, 1)]
set_option maxRecDepth 100000 in
theorem dk13hill_cX12_hill_40_a : dkA cX12_hill dk13hill_cX12_hill_40 = true := by decide +kernel
theorem dX12_hill_69 : decode cX12_hill 69 = .ok (.iconst 0, 1) := dkAt dk13hill_cX12_hill_40_a 0 rfl
theorem dX12_hill_70 : decode cX12_hill 70 = .ok (.putfield 59, 3) := dkAt dk13hill_cX12_hill_40_a 1 rfl
theorem dX12_hill_73 : decode cX12_hill 73 = .ok (.aload_n 0, 1) := dkAt dk13hill_cX12_hill_40_a 2 rfl
theorem dX12_hill_74 : decode cX12_hill 74 = .ok (.iconst 0, 1) := dkAt dk13hill_cX12_hill_40_a 3 rfl
theorem dX12_hill_75 : decode cX12_hill 75 = .ok (.putfield 65, 3) := dkAt dk13hill_cX12_hill_40_a 4 rfl
theorem dX12_hill_78 : decode cX12_hill 78 = .ok (.aload_n 0, 1) := dkAt dk13hill_cX12_hill_40_a 5 rfl
theorem dX12_hill_79 : decode cX12_hill 79 = .ok (.iconst 0, 1) := dkAt dk13hill_cX12_hill_40_a 6 rfl
theorem dX12_hill_80 : decode cX12_hill 80 = .ok (.putfield 89, 3) := dkAt dk13hill_cX12_hill_40_a 7 rfl
theorem dX12_hill_83 : decode cX12_hill 83 = .ok (.iconst 1, 1) := dkAt dk13hill_cX12_hill_40_a 8 rfl
theorem dX12_hill_84 : decode cX12_hill 84 = .ok (.istore_n 1, 1) := dkAt dk13hill_cX12_hill_40_a 9 rfl
theorem dX12_hill_85 : decode cX12_hill 85 = .ok (.aload_n 0, 1) := dkAt dk13hill_cX12_hill_40_a 10 rfl
theorem dX12_hill_86 : decode cX12_hill 86 = .ok (.invokevirtual 134, 3) := dkAt dk13hill_cX12_hill_40_a 11 rfl
theorem dX12_hill_89 : decode cX12_hill 89 = .ok (.aload_n 0, 1) := dkAt dk13hill_cX12_hill_40_a 12 rfl
theorem dX12_hill_90 : decode cX12_hill 90 = .ok (.getfield 65, 3) := dkAt dk13hill_cX12_hill_40_a 13 rfl
theorem dX12_hill_93 : decode cX12_hill 93 = .ok (.ifCond .ne 38, 3) := dkAt dk13hill_cX12_hill_40_a 14 rfl
theorem dX12_hill_131 : decode cX12_hill 131 = .ok (.aload_n 0, 1) := dkAt dk13hill_cX12_hill_40_a 15 rfl
theorem dX12_hill_132 : decode cX12_hill 132 = .ok (.getfield 65, 3) := dkAt dk13hill_cX12_hill_40_a 16 rfl
theorem dX12_hill_135 : decode cX12_hill 135 = .ok (.ifCond .ne 14, 3) := dkAt dk13hill_cX12_hill_40_a 17 rfl
theorem dX12_hill_149 : decode cX12_hill 149 = .ok (.bipush (-10), 2) := dkAt dk13hill_cX12_hill_40_a 18 rfl
theorem dX12_hill_151 : decode cX12_hill 151 = .ok (.aload_n 0, 1) := dkAt dk13hill_cX12_hill_40_a 19 rfl
theorem dX12_hill_152 : decode cX12_hill 152 = .ok (.getfield 59, 3) := dkAt dk13hill_cX12_hill_40_a 20 rfl
theorem dX12_hill_155 : decode cX12_hill 155 = .ok (.isub, 1) := dkAt dk13hill_cX12_hill_40_a 21 rfl
theorem dX12_hill_156 : decode cX12_hill 156 = .ok (.ireturn, 1) := dkAt dk13hill_cX12_hill_40_a 22 rfl
theorem dX12_hill_96 : decode cX12_hill 96 = .ok (.iload_n 1, 1) := dkAt dk13hill_cX12_hill_40_a 23 rfl
theorem dX12_hill_97 : decode cX12_hill 97 = .ok (.bipush 10, 2) := dkAt dk13hill_cX12_hill_40_a 24 rfl
theorem dX12_hill_99 : decode cX12_hill 99 = .ok (.if_icmp .ge 32, 3) := dkAt dk13hill_cX12_hill_40_a 25 rfl
theorem dX12_hill_138 : decode cX12_hill 138 = .ok (.aload_n 0, 1) := dkAt dk13hill_cX12_hill_40_a 26 rfl
theorem dX12_hill_139 : decode cX12_hill 139 = .ok (.getfield 59, 3) := dkAt dk13hill_cX12_hill_40_a 27 rfl
theorem dX12_hill_142 : decode cX12_hill 142 = .ok (.aload_n 0, 1) := dkAt dk13hill_cX12_hill_40_a 28 rfl
theorem dX12_hill_143 : decode cX12_hill 143 = .ok (.getfield 62, 3) := dkAt dk13hill_cX12_hill_40_a 29 rfl
theorem dX12_hill_146 : decode cX12_hill 146 = .ok (.if_icmp .eq 11, 3) := dkAt dk13hill_cX12_hill_40_a 30 rfl
theorem dX12_hill_157 : decode cX12_hill 157 = .ok (.aload_n 0, 1) := dkAt dk13hill_cX12_hill_40_a 31 rfl
theorem dX12_hill_158 : decode cX12_hill 158 = .ok (.getfield 9, 3) := dkAt dk13hill_cX12_hill_40_a 32 rfl
theorem dX12_hill_161 : decode cX12_hill 161 = .ok (.iconst 1, 1) := dkAt dk13hill_cX12_hill_40_a 33 rfl
theorem dX12_hill_162 : decode cX12_hill 162 = .ok (.dup2, 1) := dkAt dk13hill_cX12_hill_40_a 34 rfl
theorem dX12_hill_163 : decode cX12_hill 163 = .ok (.iaload, 1) := dkAt dk13hill_cX12_hill_40_a 35 rfl
theorem dX12_hill_164 : decode cX12_hill 164 = .ok (.iconst 1, 1) := dkAt dk13hill_cX12_hill_40_a 36 rfl
theorem dX12_hill_165 : decode cX12_hill 165 = .ok (.iadd, 1) := dkAt dk13hill_cX12_hill_40_a 37 rfl
theorem dX12_hill_166 : decode cX12_hill 166 = .ok (.iastore, 1) := dkAt dk13hill_cX12_hill_40_a 38 rfl
theorem dX12_hill_167 : decode cX12_hill 167 = .ok (.aload_n 0, 1) := dkAt dk13hill_cX12_hill_40_a 39 rfl
noncomputable def dk13hill_cX12_hill_80 : List (Nat × Instr × Nat) := [(168, .getfield 9, 3), (171, .iconst 5, 1), (172, .aload_n 0, 1), (173, .getfield 86, 3), (176, .iastore, 1), (177, .aload_n 0, 1), (178, .getfield 86, 3), (181, .ireturn, 1), (102, .aload_n 0, 1), (103, .invokevirtual 69, 3), (106, .bipush 59, 2), (108, .if_icmp .ne 23, 3), (111, .aload_n 0, 1), (112, .dup, 1), (113, .getfield 59, 3), (116, .iconst 1, 1), (117, .iadd, 1), (118, .putfield 59, 3), (121, .aload_n 0, 1), (122, .invokevirtual 134, 3), (125, .iinc 1 1, 3), (128, .goto (-39), 3), (10, .bipush (-4), 2), (12, .ireturn, 1)]
set_option maxRecDepth 100000 in
theorem dk13hill_cX12_hill_80_a : dkA cX12_hill dk13hill_cX12_hill_80 = true := by decide +kernel
theorem dX12_hill_168 : decode cX12_hill 168 = .ok (.getfield 9, 3) := dkAt dk13hill_cX12_hill_80_a 0 rfl
theorem dX12_hill_171 : decode cX12_hill 171 = .ok (.iconst 5, 1) := dkAt dk13hill_cX12_hill_80_a 1 rfl
theorem dX12_hill_172 : decode cX12_hill 172 = .ok (.aload_n 0, 1) := dkAt dk13hill_cX12_hill_80_a 2 rfl
theorem dX12_hill_173 : decode cX12_hill 173 = .ok (.getfield 86, 3) := dkAt dk13hill_cX12_hill_80_a 3 rfl
theorem dX12_hill_176 : decode cX12_hill 176 = .ok (.iastore, 1) := dkAt dk13hill_cX12_hill_80_a 4 rfl
theorem dX12_hill_177 : decode cX12_hill 177 = .ok (.aload_n 0, 1) := dkAt dk13hill_cX12_hill_80_a 5 rfl
theorem dX12_hill_178 : decode cX12_hill 178 = .ok (.getfield 86, 3) := dkAt dk13hill_cX12_hill_80_a 6 rfl
theorem dX12_hill_181 : decode cX12_hill 181 = .ok (.ireturn, 1) := dkAt dk13hill_cX12_hill_80_a 7 rfl
theorem dX12_hill_102 : decode cX12_hill 102 = .ok (.aload_n 0, 1) := dkAt dk13hill_cX12_hill_80_a 8 rfl
theorem dX12_hill_103 : decode cX12_hill 103 = .ok (.invokevirtual 69, 3) := dkAt dk13hill_cX12_hill_80_a 9 rfl
theorem dX12_hill_106 : decode cX12_hill 106 = .ok (.bipush 59, 2) := dkAt dk13hill_cX12_hill_80_a 10 rfl
theorem dX12_hill_108 : decode cX12_hill 108 = .ok (.if_icmp .ne 23, 3) := dkAt dk13hill_cX12_hill_80_a 11 rfl
theorem dX12_hill_111 : decode cX12_hill 111 = .ok (.aload_n 0, 1) := dkAt dk13hill_cX12_hill_80_a 12 rfl
theorem dX12_hill_112 : decode cX12_hill 112 = .ok (.dup, 1) := dkAt dk13hill_cX12_hill_80_a 13 rfl
theorem dX12_hill_113 : decode cX12_hill 113 = .ok (.getfield 59, 3) := dkAt dk13hill_cX12_hill_80_a 14 rfl
theorem dX12_hill_116 : decode cX12_hill 116 = .ok (.iconst 1, 1) := dkAt dk13hill_cX12_hill_80_a 15 rfl
theorem dX12_hill_117 : decode cX12_hill 117 = .ok (.iadd, 1) := dkAt dk13hill_cX12_hill_80_a 16 rfl
theorem dX12_hill_118 : decode cX12_hill 118 = .ok (.putfield 59, 3) := dkAt dk13hill_cX12_hill_80_a 17 rfl
theorem dX12_hill_121 : decode cX12_hill 121 = .ok (.aload_n 0, 1) := dkAt dk13hill_cX12_hill_80_a 18 rfl
theorem dX12_hill_122 : decode cX12_hill 122 = .ok (.invokevirtual 134, 3) := dkAt dk13hill_cX12_hill_80_a 19 rfl
theorem dX12_hill_125 : decode cX12_hill 125 = .ok (.iinc 1 1, 3) := dkAt dk13hill_cX12_hill_80_a 20 rfl
theorem dX12_hill_128 : decode cX12_hill 128 = .ok (.goto (-39), 3) := dkAt dk13hill_cX12_hill_80_a 21 rfl
theorem dX12_hill_10 : decode cX12_hill 10 = .ok (.bipush (-4), 2) := dkAt dk13hill_cX12_hill_80_a 22 rfl
theorem dX12_hill_12 : decode cX12_hill 12 = .ok (.ireturn, 1) := dkAt dk13hill_cX12_hill_80_a 23 rfl
theorem clause_sd {K v d : Nat} (hK : K = 10 ∨ K = 200 ∨ K = 400) (hv : v ≤ 99) : stepd (nI 0 - nI K - nI v) d = some 0 := by
  have h : ∀ K, K ∈ [10, 200, 400] → ∀ v, v < 100 → (¬ (0 : Int32) ≤ nI 0 - nI K - nI v ∧ ¬ nI 0 - nI K - nI v = -1 ∧ ¬ -10 < nI 0 - nI K - nI v) := by decide +kernel
  obtain ⟨h1, h2, h3⟩ := h K (by rcases hK with rfl | rfl | rfl <;> simp) v (by omega)
  rw [stepd, if_neg h1, if_neg h2, if_neg h3]
theorem PI.up191 {f : Nat → Int32} {a k d p E : Nat} {x : Int32} (h : PI f a k d p E) : PI (upd f (191 + a) x) a k d p E := by
  obtain ⟨a1, a2, a3, a4, a5, a6, a7⟩ := h
  refine ⟨a1, a2, a3, (pk_un (by omega)).trans a4, a5, a6, ?_⟩
  rw [← a7]
  exact sdep_cong (fun i hi => pk_un (by omega))
theorem PF_191 {f : Nat → Int32} {a : Nat} {x : Int32} : PF a f (upd f (191 + a) x) := fun i h1 _ _ => pk_un h1
theorem lk_out {x : Int32} (h1 : ¬ x = 100) (h2 : ¬ x = 104) (h3 : ¬ x = 115) : Op.lookupswitch.offset [(100, 55), (104, 43), (115, 36)] 67 x.toInt = 67 := by
  have e : ∀ y : Int32, ¬ x = y → ¬ y.toInt = x.toInt := fun y h q => h (Int32.toInt_inj.mp q.symm)
  rw [Op.lookupswitch.offset_cons, if_neg (show ¬ (100 : Int) = x.toInt from e 100 h1), Op.lookupswitch.offset_cons, if_neg (show ¬ (104 : Int) = x.toInt from e 104 h2), Op.lookupswitch.offset_cons, if_neg (show ¬ (115 : Int) = x.toInt from e 115 h3)]
  rfl

set_option maxHeartbeats 4000000 in
set_option maxRecDepth 100000 in
theorem c_much (l : Launch) (dC : Nat → ClassId) (dI : Nat → Nat → Nat) (sK sV : Nat → Nat) (m0 aS aI aB aT aG aO aN aD aY : Nat) (th im ac sp en wg op se dn rn kd nu tv : Int32) (bv : Int64) (cS : ClassId) (fS : Nat → Int32) (a p0 E k : Nat) (K i : Nat) (sz : Nat) (ga : a < 5) (gE : E ≤ 100) (gp : p0 ≤ E) (zw : wg = 0 ∨ wg = 1) (gI : wg = 0 → PI fS a k 0 p0 E) (hKK : K = 10 ∨ K = 200 ∨ K = 400) (hi12 : i < 12) : Met l yX12_much wsX12_much ({ frames := 23, cells := 0, slots := 0, locals := 491 } : Room) (va_Pc [.ref m0, .int (nI 0 - nI K), .ref (sK i)] (fun U => U.heap.size = sz ∧ va_P (dC, dI) vwCl [(zo14irriiiiiirriirrrrlriiii m0 th aS aI im (nI a) (nI p0) (nI E) wg 0 aB aT se dn aG aO aN aD bv aY rn kd nu tv), (zaI aS cS 901 fS)] U.heap ∧ va_K (dC, dI) vwCl [(cS, .int)] U ∧ va_D (fun _ => True) [(zo14irriiiiiirriirrrrlriiii m0 th aS aI im (nI a) (nI p0) (nI E) wg 0 aB aT se dn aG aO aN aD bv aY rn kd nu tv), (zaI aS cS 901 fS)] ∧ Gs sK sV (va_A [(zo14irriiiiiirriirrrrlriiii m0 th aS aI im (nI a) (nI p0) (nI E) wg 0 aB aT se dn aG aO aN aD bv aY rn kd nu tv), (zaI aS cS 901 fS)] sz) U)) (va_Qv (fun (u : (Nat → Int32) × (Int32) × (Int32)) => match u with | (fS9, sp9, wg9) => ∃ p9 k9 : Nat, sp9 = nI p9 ∧ p0 ≤ p9 ∧ p9 ≤ E ∧ PF a fS fS9 ∧ (wg9 = 1 ∨ (wg9 = 0 ∧ PI fS9 a k9 0 p9 E))) (fun (u : (Nat → Int32) × (Int32) × (Int32)) (t : State) => match u with | (fS9, sp9, wg9) => va_P (dC, dI) vwCl [(zo14irriiiiiirriirrrrlriiii m0 th aS aI im (nI a) sp9 (nI E) wg9 0 aB aT se dn aG aO aN aD bv aY rn kd nu tv), (zaI aS cS 901 fS9)] t.heap ∧ va_K (dC, dI) vwCl [(cS, .int)] t ∧ va_D (va_A [(zo14irriiiiiirriirrrrlriiii m0 th aS aI im (nI a) (nI p0) (nI E) wg 0 aB aT se dn aG aO aN aD bv aY rn kd nu tv), (zaI aS cS 901 fS)] sz) [(zo14irriiiiiirriirrrrlriiii m0 th aS aI im (nI a) sp9 (nI E) wg9 0 aB aT se dn aG aO aN aD bv aY rn kd nu tv), (zaI aS cS 901 fS9)]) (va_A [(zo14irriiiiiirriirrrrlriiii m0 th aS aI im (nI a) (nI p0) (nI E) wg 0 aB aT se dn aG aO aN aD bv aY rn kd nu tv), (zaI aS cS 901 fS)] sz)) 0 0 (va_A [(zo14irriiiiiirriirrrrlriiii m0 th aS aI im (nI a) (nI p0) (nI E) wg 0 aB aT se dn aG aO aN aD bv aY rn kd nu tv), (zaI aS cS 901 fS)] sz) := by
  refine met_ofQ (cc := cX12_much) (maxL := 4) (ret := none) (by decide) rfl ?_
  intro p e s m args below meth c s₁ Q B hml hv hQ
  obtain ⟨rfl, hsz, hP, hK, hD0, hE⟩ := hv
  have hx := B.exec
  have hb := B.bytes
  have hr := B.returns
  have hts := atoms_spec (ws := wsX12_much) B.pre
  have hown : s.vm.findClass RX12 = some m.cls := findClass_of_methodNamed B.named
  have hlocks := B.notSynchronized
  subst hsz
  have hD := hD0.self (sz := s.heap.size)
  generalize hAe : va_A [(zo14irriiiiiirriirrrrlriiii m0 th aS aI im (nI a) (nI p0) (nI E) wg 0 aB aT se dn aG aO aN aD bv aY rn kd nu tv), (zaI aS cS 901 fS)] s.heap.size = A at hD hQ hE ⊢
  have hA : ∀ q : Nat, s.heap.size ≤ q → A q := fun q h => by rw [← hAe]; exact Or.inr h
  have hS : va_S A s.heap s.heap [] := va_S.rf
  have hl := lv_entry [.ref m0, .int (nI 0 - nI K), .ref (sK i)] (n := 4) (Nat.le_of_ble_eq_true rfl)
  rw [lg_entry_eq]
  generalize (lg_sl [.ref m0, .int (nI 0 - nI K), .ref (sK i)] ++ List.replicate (4 - (lg_sl [.ref m0, .int (nI 0 - nI K), .ref (sK i)]).length) Slot.unset).toArray = ls at hl ⊢
  generalize hag : ([.ref m0, .int (nI 0 - nI K), .ref (sK i)] : List Value).toArray = args at hts hQ ⊢
  have hl : lv_has ls 4 [(0, .ref m0), (1, .int (nI 0 - nI K)), (2, .ref (sK i))] := hl
  obtain ⟨H, hH⟩ : ∃ H : Heap, H = s.heap := ⟨_, rfl⟩
  rw [← hH] at hP
  rw [← hH]
  have hS : va_S A s.heap H [] := by rw [hH]; exact hS
  obtain ⟨locs, hlo⟩ : ∃ L : List Loc, L = [] := ⟨_, rfl⟩
  rw [← hlo] at hS
  rw [← hlo]
  clear hH hlo
  rcases zw with rfl | rfl
  · skip
    have k5 := (gI rfl).2.2.2.2.1
    refine lv_aload_n hx hb dX12_much_0 rfl (lv_at hl 0 rfl) ?_
    refine lv_aload_n hx hb dX12_much_1 rfl (lv_at hl 2 rfl) ?_
    have hPc := hP.sub (ws' := [(zo14irriiiiiirriirrrrlriiii m0 th aS aI im (nI a) (nI p0) (nI E) 0 0 aB aT se dn aG aO aN aD bv aY rn kd nu tv), (zaI aS cS 901 fS)]) [0, 1] rfl
    have hDc := hD.sub (ws' := [(zo14irriiiiiirriirrrrlriiii m0 th aS aI im (nI a) (nI p0) (nI E) 0 0 aB aT se dn aG aO aN aD bv aY rn kd nu tv), (zaI aS cS 901 fS)]) [0, 1] (by decide) rfl
    have hKc := hK.sub (tys' := [(cS, .int)]) [0] rfl
    have hFc := va_free (wc := [(zo14irriiiiiirriirrrrlriiii m0 th aS aI im (nI a) (nI p0) (nI E) 0 0 aB aT se dn aG aO aN aD bv aY rn kd nu tv), (zaI aS cS 901 fS)]) hD hS hA [0, 1] rfl
    refine va_callv (va_runV (As := [.ref (sK i)]) (rest := []) ⟨hx, hb, hml, hown, hts⟩ (c_spells l dC dI sK sV m0 aS aI aB aT aG aO aN aD aY th im (nI a) (nI p0) (nI E) 0 0 se dn rn kd nu tv bv cS fS a p0 E i H.size (by omega) (by omega) (by omega) (Or.inl rfl) (by first | assumption | decide)) (cwV 1 hts gX12_much_X12_spells rfl rfl rfl hd_yX12_spells ⟨Nat.le_of_ble_eq_true rfl, Nat.le_of_ble_eq_true rfl⟩) ⟨fun a U g mk q => by obtain ⟨q0, q1, qP, qK, qD, qhE⟩ := q; exact ⟨q0, q1, qP, va_K.moved (u := U) (U := U.calling g mk a) (Vm.Alike.refl U.vm) qK, qD, qhE.same rfl rfl⟩, va_recv hK hP (ci := 14) (q := (RX12, TX12, 23)) (q0 := 0) rfl rfl, fun U hU hW => ⟨rfl, by rw [hU], by rw [hU]; exact hPc, va_K.moved hW.alike hKc, hDc.weaken (fun _ _ _ _ => trivial), hE.call hS hU hW (fun q h => hFc q h)⟩⟩ rfl rfl hl.1 rfl (lv_room (Nat.le_of_ble_eq_true rfl)) dX12_much_2 ⟨Nat.le_of_ble_eq_true rfl, Nat.le_of_ble_eq_true rfl⟩) hS (fun q _ h => hFc q h) hFc (fun u tC H1 locs htC hvm hw_2 hB hz1 hk1 hS => ?_)
    obtain ⟨sp9_3, wg9_4⟩ := u
    try dsimp only at hw_2 hB
    obtain ⟨hP1, hK1, hD1⟩ := hB
    rw [htC] at hP1
    have hK1 := va_K.moved hvm.symm hK1
    obtain ⟨hP, hD⟩ := va_join (wr := []) (w1 := [(zo14irriiiiiirriirrrrlriiii m0 th aS aI im (nI a) sp9_3 (nI E) wg9_4 0 aB aT se dn aG aO aN aD bv aY rn kd nu tv), (zaI aS cS 901 fS)]) hP hD [0, 1] [] rfl rfl (by decide) (by decide) hk1 hFc hP1 hD1
    have hK := (hK.sub (tys' := []) [] rfl).app hK1
    generalize H1 = H at hP hS ⊢
    have hP : va_P (dC, dI) vwCl [(zo14irriiiiiirriirrrrlriiii m0 th aS aI im (nI a) sp9_3 (nI E) wg9_4 0 aB aT se dn aG aO aN aD bv aY rn kd nu tv), (zaI aS cS 901 fS)] H := hP
    have hD : va_D A [(zo14irriiiiiirriirrrrlriiii m0 th aS aI im (nI a) sp9_3 (nI E) wg9_4 0 aB aT se dn aG aO aN aD bv aY rn kd nu tv), (zaI aS cS 901 fS)] := hD
    have hK : va_K (dC, dI) vwCl [(cS, .int)] s := hK
    obtain ⟨p_5, h_6, h_7, rfl, h_8, h_9⟩ := hw_2
    rcases h_8 with rfl | rfl
    · skip
      refine lv_aload_n hx hb dX12_much_5 rfl (lv_at hl 0 rfl) ?_
      have hPc := hP.sub (ws' := [(zo14irriiiiiirriirrrrlriiii m0 th aS aI im (nI a) (nI p_5) (nI E) 0 0 aB aT se dn aG aO aN aD bv aY rn kd nu tv), (zaI aS cS 901 fS)]) [0, 1] rfl
      have hDc := hD.sub (ws' := [(zo14irriiiiiirriirrrrlriiii m0 th aS aI im (nI a) (nI p_5) (nI E) 0 0 aB aT se dn aG aO aN aD bv aY rn kd nu tv), (zaI aS cS 901 fS)]) [0, 1] (by decide) rfl
      have hKc := hK.sub (tys' := [(cS, .int)]) [0] rfl
      have hFc := va_free (wc := [(zo14irriiiiiirriirrrrlriiii m0 th aS aI im (nI a) (nI p_5) (nI E) 0 0 aB aT se dn aG aO aN aD bv aY rn kd nu tv), (zaI aS cS 901 fS)]) hD hS hA [0, 1] rfl
      refine va_calli (va_runV (As := []) (rest := []) ⟨hx, hb, hml, hown, hts⟩ (c_figures l dC dI m0 aS aI aB aT aG aO aN aD aY th im (nI a) (nI p_5) (nI E) 0 0 se dn rn kd nu tv bv cS fS a p_5 E H.size (by omega) (by omega) (by omega) (Or.inl rfl)) (cwV 0 hts gX12_much_X12_figures rfl rfl rfl hd_yX12_figures ⟨Nat.le_of_ble_eq_true rfl, Nat.le_of_ble_eq_true rfl⟩) ⟨fun a U g mk q => by obtain ⟨q0, q1, qP, qK, qD⟩ := q; exact ⟨q0, q1, qP, va_K.moved (u := U) (U := U.calling g mk a) (Vm.Alike.refl U.vm) qK, qD⟩, va_recv hK hP (ci := 14) (q := (RX12, TX12, 23)) (q0 := 0) rfl rfl, fun U hU hW => ⟨rfl, by rw [hU], by rw [hU]; exact hPc, va_K.moved hW.alike hKc, hDc.weaken (fun _ _ _ _ => trivial)⟩⟩ rfl rfl hl.1 rfl (lv_room (Nat.le_of_ble_eq_true rfl)) dX12_much_6 ⟨Nat.le_of_ble_eq_true rfl, Nat.le_of_ble_eq_true rfl⟩) hS (fun q _ h => hFc q h) hFc (fun r_10 u tC H1 locs htC hvm hw_11 hB hz1 hk1 hS => ?_)
      obtain ⟨sp9_12, wg9_13⟩ := u
      try dsimp only at hw_11 hB
      obtain ⟨hP1, hK1, hD1⟩ := hB
      rw [htC] at hP1
      have hK1 := va_K.moved hvm.symm hK1
      obtain ⟨hP, hD⟩ := va_join (wr := []) (w1 := [(zo14irriiiiiirriirrrrlriiii m0 th aS aI im (nI a) sp9_12 (nI E) wg9_13 0 aB aT se dn aG aO aN aD bv aY rn kd nu tv), (zaI aS cS 901 fS)]) hP hD [0, 1] [] rfl rfl (by decide) (by decide) hk1 hFc hP1 hD1
      have hK := (hK.sub (tys' := []) [] rfl).app hK1
      generalize H1 = H at hP hS ⊢
      have hP : va_P (dC, dI) vwCl [(zo14irriiiiiirriirrrrlriiii m0 th aS aI im (nI a) sp9_12 (nI E) wg9_13 0 aB aT se dn aG aO aN aD bv aY rn kd nu tv), (zaI aS cS 901 fS)] H := hP
      have hD : va_D A [(zo14irriiiiiirriirrrrlriiii m0 th aS aI im (nI a) sp9_12 (nI E) wg9_13 0 aB aT se dn aG aO aN aD bv aY rn kd nu tv), (zaI aS cS 901 fS)] := hD
      have hK : va_K (dC, dI) vwCl [(cS, .int)] s := hK
      obtain ⟨p_14, v_15, h_16, h_17, rfl, rfl, h_18, h_19, h_20⟩ := hw_11
      rcases h_19 with rfl | rfl
      · skip
        obtain ⟨h_20, h_20b⟩ := h_20 rfl
        refine lv_istore_n (lv' := [(3, .int (nI v_15)), (0, .ref m0), (1, .int (nI 0 - nI K)), (2, .ref (sK i))]) hx hb dX12_much_9 rfl hl (by decide) rfl (fun ls hl => ?_)
        refine lv_aload_n hx hb dX12_much_10 rfl (lv_at hl 1 rfl) ?_
        refine lv_bipush (v := 32) hx hb dX12_much_11 (by decide) ?_
        have hPc := hP.sub (ws' := [(zo14irriiiiiirriirrrrlriiii m0 th aS aI im (nI a) (nI p_14) (nI E) 0 0 aB aT se dn aG aO aN aD bv aY rn kd nu tv), (zaI aS cS 901 fS)]) [0, 1] rfl
        have hDc := hD.sub (ws' := [(zo14irriiiiiirriirrrrlriiii m0 th aS aI im (nI a) (nI p_14) (nI E) 0 0 aB aT se dn aG aO aN aD bv aY rn kd nu tv), (zaI aS cS 901 fS)]) [0, 1] (by decide) rfl
        have hKc := hK.sub (tys' := [(cS, .int)]) [0] rfl
        have hFc := va_free (wc := [(zo14irriiiiiirriirrrrlriiii m0 th aS aI im (nI a) (nI p_14) (nI E) 0 0 aB aT se dn aG aO aN aD bv aY rn kd nu tv), (zaI aS cS 901 fS)]) hD hS hA [0, 1] rfl
        refine va_callv (va_runV (As := [.int 32]) (rest := []) ⟨hx, hb, hml, hown, hts⟩ (c_must l dC dI m0 aS aI aB aT aG aO aN aD aY th im (nI a) (nI p_14) (nI E) 0 0 se dn rn kd nu tv bv cS fS a p_14 E 32 H.size (by omega) (by omega) (by omega) (Or.inl rfl) (by decide)) (cwV 1 hts gX12_much_X12_must rfl rfl rfl hd_yX12_must ⟨Nat.le_of_ble_eq_true rfl, Nat.le_of_ble_eq_true rfl⟩) ⟨fun a U g mk q => by obtain ⟨q0, q1, qP, qK, qD⟩ := q; exact ⟨q0, q1, qP, va_K.moved (u := U) (U := U.calling g mk a) (Vm.Alike.refl U.vm) qK, qD⟩, va_recv hK hP (ci := 14) (q := (RX12, TX12, 23)) (q0 := 0) rfl rfl, fun U hU hW => ⟨rfl, by rw [hU], by rw [hU]; exact hPc, va_K.moved hW.alike hKc, hDc.weaken (fun _ _ _ _ => trivial)⟩⟩ rfl rfl hl.1 rfl (lv_room (Nat.le_of_ble_eq_true rfl)) dX12_much_13 ⟨Nat.le_of_ble_eq_true rfl, Nat.le_of_ble_eq_true rfl⟩) hS (fun q _ h => hFc q h) hFc (fun u tC H1 locs htC hvm hw_22 hB hz1 hk1 hS => ?_)
        obtain ⟨sp9_23, wg9_24⟩ := u
        try dsimp only at hw_22 hB
        obtain ⟨hP1, hK1, hD1⟩ := hB
        rw [htC] at hP1
        have hK1 := va_K.moved hvm.symm hK1
        obtain ⟨hP, hD⟩ := va_join (wr := []) (w1 := [(zo14irriiiiiirriirrrrlriiii m0 th aS aI im (nI a) sp9_23 (nI E) wg9_24 0 aB aT se dn aG aO aN aD bv aY rn kd nu tv), (zaI aS cS 901 fS)]) hP hD [0, 1] [] rfl rfl (by decide) (by decide) hk1 hFc hP1 hD1
        have hK := (hK.sub (tys' := []) [] rfl).app hK1
        generalize H1 = H at hP hS ⊢
        have hP : va_P (dC, dI) vwCl [(zo14irriiiiiirriirrrrlriiii m0 th aS aI im (nI a) sp9_23 (nI E) wg9_24 0 aB aT se dn aG aO aN aD bv aY rn kd nu tv), (zaI aS cS 901 fS)] H := hP
        have hD : va_D A [(zo14irriiiiiirriirrrrlriiii m0 th aS aI im (nI a) sp9_23 (nI E) wg9_24 0 aB aT se dn aG aO aN aD bv aY rn kd nu tv), (zaI aS cS 901 fS)] := hD
        have hK : va_K (dC, dI) vwCl [(cS, .int)] s := hK
        rcases hw_22 with ⟨rfl, rfl⟩ | ⟨rfl, h_25, h_26, rfl⟩
        · skip
          refine lv_aload_n hx hb dX12_much_16 rfl (lv_at hl 1 rfl) ?_
          have hPc := hP.sub (ws' := [(zo14irriiiiiirriirrrrlriiii m0 th aS aI im (nI a) (nI p_14) (nI E) 1 0 aB aT se dn aG aO aN aD bv aY rn kd nu tv)]) [0] rfl
          have hKc := hK.sub (tys' := []) [] rfl
          refine va_csv (va_runV (As := []) (rest := []) ⟨hx, hb, hml, hown, hts⟩ (c_someW l dC dI m0 aS aI aB aT aG aO aN aD aY th im (nI a) (nI p_14) (nI E) 1 0 se dn rn kd nu tv bv) (cwV 0 hts gX12_much_X12_some rfl rfl rfl hd_yX12_some ⟨Nat.le_of_ble_eq_true rfl, Nat.le_of_ble_eq_true rfl⟩) ⟨fun a U g mk q => by obtain ⟨q0, qP, qK⟩ := q; exact ⟨q0, qP, va_K.moved (u := U) (U := U.calling g mk a) (Vm.Alike.refl U.vm) qK⟩, va_recv hK hP (ci := 14) (q := (RX12, TX12, 23)) (q0 := 0) rfl rfl, fun U hU hW => ⟨rfl, by rw [hU]; exact hPc, va_K.moved hW.alike hKc⟩⟩ rfl rfl hl.1 rfl (lv_room (Nat.le_of_ble_eq_true rfl)) dX12_much_17 ⟨Nat.le_of_ble_eq_true rfl, Nat.le_of_ble_eq_true rfl⟩).run (fun hw_28 => ?_)
          refine lv_aload_n hx hb dX12_much_20 rfl (lv_at hl 1 rfl) ?_
          refine lv_iload_n hx hb dX12_much_21 rfl (lv_at hl 2 rfl) ?_
          refine lv_iload_n hx hb dX12_much_22 rfl (lv_at hl 0 rfl) ?_
          refine lv_isub hx hb dX12_much_23 ?_
          have hPc := hP.sub (ws' := [(zo14irriiiiiirriirrrrlriiii m0 th aS aI im (nI a) (nI p_14) (nI E) 1 0 aB aT se dn aG aO aN aD bv aY rn kd nu tv)]) [0] rfl
          have hKc := hK.sub (tys' := []) [] rfl
          refine va_csv (va_runV (As := [.int ((nI 0 - nI K) - (nI v_15))]) (rest := []) ⟨hx, hb, hml, hown, hts⟩ (c_emitsW l dC dI m0 aS aI aB aT aG aO aN aD aY th im (nI a) (nI p_14) (nI E) 1 0 se dn rn kd nu tv bv ((nI 0 - nI K) - (nI v_15))) (cwV 1 hts gX12_much_X12_emits rfl rfl rfl hd_yX12_emits ⟨Nat.le_of_ble_eq_true rfl, Nat.le_of_ble_eq_true rfl⟩) ⟨fun a U g mk q => by obtain ⟨q0, qP, qK⟩ := q; exact ⟨q0, qP, va_K.moved (u := U) (U := U.calling g mk a) (Vm.Alike.refl U.vm) qK⟩, va_recv hK hP (ci := 14) (q := (RX12, TX12, 23)) (q0 := 0) rfl rfl, fun U hU hW => ⟨rfl, by rw [hU]; exact hPc, va_K.moved hW.alike hKc⟩⟩ rfl rfl hl.1 rfl (lv_room (Nat.le_of_ble_eq_true rfl)) dX12_much_24 ⟨Nat.le_of_ble_eq_true rfl, Nat.le_of_ble_eq_true rfl⟩).run (fun hw_30 => ?_)
          rw [hQ]
          have hP9 := hP.sub (ws' := [(zo14irriiiiiirriirrrrlriiii m0 th aS aI im (nI a) (nI p_14) (nI E) 1 0 aB aT se dn aG aO aN aD bv aY rn kd nu tv), (zaI aS cS 901 fS)]) [0, 1] rfl
          have hD9 := hD.sub (ws' := [(zo14irriiiiiirriirrrrlriiii m0 th aS aI im (nI a) (nI p_14) (nI E) 1 0 aB aT se dn aG aO aN aD bv aY rn kd nu tv), (zaI aS cS 901 fS)]) [0, 1] (by decide) rfl
          have hK9 := hK.sub (tys' := [(cS, .int)]) [0] rfl
          exact W.vret hx hb hr (fun tQ htQ hWQ => ⟨⟨(fS, (nI p_14), 1), rfl, ⟨p_14, k, rfl, by omega, by omega, PF.rf, Or.inl rfl⟩, by rw [htQ]; exact hP9, va_K.moved hWQ.alike hK9, hD9⟩, hS.F htQ⟩) hS.2.2 dX12_much_27
        · skip
          refine lv_aload_n hx hb dX12_much_16 rfl (lv_at hl 1 rfl) ?_
          have hPc := hP.sub (ws' := [(zo14irriiiiiirriirrrrlriiii m0 th aS aI im (nI a) (nI (p_14 + 1)) (nI E) 0 0 aB aT se dn aG aO aN aD bv aY rn kd nu tv), (zaI aS cS 901 fS)]) [0, 1] rfl
          have hDc := hD.sub (ws' := [(zo14irriiiiiirriirrrrlriiii m0 th aS aI im (nI a) (nI (p_14 + 1)) (nI E) 0 0 aB aT se dn aG aO aN aD bv aY rn kd nu tv), (zaI aS cS 901 fS)]) [0, 1] (by decide) rfl
          have hKc := hK.sub (tys' := [(cS, .int)]) [0] rfl
          have hFc := va_free (wc := [(zo14irriiiiiirriirrrrlriiii m0 th aS aI im (nI a) (nI (p_14 + 1)) (nI E) 0 0 aB aT se dn aG aO aN aD bv aY rn kd nu tv), (zaI aS cS 901 fS)]) hD hS hA [0, 1] rfl
          refine va_callv (va_runV (As := []) (rest := []) ⟨hx, hb, hml, hown, hts⟩ (c_some0 l dC dI sK sV m0 aS aI aB aT aG aO aN aD aY th im (nI a) (nI (p_14 + 1)) (nI E) 0 0 se dn rn kd nu tv bv cS fS a (p_14 + 1) E k 0 H.size (((gI rfl)).mono (by omega) (by omega))) (cwV 0 hts gX12_much_X12_some rfl rfl rfl hd_yX12_some ⟨Nat.le_of_ble_eq_true rfl, Nat.le_of_ble_eq_true rfl⟩) ⟨fun a U g mk q => by obtain ⟨q0, q1, qP, qK, qD, qhE⟩ := q; exact ⟨q0, q1, qP, va_K.moved (u := U) (U := U.calling g mk a) (Vm.Alike.refl U.vm) qK, qD, qhE.same rfl rfl⟩, va_recv hK hP (ci := 14) (q := (RX12, TX12, 23)) (q0 := 0) rfl rfl, fun U hU hW => ⟨rfl, by rw [hU], by rw [hU]; exact hPc, va_K.moved hW.alike hKc, hDc.weaken (fun _ _ _ _ => trivial), hE.call hS hU hW (fun q h => hFc q h)⟩⟩ rfl rfl hl.1 rfl (lv_room (Nat.le_of_ble_eq_true rfl)) dX12_much_17 ⟨Nat.le_of_ble_eq_true rfl, Nat.le_of_ble_eq_true rfl⟩) hS (fun q _ h => hFc q h) hFc (fun u tC H1 locs htC hvm hw_32 hB hz1 hk1 hS => ?_)
          obtain ⟨fS9_33, sp9_34, wg9_35⟩ := u
          try dsimp only at hw_32 hB
          obtain ⟨hP1, hK1, hD1⟩ := hB
          rw [htC] at hP1
          have hK1 := va_K.moved hvm.symm hK1
          obtain ⟨hP, hD⟩ := va_join (wr := []) (w1 := [(zo14irriiiiiirriirrrrlriiii m0 th aS aI im (nI a) sp9_34 (nI E) wg9_35 0 aB aT se dn aG aO aN aD bv aY rn kd nu tv), (zaI aS cS 901 fS9_33)]) hP hD [0, 1] [] rfl rfl (by decide) (by decide) hk1 hFc hP1 hD1
          have hK := (hK.sub (tys' := []) [] rfl).app hK1
          generalize H1 = H at hP hS ⊢
          have hP : va_P (dC, dI) vwCl [(zo14irriiiiiirriirrrrlriiii m0 th aS aI im (nI a) sp9_34 (nI E) wg9_35 0 aB aT se dn aG aO aN aD bv aY rn kd nu tv), (zaI aS cS 901 fS9_33)] H := hP
          have hD : va_D A [(zo14irriiiiiirriirrrrlriiii m0 th aS aI im (nI a) sp9_34 (nI E) wg9_35 0 aB aT se dn aG aO aN aD bv aY rn kd nu tv), (zaI aS cS 901 fS9_33)] := hD
          have hK : va_K (dC, dI) vwCl [(cS, .int)] s := hK
          obtain ⟨p_36, k_37, rfl, h_39, h_40, hF_41, q9⟩ := hw_32
          rcases q9 with rfl | ⟨rfl, h_42, hI_43, h_44⟩
          · skip
            refine lv_aload_n hx hb dX12_much_20 rfl (lv_at hl 1 rfl) ?_
            refine lv_iload_n hx hb dX12_much_21 rfl (lv_at hl 2 rfl) ?_
            refine lv_iload_n hx hb dX12_much_22 rfl (lv_at hl 0 rfl) ?_
            refine lv_isub hx hb dX12_much_23 ?_
            have hPc := hP.sub (ws' := [(zo14irriiiiiirriirrrrlriiii m0 th aS aI im (nI a) (nI p_36) (nI E) 1 0 aB aT se dn aG aO aN aD bv aY rn kd nu tv)]) [0] rfl
            have hKc := hK.sub (tys' := []) [] rfl
            refine va_csv (va_runV (As := [.int ((nI 0 - nI K) - (nI v_15))]) (rest := []) ⟨hx, hb, hml, hown, hts⟩ (c_emitsW l dC dI m0 aS aI aB aT aG aO aN aD aY th im (nI a) (nI p_36) (nI E) 1 0 se dn rn kd nu tv bv ((nI 0 - nI K) - (nI v_15))) (cwV 1 hts gX12_much_X12_emits rfl rfl rfl hd_yX12_emits ⟨Nat.le_of_ble_eq_true rfl, Nat.le_of_ble_eq_true rfl⟩) ⟨fun a U g mk q => by obtain ⟨q0, qP, qK⟩ := q; exact ⟨q0, qP, va_K.moved (u := U) (U := U.calling g mk a) (Vm.Alike.refl U.vm) qK⟩, va_recv hK hP (ci := 14) (q := (RX12, TX12, 23)) (q0 := 0) rfl rfl, fun U hU hW => ⟨rfl, by rw [hU]; exact hPc, va_K.moved hW.alike hKc⟩⟩ rfl rfl hl.1 rfl (lv_room (Nat.le_of_ble_eq_true rfl)) dX12_much_24 ⟨Nat.le_of_ble_eq_true rfl, Nat.le_of_ble_eq_true rfl⟩).run (fun hw_46 => ?_)
            rw [hQ]
            have hP9 := hP.sub (ws' := [(zo14irriiiiiirriirrrrlriiii m0 th aS aI im (nI a) (nI p_36) (nI E) 1 0 aB aT se dn aG aO aN aD bv aY rn kd nu tv), (zaI aS cS 901 fS9_33)]) [0, 1] rfl
            have hD9 := hD.sub (ws' := [(zo14irriiiiiirriirrrrlriiii m0 th aS aI im (nI a) (nI p_36) (nI E) 1 0 aB aT se dn aG aO aN aD bv aY rn kd nu tv), (zaI aS cS 901 fS9_33)]) [0, 1] (by decide) rfl
            have hK9 := hK.sub (tys' := [(cS, .int)]) [0] rfl
            exact W.vret hx hb hr (fun tQ htQ hWQ => ⟨⟨(fS9_33, (nI p_36), 1), rfl, ⟨p_36, k, rfl, by omega, by omega, (PF.rf).tr hF_41, Or.inl rfl⟩, by rw [htQ]; exact hP9, va_K.moved hWQ.alike hK9, hD9⟩, hS.F htQ⟩) hS.2.2 dX12_much_27
          · skip
            have k5 := hI_43.2.2.2.2.1
            refine lv_aload_n hx hb dX12_much_20 rfl (lv_at hl 1 rfl) ?_
            refine lv_iload_n hx hb dX12_much_21 rfl (lv_at hl 2 rfl) ?_
            refine lv_iload_n hx hb dX12_much_22 rfl (lv_at hl 0 rfl) ?_
            refine lv_isub hx hb dX12_much_23 ?_
            have hPc := hP.sub (ws' := [(zo14irriiiiiirriirrrrlriiii m0 th aS aI im (nI a) (nI p_36) (nI E) 0 0 aB aT se dn aG aO aN aD bv aY rn kd nu tv), (zaI aS cS 901 fS9_33)]) [0, 1] rfl
            have hDc := hD.sub (ws' := [(zo14irriiiiiirriirrrrlriiii m0 th aS aI im (nI a) (nI p_36) (nI E) 0 0 aB aT se dn aG aO aN aD bv aY rn kd nu tv), (zaI aS cS 901 fS9_33)]) [0, 1] (by decide) rfl
            have hKc := hK.sub (tys' := [(cS, .int)]) [0] rfl
            have hFc := va_free (wc := [(zo14irriiiiiirriirrrrlriiii m0 th aS aI im (nI a) (nI p_36) (nI E) 0 0 aB aT se dn aG aO aN aD bv aY rn kd nu tv), (zaI aS cS 901 fS9_33)]) hD hS hA [0, 1] rfl
            refine va_callv (va_runV (As := [.int ((nI 0 - nI K) - (nI v_15))]) (rest := []) ⟨hx, hb, hml, hown, hts⟩ (c_emits l dC dI m0 aS aI aB aT aG aO aN aD aY th im (nI a) (nI p_36) (nI E) 0 0 se dn rn kd nu tv bv cS fS9_33 a k_37 ((nI 0 - nI K) - (nI v_15)) H.size (ga) ((hI_43).2.2.2.1) (by have := (hI_43).2.2.2.2.1; omega)) (cwV 1 hts gX12_much_X12_emits rfl rfl rfl hd_yX12_emits ⟨Nat.le_of_ble_eq_true rfl, Nat.le_of_ble_eq_true rfl⟩) ⟨fun a U g mk q => by obtain ⟨q0, q1, qP, qK, qD⟩ := q; exact ⟨q0, q1, qP, va_K.moved (u := U) (U := U.calling g mk a) (Vm.Alike.refl U.vm) qK, qD⟩, va_recv hK hP (ci := 14) (q := (RX12, TX12, 23)) (q0 := 0) rfl rfl, fun U hU hW => ⟨rfl, by rw [hU], by rw [hU]; exact hPc, va_K.moved hW.alike hKc, hDc.weaken (fun _ _ _ _ => trivial)⟩⟩ rfl rfl hl.1 rfl (lv_room (Nat.le_of_ble_eq_true rfl)) dX12_much_24 ⟨Nat.le_of_ble_eq_true rfl, Nat.le_of_ble_eq_true rfl⟩) hS (fun q _ h => hFc q h) hFc (fun u tC H1 locs htC hvm hw_48 hB hz1 hk1 hS => ?_)
            obtain ⟨fS9_49, rfl⟩ : ∃ z, z = u := ⟨_, rfl⟩
            try dsimp only at hw_48 hB
            obtain ⟨hP1, hK1, hD1⟩ := hB
            rw [htC] at hP1
            have hK1 := va_K.moved hvm.symm hK1
            obtain ⟨hP, hD⟩ := va_join (wr := []) (w1 := [(zo14irriiiiiirriirrrrlriiii m0 th aS aI im (nI a) (nI p_36) (nI E) 0 0 aB aT se dn aG aO aN aD bv aY rn kd nu tv), (zaI aS cS 901 fS9_49)]) hP hD [0, 1] [] rfl rfl (by decide) (by decide) hk1 hFc hP1 hD1
            have hK := (hK.sub (tys' := []) [] rfl).app hK1
            generalize H1 = H at hP hS ⊢
            have hP : va_P (dC, dI) vwCl [(zo14irriiiiiirriirrrrlriiii m0 th aS aI im (nI a) (nI p_36) (nI E) 0 0 aB aT se dn aG aO aN aD bv aY rn kd nu tv), (zaI aS cS 901 fS9_49)] H := hP
            have hD : va_D A [(zo14irriiiiiirriirrrrlriiii m0 th aS aI im (nI a) (nI p_36) (nI E) 0 0 aB aT se dn aG aO aN aD bv aY rn kd nu tv), (zaI aS cS 901 fS9_49)] := hD
            have hK : va_K (dC, dI) vwCl [(cS, .int)] s := hK
            obtain rfl : fS9_49 = emt fS9_33 a k_37 ((nI 0 - nI K) - (nI v_15)) := by rcases hw_48 with ⟨q, _⟩ | ⟨_, q⟩; exact absurd rfl q; exact q
            have hI_51 : PI (emt fS9_33 a k_37 ((nI 0 - nI K) - (nI v_15))) a (k_37 + 1) 0 p_36 E := ((hI_43).mono (by omega) (by omega)).em (by omega) (by omega) (clause_sd hKK (by omega))
            have hF_52 : PF a fS (emt fS9_33 a k_37 ((nI 0 - nI K) - (nI v_15))) := ((PF.rf).tr hF_41).tr (PF_emt (k := k_37) (x := (nI 0 - nI K) - (nI v_15)) ga (by have := (hI_43).2.2.2.2.1; omega))
            rw [hQ]
            have hP9 := hP.sub (ws' := [(zo14irriiiiiirriirrrrlriiii m0 th aS aI im (nI a) (nI p_36) (nI E) 0 0 aB aT se dn aG aO aN aD bv aY rn kd nu tv), (zaI aS cS 901 (emt fS9_33 a k_37 ((nI 0 - nI K) - (nI v_15))))]) [0, 1] rfl
            have hD9 := hD.sub (ws' := [(zo14irriiiiiirriirrrrlriiii m0 th aS aI im (nI a) (nI p_36) (nI E) 0 0 aB aT se dn aG aO aN aD bv aY rn kd nu tv), (zaI aS cS 901 (emt fS9_33 a k_37 ((nI 0 - nI K) - (nI v_15))))]) [0, 1] (by decide) rfl
            have hK9 := hK.sub (tys' := [(cS, .int)]) [0] rfl
            exact W.vret hx hb hr (fun tQ htQ hWQ => ⟨⟨((emt fS9_33 a k_37 ((nI 0 - nI K) - (nI v_15))), (nI p_36), 0), rfl, ⟨p_36, (k_37 + 1), rfl, by omega, by omega, hF_52, Or.inr ⟨rfl, (hI_51).mono (by omega) (by omega)⟩⟩, by rw [htQ]; exact hP9, va_K.moved hWQ.alike hK9, hD9⟩, hS.F htQ⟩) hS.2.2 dX12_much_27
      · skip
        refine lv_istore_n (lv' := [(3, .int (nI v_15)), (0, .ref m0), (1, .int (nI 0 - nI K)), (2, .ref (sK i))]) hx hb dX12_much_9 rfl hl (by decide) rfl (fun ls hl => ?_)
        refine lv_aload_n hx hb dX12_much_10 rfl (lv_at hl 1 rfl) ?_
        refine lv_bipush (v := 32) hx hb dX12_much_11 (by decide) ?_
        have hPc := hP.sub (ws' := [(zo14irriiiiiirriirrrrlriiii m0 th aS aI im (nI a) (nI p_14) (nI E) 1 0 aB aT se dn aG aO aN aD bv aY rn kd nu tv), (zaI aS cS 901 fS)]) [0, 1] rfl
        have hDc := hD.sub (ws' := [(zo14irriiiiiirriirrrrlriiii m0 th aS aI im (nI a) (nI p_14) (nI E) 1 0 aB aT se dn aG aO aN aD bv aY rn kd nu tv), (zaI aS cS 901 fS)]) [0, 1] (by decide) rfl
        have hKc := hK.sub (tys' := [(cS, .int)]) [0] rfl
        have hFc := va_free (wc := [(zo14irriiiiiirriirrrrlriiii m0 th aS aI im (nI a) (nI p_14) (nI E) 1 0 aB aT se dn aG aO aN aD bv aY rn kd nu tv), (zaI aS cS 901 fS)]) hD hS hA [0, 1] rfl
        refine va_callv (va_runV (As := [.int 32]) (rest := []) ⟨hx, hb, hml, hown, hts⟩ (c_must l dC dI m0 aS aI aB aT aG aO aN aD aY th im (nI a) (nI p_14) (nI E) 1 0 se dn rn kd nu tv bv cS fS a p_14 E 32 H.size (by omega) (by omega) (by omega) (Or.inr rfl) (by decide)) (cwV 1 hts gX12_much_X12_must rfl rfl rfl hd_yX12_must ⟨Nat.le_of_ble_eq_true rfl, Nat.le_of_ble_eq_true rfl⟩) ⟨fun a U g mk q => by obtain ⟨q0, q1, qP, qK, qD⟩ := q; exact ⟨q0, q1, qP, va_K.moved (u := U) (U := U.calling g mk a) (Vm.Alike.refl U.vm) qK, qD⟩, va_recv hK hP (ci := 14) (q := (RX12, TX12, 23)) (q0 := 0) rfl rfl, fun U hU hW => ⟨rfl, by rw [hU], by rw [hU]; exact hPc, va_K.moved hW.alike hKc, hDc.weaken (fun _ _ _ _ => trivial)⟩⟩ rfl rfl hl.1 rfl (lv_room (Nat.le_of_ble_eq_true rfl)) dX12_much_13 ⟨Nat.le_of_ble_eq_true rfl, Nat.le_of_ble_eq_true rfl⟩) hS (fun q _ h => hFc q h) hFc (fun u tC H1 locs htC hvm hw_54 hB hz1 hk1 hS => ?_)
        obtain ⟨sp9_55, wg9_56⟩ := u
        try dsimp only at hw_54 hB
        obtain ⟨hP1, hK1, hD1⟩ := hB
        rw [htC] at hP1
        have hK1 := va_K.moved hvm.symm hK1
        obtain ⟨hP, hD⟩ := va_join (wr := []) (w1 := [(zo14irriiiiiirriirrrrlriiii m0 th aS aI im (nI a) sp9_55 (nI E) wg9_56 0 aB aT se dn aG aO aN aD bv aY rn kd nu tv), (zaI aS cS 901 fS)]) hP hD [0, 1] [] rfl rfl (by decide) (by decide) hk1 hFc hP1 hD1
        have hK := (hK.sub (tys' := []) [] rfl).app hK1
        generalize H1 = H at hP hS ⊢
        have hP : va_P (dC, dI) vwCl [(zo14irriiiiiirriirrrrlriiii m0 th aS aI im (nI a) sp9_55 (nI E) wg9_56 0 aB aT se dn aG aO aN aD bv aY rn kd nu tv), (zaI aS cS 901 fS)] H := hP
        have hD : va_D A [(zo14irriiiiiirriirrrrlriiii m0 th aS aI im (nI a) sp9_55 (nI E) wg9_56 0 aB aT se dn aG aO aN aD bv aY rn kd nu tv), (zaI aS cS 901 fS)] := hD
        have hK : va_K (dC, dI) vwCl [(cS, .int)] s := hK
        obtain ⟨rfl, rfl⟩ : _ ∧ _ := by rcases hw_54 with q | ⟨_, q, _⟩; exact q; exact absurd q (by decide)
        refine lv_aload_n hx hb dX12_much_16 rfl (lv_at hl 1 rfl) ?_
        have hPc := hP.sub (ws' := [(zo14irriiiiiirriirrrrlriiii m0 th aS aI im (nI a) (nI p_14) (nI E) 1 0 aB aT se dn aG aO aN aD bv aY rn kd nu tv)]) [0] rfl
        have hKc := hK.sub (tys' := []) [] rfl
        refine va_csv (va_runV (As := []) (rest := []) ⟨hx, hb, hml, hown, hts⟩ (c_someW l dC dI m0 aS aI aB aT aG aO aN aD aY th im (nI a) (nI p_14) (nI E) 1 0 se dn rn kd nu tv bv) (cwV 0 hts gX12_much_X12_some rfl rfl rfl hd_yX12_some ⟨Nat.le_of_ble_eq_true rfl, Nat.le_of_ble_eq_true rfl⟩) ⟨fun a U g mk q => by obtain ⟨q0, qP, qK⟩ := q; exact ⟨q0, qP, va_K.moved (u := U) (U := U.calling g mk a) (Vm.Alike.refl U.vm) qK⟩, va_recv hK hP (ci := 14) (q := (RX12, TX12, 23)) (q0 := 0) rfl rfl, fun U hU hW => ⟨rfl, by rw [hU]; exact hPc, va_K.moved hW.alike hKc⟩⟩ rfl rfl hl.1 rfl (lv_room (Nat.le_of_ble_eq_true rfl)) dX12_much_17 ⟨Nat.le_of_ble_eq_true rfl, Nat.le_of_ble_eq_true rfl⟩).run (fun hw_58 => ?_)
        refine lv_aload_n hx hb dX12_much_20 rfl (lv_at hl 1 rfl) ?_
        refine lv_iload_n hx hb dX12_much_21 rfl (lv_at hl 2 rfl) ?_
        refine lv_iload_n hx hb dX12_much_22 rfl (lv_at hl 0 rfl) ?_
        refine lv_isub hx hb dX12_much_23 ?_
        have hPc := hP.sub (ws' := [(zo14irriiiiiirriirrrrlriiii m0 th aS aI im (nI a) (nI p_14) (nI E) 1 0 aB aT se dn aG aO aN aD bv aY rn kd nu tv)]) [0] rfl
        have hKc := hK.sub (tys' := []) [] rfl
        refine va_csv (va_runV (As := [.int ((nI 0 - nI K) - (nI v_15))]) (rest := []) ⟨hx, hb, hml, hown, hts⟩ (c_emitsW l dC dI m0 aS aI aB aT aG aO aN aD aY th im (nI a) (nI p_14) (nI E) 1 0 se dn rn kd nu tv bv ((nI 0 - nI K) - (nI v_15))) (cwV 1 hts gX12_much_X12_emits rfl rfl rfl hd_yX12_emits ⟨Nat.le_of_ble_eq_true rfl, Nat.le_of_ble_eq_true rfl⟩) ⟨fun a U g mk q => by obtain ⟨q0, qP, qK⟩ := q; exact ⟨q0, qP, va_K.moved (u := U) (U := U.calling g mk a) (Vm.Alike.refl U.vm) qK⟩, va_recv hK hP (ci := 14) (q := (RX12, TX12, 23)) (q0 := 0) rfl rfl, fun U hU hW => ⟨rfl, by rw [hU]; exact hPc, va_K.moved hW.alike hKc⟩⟩ rfl rfl hl.1 rfl (lv_room (Nat.le_of_ble_eq_true rfl)) dX12_much_24 ⟨Nat.le_of_ble_eq_true rfl, Nat.le_of_ble_eq_true rfl⟩).run (fun hw_60 => ?_)
        rw [hQ]
        have hP9 := hP.sub (ws' := [(zo14irriiiiiirriirrrrlriiii m0 th aS aI im (nI a) (nI p_14) (nI E) 1 0 aB aT se dn aG aO aN aD bv aY rn kd nu tv), (zaI aS cS 901 fS)]) [0, 1] rfl
        have hD9 := hD.sub (ws' := [(zo14irriiiiiirriirrrrlriiii m0 th aS aI im (nI a) (nI p_14) (nI E) 1 0 aB aT se dn aG aO aN aD bv aY rn kd nu tv), (zaI aS cS 901 fS)]) [0, 1] (by decide) rfl
        have hK9 := hK.sub (tys' := [(cS, .int)]) [0] rfl
        exact W.vret hx hb hr (fun tQ htQ hWQ => ⟨⟨(fS, (nI p_14), 1), rfl, ⟨p_14, k, rfl, by omega, by omega, PF.rf, Or.inl rfl⟩, by rw [htQ]; exact hP9, va_K.moved hWQ.alike hK9, hD9⟩, hS.F htQ⟩) hS.2.2 dX12_much_27
    · skip
      refine lv_aload_n hx hb dX12_much_5 rfl (lv_at hl 0 rfl) ?_
      have hPc := hP.sub (ws' := [(zo14irriiiiiirriirrrrlriiii m0 th aS aI im (nI a) (nI p_5) (nI E) 1 0 aB aT se dn aG aO aN aD bv aY rn kd nu tv), (zaI aS cS 901 fS)]) [0, 1] rfl
      have hDc := hD.sub (ws' := [(zo14irriiiiiirriirrrrlriiii m0 th aS aI im (nI a) (nI p_5) (nI E) 1 0 aB aT se dn aG aO aN aD bv aY rn kd nu tv), (zaI aS cS 901 fS)]) [0, 1] (by decide) rfl
      have hKc := hK.sub (tys' := [(cS, .int)]) [0] rfl
      have hFc := va_free (wc := [(zo14irriiiiiirriirrrrlriiii m0 th aS aI im (nI a) (nI p_5) (nI E) 1 0 aB aT se dn aG aO aN aD bv aY rn kd nu tv), (zaI aS cS 901 fS)]) hD hS hA [0, 1] rfl
      refine va_calli (va_runV (As := []) (rest := []) ⟨hx, hb, hml, hown, hts⟩ (c_figures l dC dI m0 aS aI aB aT aG aO aN aD aY th im (nI a) (nI p_5) (nI E) 1 0 se dn rn kd nu tv bv cS fS a p_5 E H.size (by omega) (by omega) (by omega) (Or.inr rfl)) (cwV 0 hts gX12_much_X12_figures rfl rfl rfl hd_yX12_figures ⟨Nat.le_of_ble_eq_true rfl, Nat.le_of_ble_eq_true rfl⟩) ⟨fun a U g mk q => by obtain ⟨q0, q1, qP, qK, qD⟩ := q; exact ⟨q0, q1, qP, va_K.moved (u := U) (U := U.calling g mk a) (Vm.Alike.refl U.vm) qK, qD⟩, va_recv hK hP (ci := 14) (q := (RX12, TX12, 23)) (q0 := 0) rfl rfl, fun U hU hW => ⟨rfl, by rw [hU], by rw [hU]; exact hPc, va_K.moved hW.alike hKc, hDc.weaken (fun _ _ _ _ => trivial)⟩⟩ rfl rfl hl.1 rfl (lv_room (Nat.le_of_ble_eq_true rfl)) dX12_much_6 ⟨Nat.le_of_ble_eq_true rfl, Nat.le_of_ble_eq_true rfl⟩) hS (fun q _ h => hFc q h) hFc (fun r_61 u tC H1 locs htC hvm hw_62 hB hz1 hk1 hS => ?_)
      obtain ⟨sp9_63, wg9_64⟩ := u
      try dsimp only at hw_62 hB
      obtain ⟨hP1, hK1, hD1⟩ := hB
      rw [htC] at hP1
      have hK1 := va_K.moved hvm.symm hK1
      obtain ⟨hP, hD⟩ := va_join (wr := []) (w1 := [(zo14irriiiiiirriirrrrlriiii m0 th aS aI im (nI a) sp9_63 (nI E) wg9_64 0 aB aT se dn aG aO aN aD bv aY rn kd nu tv), (zaI aS cS 901 fS)]) hP hD [0, 1] [] rfl rfl (by decide) (by decide) hk1 hFc hP1 hD1
      have hK := (hK.sub (tys' := []) [] rfl).app hK1
      generalize H1 = H at hP hS ⊢
      have hP : va_P (dC, dI) vwCl [(zo14irriiiiiirriirrrrlriiii m0 th aS aI im (nI a) sp9_63 (nI E) wg9_64 0 aB aT se dn aG aO aN aD bv aY rn kd nu tv), (zaI aS cS 901 fS)] H := hP
      have hD : va_D A [(zo14irriiiiiirriirrrrlriiii m0 th aS aI im (nI a) sp9_63 (nI E) wg9_64 0 aB aT se dn aG aO aN aD bv aY rn kd nu tv), (zaI aS cS 901 fS)] := hD
      have hK : va_K (dC, dI) vwCl [(cS, .int)] s := hK
      obtain ⟨p_65, v_66, h_67, h_68, rfl, rfl, h_69, h_70, h_71⟩ := hw_62
      rcases h_70 with rfl | rfl
      · skip
        exact absurd (h_71 rfl).1 (by decide)
      · skip
        refine lv_istore_n (lv' := [(3, .int (nI v_66)), (0, .ref m0), (1, .int (nI 0 - nI K)), (2, .ref (sK i))]) hx hb dX12_much_9 rfl hl (by decide) rfl (fun ls hl => ?_)
        refine lv_aload_n hx hb dX12_much_10 rfl (lv_at hl 1 rfl) ?_
        refine lv_bipush (v := 32) hx hb dX12_much_11 (by decide) ?_
        have hPc := hP.sub (ws' := [(zo14irriiiiiirriirrrrlriiii m0 th aS aI im (nI a) (nI p_65) (nI E) 1 0 aB aT se dn aG aO aN aD bv aY rn kd nu tv), (zaI aS cS 901 fS)]) [0, 1] rfl
        have hDc := hD.sub (ws' := [(zo14irriiiiiirriirrrrlriiii m0 th aS aI im (nI a) (nI p_65) (nI E) 1 0 aB aT se dn aG aO aN aD bv aY rn kd nu tv), (zaI aS cS 901 fS)]) [0, 1] (by decide) rfl
        have hKc := hK.sub (tys' := [(cS, .int)]) [0] rfl
        have hFc := va_free (wc := [(zo14irriiiiiirriirrrrlriiii m0 th aS aI im (nI a) (nI p_65) (nI E) 1 0 aB aT se dn aG aO aN aD bv aY rn kd nu tv), (zaI aS cS 901 fS)]) hD hS hA [0, 1] rfl
        refine va_callv (va_runV (As := [.int 32]) (rest := []) ⟨hx, hb, hml, hown, hts⟩ (c_must l dC dI m0 aS aI aB aT aG aO aN aD aY th im (nI a) (nI p_65) (nI E) 1 0 se dn rn kd nu tv bv cS fS a p_65 E 32 H.size (by omega) (by omega) (by omega) (Or.inr rfl) (by decide)) (cwV 1 hts gX12_much_X12_must rfl rfl rfl hd_yX12_must ⟨Nat.le_of_ble_eq_true rfl, Nat.le_of_ble_eq_true rfl⟩) ⟨fun a U g mk q => by obtain ⟨q0, q1, qP, qK, qD⟩ := q; exact ⟨q0, q1, qP, va_K.moved (u := U) (U := U.calling g mk a) (Vm.Alike.refl U.vm) qK, qD⟩, va_recv hK hP (ci := 14) (q := (RX12, TX12, 23)) (q0 := 0) rfl rfl, fun U hU hW => ⟨rfl, by rw [hU], by rw [hU]; exact hPc, va_K.moved hW.alike hKc, hDc.weaken (fun _ _ _ _ => trivial)⟩⟩ rfl rfl hl.1 rfl (lv_room (Nat.le_of_ble_eq_true rfl)) dX12_much_13 ⟨Nat.le_of_ble_eq_true rfl, Nat.le_of_ble_eq_true rfl⟩) hS (fun q _ h => hFc q h) hFc (fun u tC H1 locs htC hvm hw_73 hB hz1 hk1 hS => ?_)
        obtain ⟨sp9_74, wg9_75⟩ := u
        try dsimp only at hw_73 hB
        obtain ⟨hP1, hK1, hD1⟩ := hB
        rw [htC] at hP1
        have hK1 := va_K.moved hvm.symm hK1
        obtain ⟨hP, hD⟩ := va_join (wr := []) (w1 := [(zo14irriiiiiirriirrrrlriiii m0 th aS aI im (nI a) sp9_74 (nI E) wg9_75 0 aB aT se dn aG aO aN aD bv aY rn kd nu tv), (zaI aS cS 901 fS)]) hP hD [0, 1] [] rfl rfl (by decide) (by decide) hk1 hFc hP1 hD1
        have hK := (hK.sub (tys' := []) [] rfl).app hK1
        generalize H1 = H at hP hS ⊢
        have hP : va_P (dC, dI) vwCl [(zo14irriiiiiirriirrrrlriiii m0 th aS aI im (nI a) sp9_74 (nI E) wg9_75 0 aB aT se dn aG aO aN aD bv aY rn kd nu tv), (zaI aS cS 901 fS)] H := hP
        have hD : va_D A [(zo14irriiiiiirriirrrrlriiii m0 th aS aI im (nI a) sp9_74 (nI E) wg9_75 0 aB aT se dn aG aO aN aD bv aY rn kd nu tv), (zaI aS cS 901 fS)] := hD
        have hK : va_K (dC, dI) vwCl [(cS, .int)] s := hK
        obtain ⟨rfl, rfl⟩ : _ ∧ _ := by rcases hw_73 with q | ⟨_, q, _⟩; exact q; exact absurd q (by decide)
        refine lv_aload_n hx hb dX12_much_16 rfl (lv_at hl 1 rfl) ?_
        have hPc := hP.sub (ws' := [(zo14irriiiiiirriirrrrlriiii m0 th aS aI im (nI a) (nI p_65) (nI E) 1 0 aB aT se dn aG aO aN aD bv aY rn kd nu tv)]) [0] rfl
        have hKc := hK.sub (tys' := []) [] rfl
        refine va_csv (va_runV (As := []) (rest := []) ⟨hx, hb, hml, hown, hts⟩ (c_someW l dC dI m0 aS aI aB aT aG aO aN aD aY th im (nI a) (nI p_65) (nI E) 1 0 se dn rn kd nu tv bv) (cwV 0 hts gX12_much_X12_some rfl rfl rfl hd_yX12_some ⟨Nat.le_of_ble_eq_true rfl, Nat.le_of_ble_eq_true rfl⟩) ⟨fun a U g mk q => by obtain ⟨q0, qP, qK⟩ := q; exact ⟨q0, qP, va_K.moved (u := U) (U := U.calling g mk a) (Vm.Alike.refl U.vm) qK⟩, va_recv hK hP (ci := 14) (q := (RX12, TX12, 23)) (q0 := 0) rfl rfl, fun U hU hW => ⟨rfl, by rw [hU]; exact hPc, va_K.moved hW.alike hKc⟩⟩ rfl rfl hl.1 rfl (lv_room (Nat.le_of_ble_eq_true rfl)) dX12_much_17 ⟨Nat.le_of_ble_eq_true rfl, Nat.le_of_ble_eq_true rfl⟩).run (fun hw_77 => ?_)
        refine lv_aload_n hx hb dX12_much_20 rfl (lv_at hl 1 rfl) ?_
        refine lv_iload_n hx hb dX12_much_21 rfl (lv_at hl 2 rfl) ?_
        refine lv_iload_n hx hb dX12_much_22 rfl (lv_at hl 0 rfl) ?_
        refine lv_isub hx hb dX12_much_23 ?_
        have hPc := hP.sub (ws' := [(zo14irriiiiiirriirrrrlriiii m0 th aS aI im (nI a) (nI p_65) (nI E) 1 0 aB aT se dn aG aO aN aD bv aY rn kd nu tv)]) [0] rfl
        have hKc := hK.sub (tys' := []) [] rfl
        refine va_csv (va_runV (As := [.int ((nI 0 - nI K) - (nI v_66))]) (rest := []) ⟨hx, hb, hml, hown, hts⟩ (c_emitsW l dC dI m0 aS aI aB aT aG aO aN aD aY th im (nI a) (nI p_65) (nI E) 1 0 se dn rn kd nu tv bv ((nI 0 - nI K) - (nI v_66))) (cwV 1 hts gX12_much_X12_emits rfl rfl rfl hd_yX12_emits ⟨Nat.le_of_ble_eq_true rfl, Nat.le_of_ble_eq_true rfl⟩) ⟨fun a U g mk q => by obtain ⟨q0, qP, qK⟩ := q; exact ⟨q0, qP, va_K.moved (u := U) (U := U.calling g mk a) (Vm.Alike.refl U.vm) qK⟩, va_recv hK hP (ci := 14) (q := (RX12, TX12, 23)) (q0 := 0) rfl rfl, fun U hU hW => ⟨rfl, by rw [hU]; exact hPc, va_K.moved hW.alike hKc⟩⟩ rfl rfl hl.1 rfl (lv_room (Nat.le_of_ble_eq_true rfl)) dX12_much_24 ⟨Nat.le_of_ble_eq_true rfl, Nat.le_of_ble_eq_true rfl⟩).run (fun hw_79 => ?_)
        rw [hQ]
        have hP9 := hP.sub (ws' := [(zo14irriiiiiirriirrrrlriiii m0 th aS aI im (nI a) (nI p_65) (nI E) 1 0 aB aT se dn aG aO aN aD bv aY rn kd nu tv), (zaI aS cS 901 fS)]) [0, 1] rfl
        have hD9 := hD.sub (ws' := [(zo14irriiiiiirriirrrrlriiii m0 th aS aI im (nI a) (nI p_65) (nI E) 1 0 aB aT se dn aG aO aN aD bv aY rn kd nu tv), (zaI aS cS 901 fS)]) [0, 1] (by decide) rfl
        have hK9 := hK.sub (tys' := [(cS, .int)]) [0] rfl
        exact W.vret hx hb hr (fun tQ htQ hWQ => ⟨⟨(fS, (nI p_65), 1), rfl, ⟨p_65, k, rfl, by omega, by omega, PF.rf, Or.inl rfl⟩, by rw [htQ]; exact hP9, va_K.moved hWQ.alike hK9, hD9⟩, hS.F htQ⟩) hS.2.2 dX12_much_27
  · skip
    refine lv_aload_n hx hb dX12_much_0 rfl (lv_at hl 0 rfl) ?_
    refine lv_aload_n hx hb dX12_much_1 rfl (lv_at hl 2 rfl) ?_
    have hPc := hP.sub (ws' := [(zo14irriiiiiirriirrrrlriiii m0 th aS aI im (nI a) (nI p0) (nI E) 1 0 aB aT se dn aG aO aN aD bv aY rn kd nu tv), (zaI aS cS 901 fS)]) [0, 1] rfl
    have hDc := hD.sub (ws' := [(zo14irriiiiiirriirrrrlriiii m0 th aS aI im (nI a) (nI p0) (nI E) 1 0 aB aT se dn aG aO aN aD bv aY rn kd nu tv), (zaI aS cS 901 fS)]) [0, 1] (by decide) rfl
    have hKc := hK.sub (tys' := [(cS, .int)]) [0] rfl
    have hFc := va_free (wc := [(zo14irriiiiiirriirrrrlriiii m0 th aS aI im (nI a) (nI p0) (nI E) 1 0 aB aT se dn aG aO aN aD bv aY rn kd nu tv), (zaI aS cS 901 fS)]) hD hS hA [0, 1] rfl
    refine va_callv (va_runV (As := [.ref (sK i)]) (rest := []) ⟨hx, hb, hml, hown, hts⟩ (c_spells l dC dI sK sV m0 aS aI aB aT aG aO aN aD aY th im (nI a) (nI p0) (nI E) 1 0 se dn rn kd nu tv bv cS fS a p0 E i H.size (by omega) (by omega) (by omega) (Or.inr rfl) (by first | assumption | decide)) (cwV 1 hts gX12_much_X12_spells rfl rfl rfl hd_yX12_spells ⟨Nat.le_of_ble_eq_true rfl, Nat.le_of_ble_eq_true rfl⟩) ⟨fun a U g mk q => by obtain ⟨q0, q1, qP, qK, qD, qhE⟩ := q; exact ⟨q0, q1, qP, va_K.moved (u := U) (U := U.calling g mk a) (Vm.Alike.refl U.vm) qK, qD, qhE.same rfl rfl⟩, va_recv hK hP (ci := 14) (q := (RX12, TX12, 23)) (q0 := 0) rfl rfl, fun U hU hW => ⟨rfl, by rw [hU], by rw [hU]; exact hPc, va_K.moved hW.alike hKc, hDc.weaken (fun _ _ _ _ => trivial), hE.call hS hU hW (fun q h => hFc q h)⟩⟩ rfl rfl hl.1 rfl (lv_room (Nat.le_of_ble_eq_true rfl)) dX12_much_2 ⟨Nat.le_of_ble_eq_true rfl, Nat.le_of_ble_eq_true rfl⟩) hS (fun q _ h => hFc q h) hFc (fun u tC H1 locs htC hvm hw_81 hB hz1 hk1 hS => ?_)
    obtain ⟨sp9_82, wg9_83⟩ := u
    try dsimp only at hw_81 hB
    obtain ⟨hP1, hK1, hD1⟩ := hB
    rw [htC] at hP1
    have hK1 := va_K.moved hvm.symm hK1
    obtain ⟨hP, hD⟩ := va_join (wr := []) (w1 := [(zo14irriiiiiirriirrrrlriiii m0 th aS aI im (nI a) sp9_82 (nI E) wg9_83 0 aB aT se dn aG aO aN aD bv aY rn kd nu tv), (zaI aS cS 901 fS)]) hP hD [0, 1] [] rfl rfl (by decide) (by decide) hk1 hFc hP1 hD1
    have hK := (hK.sub (tys' := []) [] rfl).app hK1
    generalize H1 = H at hP hS ⊢
    have hP : va_P (dC, dI) vwCl [(zo14irriiiiiirriirrrrlriiii m0 th aS aI im (nI a) sp9_82 (nI E) wg9_83 0 aB aT se dn aG aO aN aD bv aY rn kd nu tv), (zaI aS cS 901 fS)] H := hP
    have hD : va_D A [(zo14irriiiiiirriirrrrlriiii m0 th aS aI im (nI a) sp9_82 (nI E) wg9_83 0 aB aT se dn aG aO aN aD bv aY rn kd nu tv), (zaI aS cS 901 fS)] := hD
    have hK : va_K (dC, dI) vwCl [(cS, .int)] s := hK
    obtain ⟨p_84, h_85, h_86, rfl, h_87, h_88⟩ := hw_81
    rcases h_87 with rfl | rfl
    · skip
      exact absurd (h_88 rfl) (by decide)
    · skip
      refine lv_aload_n hx hb dX12_much_5 rfl (lv_at hl 0 rfl) ?_
      have hPc := hP.sub (ws' := [(zo14irriiiiiirriirrrrlriiii m0 th aS aI im (nI a) (nI p_84) (nI E) 1 0 aB aT se dn aG aO aN aD bv aY rn kd nu tv), (zaI aS cS 901 fS)]) [0, 1] rfl
      have hDc := hD.sub (ws' := [(zo14irriiiiiirriirrrrlriiii m0 th aS aI im (nI a) (nI p_84) (nI E) 1 0 aB aT se dn aG aO aN aD bv aY rn kd nu tv), (zaI aS cS 901 fS)]) [0, 1] (by decide) rfl
      have hKc := hK.sub (tys' := [(cS, .int)]) [0] rfl
      have hFc := va_free (wc := [(zo14irriiiiiirriirrrrlriiii m0 th aS aI im (nI a) (nI p_84) (nI E) 1 0 aB aT se dn aG aO aN aD bv aY rn kd nu tv), (zaI aS cS 901 fS)]) hD hS hA [0, 1] rfl
      refine va_calli (va_runV (As := []) (rest := []) ⟨hx, hb, hml, hown, hts⟩ (c_figures l dC dI m0 aS aI aB aT aG aO aN aD aY th im (nI a) (nI p_84) (nI E) 1 0 se dn rn kd nu tv bv cS fS a p_84 E H.size (by omega) (by omega) (by omega) (Or.inr rfl)) (cwV 0 hts gX12_much_X12_figures rfl rfl rfl hd_yX12_figures ⟨Nat.le_of_ble_eq_true rfl, Nat.le_of_ble_eq_true rfl⟩) ⟨fun a U g mk q => by obtain ⟨q0, q1, qP, qK, qD⟩ := q; exact ⟨q0, q1, qP, va_K.moved (u := U) (U := U.calling g mk a) (Vm.Alike.refl U.vm) qK, qD⟩, va_recv hK hP (ci := 14) (q := (RX12, TX12, 23)) (q0 := 0) rfl rfl, fun U hU hW => ⟨rfl, by rw [hU], by rw [hU]; exact hPc, va_K.moved hW.alike hKc, hDc.weaken (fun _ _ _ _ => trivial)⟩⟩ rfl rfl hl.1 rfl (lv_room (Nat.le_of_ble_eq_true rfl)) dX12_much_6 ⟨Nat.le_of_ble_eq_true rfl, Nat.le_of_ble_eq_true rfl⟩) hS (fun q _ h => hFc q h) hFc (fun r_89 u tC H1 locs htC hvm hw_90 hB hz1 hk1 hS => ?_)
      obtain ⟨sp9_91, wg9_92⟩ := u
      try dsimp only at hw_90 hB
      obtain ⟨hP1, hK1, hD1⟩ := hB
      rw [htC] at hP1
      have hK1 := va_K.moved hvm.symm hK1
      obtain ⟨hP, hD⟩ := va_join (wr := []) (w1 := [(zo14irriiiiiirriirrrrlriiii m0 th aS aI im (nI a) sp9_91 (nI E) wg9_92 0 aB aT se dn aG aO aN aD bv aY rn kd nu tv), (zaI aS cS 901 fS)]) hP hD [0, 1] [] rfl rfl (by decide) (by decide) hk1 hFc hP1 hD1
      have hK := (hK.sub (tys' := []) [] rfl).app hK1
      generalize H1 = H at hP hS ⊢
      have hP : va_P (dC, dI) vwCl [(zo14irriiiiiirriirrrrlriiii m0 th aS aI im (nI a) sp9_91 (nI E) wg9_92 0 aB aT se dn aG aO aN aD bv aY rn kd nu tv), (zaI aS cS 901 fS)] H := hP
      have hD : va_D A [(zo14irriiiiiirriirrrrlriiii m0 th aS aI im (nI a) sp9_91 (nI E) wg9_92 0 aB aT se dn aG aO aN aD bv aY rn kd nu tv), (zaI aS cS 901 fS)] := hD
      have hK : va_K (dC, dI) vwCl [(cS, .int)] s := hK
      obtain ⟨p_93, v_94, h_95, h_96, rfl, rfl, h_97, h_98, h_99⟩ := hw_90
      rcases h_98 with rfl | rfl
      · skip
        exact absurd (h_99 rfl).1 (by decide)
      · skip
        refine lv_istore_n (lv' := [(3, .int (nI v_94)), (0, .ref m0), (1, .int (nI 0 - nI K)), (2, .ref (sK i))]) hx hb dX12_much_9 rfl hl (by decide) rfl (fun ls hl => ?_)
        refine lv_aload_n hx hb dX12_much_10 rfl (lv_at hl 1 rfl) ?_
        refine lv_bipush (v := 32) hx hb dX12_much_11 (by decide) ?_
        have hPc := hP.sub (ws' := [(zo14irriiiiiirriirrrrlriiii m0 th aS aI im (nI a) (nI p_93) (nI E) 1 0 aB aT se dn aG aO aN aD bv aY rn kd nu tv), (zaI aS cS 901 fS)]) [0, 1] rfl
        have hDc := hD.sub (ws' := [(zo14irriiiiiirriirrrrlriiii m0 th aS aI im (nI a) (nI p_93) (nI E) 1 0 aB aT se dn aG aO aN aD bv aY rn kd nu tv), (zaI aS cS 901 fS)]) [0, 1] (by decide) rfl
        have hKc := hK.sub (tys' := [(cS, .int)]) [0] rfl
        have hFc := va_free (wc := [(zo14irriiiiiirriirrrrlriiii m0 th aS aI im (nI a) (nI p_93) (nI E) 1 0 aB aT se dn aG aO aN aD bv aY rn kd nu tv), (zaI aS cS 901 fS)]) hD hS hA [0, 1] rfl
        refine va_callv (va_runV (As := [.int 32]) (rest := []) ⟨hx, hb, hml, hown, hts⟩ (c_must l dC dI m0 aS aI aB aT aG aO aN aD aY th im (nI a) (nI p_93) (nI E) 1 0 se dn rn kd nu tv bv cS fS a p_93 E 32 H.size (by omega) (by omega) (by omega) (Or.inr rfl) (by decide)) (cwV 1 hts gX12_much_X12_must rfl rfl rfl hd_yX12_must ⟨Nat.le_of_ble_eq_true rfl, Nat.le_of_ble_eq_true rfl⟩) ⟨fun a U g mk q => by obtain ⟨q0, q1, qP, qK, qD⟩ := q; exact ⟨q0, q1, qP, va_K.moved (u := U) (U := U.calling g mk a) (Vm.Alike.refl U.vm) qK, qD⟩, va_recv hK hP (ci := 14) (q := (RX12, TX12, 23)) (q0 := 0) rfl rfl, fun U hU hW => ⟨rfl, by rw [hU], by rw [hU]; exact hPc, va_K.moved hW.alike hKc, hDc.weaken (fun _ _ _ _ => trivial)⟩⟩ rfl rfl hl.1 rfl (lv_room (Nat.le_of_ble_eq_true rfl)) dX12_much_13 ⟨Nat.le_of_ble_eq_true rfl, Nat.le_of_ble_eq_true rfl⟩) hS (fun q _ h => hFc q h) hFc (fun u tC H1 locs htC hvm hw_101 hB hz1 hk1 hS => ?_)
        obtain ⟨sp9_102, wg9_103⟩ := u
        try dsimp only at hw_101 hB
        obtain ⟨hP1, hK1, hD1⟩ := hB
        rw [htC] at hP1
        have hK1 := va_K.moved hvm.symm hK1
        obtain ⟨hP, hD⟩ := va_join (wr := []) (w1 := [(zo14irriiiiiirriirrrrlriiii m0 th aS aI im (nI a) sp9_102 (nI E) wg9_103 0 aB aT se dn aG aO aN aD bv aY rn kd nu tv), (zaI aS cS 901 fS)]) hP hD [0, 1] [] rfl rfl (by decide) (by decide) hk1 hFc hP1 hD1
        have hK := (hK.sub (tys' := []) [] rfl).app hK1
        generalize H1 = H at hP hS ⊢
        have hP : va_P (dC, dI) vwCl [(zo14irriiiiiirriirrrrlriiii m0 th aS aI im (nI a) sp9_102 (nI E) wg9_103 0 aB aT se dn aG aO aN aD bv aY rn kd nu tv), (zaI aS cS 901 fS)] H := hP
        have hD : va_D A [(zo14irriiiiiirriirrrrlriiii m0 th aS aI im (nI a) sp9_102 (nI E) wg9_103 0 aB aT se dn aG aO aN aD bv aY rn kd nu tv), (zaI aS cS 901 fS)] := hD
        have hK : va_K (dC, dI) vwCl [(cS, .int)] s := hK
        obtain ⟨rfl, rfl⟩ : _ ∧ _ := by rcases hw_101 with q | ⟨_, q, _⟩; exact q; exact absurd q (by decide)
        refine lv_aload_n hx hb dX12_much_16 rfl (lv_at hl 1 rfl) ?_
        have hPc := hP.sub (ws' := [(zo14irriiiiiirriirrrrlriiii m0 th aS aI im (nI a) (nI p_93) (nI E) 1 0 aB aT se dn aG aO aN aD bv aY rn kd nu tv)]) [0] rfl
        have hKc := hK.sub (tys' := []) [] rfl
        refine va_csv (va_runV (As := []) (rest := []) ⟨hx, hb, hml, hown, hts⟩ (c_someW l dC dI m0 aS aI aB aT aG aO aN aD aY th im (nI a) (nI p_93) (nI E) 1 0 se dn rn kd nu tv bv) (cwV 0 hts gX12_much_X12_some rfl rfl rfl hd_yX12_some ⟨Nat.le_of_ble_eq_true rfl, Nat.le_of_ble_eq_true rfl⟩) ⟨fun a U g mk q => by obtain ⟨q0, qP, qK⟩ := q; exact ⟨q0, qP, va_K.moved (u := U) (U := U.calling g mk a) (Vm.Alike.refl U.vm) qK⟩, va_recv hK hP (ci := 14) (q := (RX12, TX12, 23)) (q0 := 0) rfl rfl, fun U hU hW => ⟨rfl, by rw [hU]; exact hPc, va_K.moved hW.alike hKc⟩⟩ rfl rfl hl.1 rfl (lv_room (Nat.le_of_ble_eq_true rfl)) dX12_much_17 ⟨Nat.le_of_ble_eq_true rfl, Nat.le_of_ble_eq_true rfl⟩).run (fun hw_105 => ?_)
        refine lv_aload_n hx hb dX12_much_20 rfl (lv_at hl 1 rfl) ?_
        refine lv_iload_n hx hb dX12_much_21 rfl (lv_at hl 2 rfl) ?_
        refine lv_iload_n hx hb dX12_much_22 rfl (lv_at hl 0 rfl) ?_
        refine lv_isub hx hb dX12_much_23 ?_
        have hPc := hP.sub (ws' := [(zo14irriiiiiirriirrrrlriiii m0 th aS aI im (nI a) (nI p_93) (nI E) 1 0 aB aT se dn aG aO aN aD bv aY rn kd nu tv)]) [0] rfl
        have hKc := hK.sub (tys' := []) [] rfl
        refine va_csv (va_runV (As := [.int ((nI 0 - nI K) - (nI v_94))]) (rest := []) ⟨hx, hb, hml, hown, hts⟩ (c_emitsW l dC dI m0 aS aI aB aT aG aO aN aD aY th im (nI a) (nI p_93) (nI E) 1 0 se dn rn kd nu tv bv ((nI 0 - nI K) - (nI v_94))) (cwV 1 hts gX12_much_X12_emits rfl rfl rfl hd_yX12_emits ⟨Nat.le_of_ble_eq_true rfl, Nat.le_of_ble_eq_true rfl⟩) ⟨fun a U g mk q => by obtain ⟨q0, qP, qK⟩ := q; exact ⟨q0, qP, va_K.moved (u := U) (U := U.calling g mk a) (Vm.Alike.refl U.vm) qK⟩, va_recv hK hP (ci := 14) (q := (RX12, TX12, 23)) (q0 := 0) rfl rfl, fun U hU hW => ⟨rfl, by rw [hU]; exact hPc, va_K.moved hW.alike hKc⟩⟩ rfl rfl hl.1 rfl (lv_room (Nat.le_of_ble_eq_true rfl)) dX12_much_24 ⟨Nat.le_of_ble_eq_true rfl, Nat.le_of_ble_eq_true rfl⟩).run (fun hw_107 => ?_)
        rw [hQ]
        have hP9 := hP.sub (ws' := [(zo14irriiiiiirriirrrrlriiii m0 th aS aI im (nI a) (nI p_93) (nI E) 1 0 aB aT se dn aG aO aN aD bv aY rn kd nu tv), (zaI aS cS 901 fS)]) [0, 1] rfl
        have hD9 := hD.sub (ws' := [(zo14irriiiiiirriirrrrlriiii m0 th aS aI im (nI a) (nI p_93) (nI E) 1 0 aB aT se dn aG aO aN aD bv aY rn kd nu tv), (zaI aS cS 901 fS)]) [0, 1] (by decide) rfl
        have hK9 := hK.sub (tys' := [(cS, .int)]) [0] rfl
        exact W.vret hx hb hr (fun tQ htQ hWQ => ⟨⟨(fS, (nI p_93), 1), rfl, ⟨p_93, k, rfl, by omega, by omega, PF.rf, Or.inl rfl⟩, by rw [htQ]; exact hP9, va_K.moved hWQ.alike hK9, hD9⟩, hS.F htQ⟩) hS.2.2 dX12_much_27

theorem kc_clauseOfS_0 : ∀ w ∈ wsX120, w ∈ wsX12_clauseOfS := fun w h => List.mem_cons_of_mem _ (gin_wsX120 w h)
theorem kc_clauseOfS_1 : (.fieldLink RX12 65 "MistHeapsModel" "isWrong" "Z" : Cond) ∈ wsX12_clauseOfS := kc_of 1147 rfl rfl rfl
theorem kc_clauseOfS_2 : (.fieldLink RX12 9 "MistHeapsModel" "s" "[I" : Cond) ∈ wsX12_clauseOfS := kc_of 1141 rfl rfl rfl
theorem kc_clauseOfS_3 : (.fieldLink RX12 86 "MistHeapsModel" "act" "I" : Cond) ∈ wsX12_clauseOfS := kc_of 1144 rfl rfl rfl
set_option maxHeartbeats 4000000 in
set_option maxRecDepth 100000 in
theorem c_clauseOfS (l : Launch) (dC : Nat → ClassId) (dI : Nat → Nat → Nat) (sK sV : Nat → Nat) (m0 aS aI aB aT aG aO aN aD aY : Nat) (th im ac sp en wg op se dn rn kd nu tv : Int32) (bv : Int64) (cS : ClassId) (fS : Nat → Int32) (a p0 E k : Nat) (sz : Nat) (ga : a < 5) (gE : E ≤ 100) (gp : p0 ≤ E) (zw : wg = 0 ∨ wg = 1) (gI : wg = 0 → PI fS a k 0 p0 E) : Met l yX12_clauseOfS wsX12_clauseOfS ({ frames := 24, cells := 0, slots := 0, locals := 514 } : Room) (va_Pc [.ref m0] (fun U => U.heap.size = sz ∧ va_P (dC, dI) vwCl [(zo14irriiiiiirriirrrrlriiii m0 th aS aI im (nI a) (nI p0) (nI E) wg 0 aB aT se dn aG aO aN aD bv aY rn kd nu tv), (zaI aS cS 901 fS)] U.heap ∧ va_K (dC, dI) vwCl [(cS, .int)] U ∧ va_D (fun _ => True) [(zo14irriiiiiirriirrrrlriiii m0 th aS aI im (nI a) (nI p0) (nI E) wg 0 aB aT se dn aG aO aN aD bv aY rn kd nu tv), (zaI aS cS 901 fS)] ∧ Gs sK sV (va_A [(zo14irriiiiiirriirrrrlriiii m0 th aS aI im (nI a) (nI p0) (nI E) wg 0 aB aT se dn aG aO aN aD bv aY rn kd nu tv), (zaI aS cS 901 fS)] sz) U)) (va_Qv (fun (u : (Nat → Int32) × (Int32) × (Int32)) => match u with | (fS9, sp9, wg9) => ∃ p9 k9 : Nat, sp9 = nI p9 ∧ p0 ≤ p9 ∧ p9 ≤ E ∧ PF a fS fS9 ∧ (wg9 = 1 ∨ (wg9 = 0 ∧ PI fS9 a k9 0 p9 E))) (fun (u : (Nat → Int32) × (Int32) × (Int32)) (t : State) => match u with | (fS9, sp9, wg9) => va_P (dC, dI) vwCl [(zo14irriiiiiirriirrrrlriiii m0 th aS aI im (nI a) sp9 (nI E) wg9 0 aB aT se dn aG aO aN aD bv aY rn kd nu tv), (zaI aS cS 901 fS9)] t.heap ∧ va_K (dC, dI) vwCl [(cS, .int)] t ∧ va_D (va_A [(zo14irriiiiiirriirrrrlriiii m0 th aS aI im (nI a) (nI p0) (nI E) wg 0 aB aT se dn aG aO aN aD bv aY rn kd nu tv), (zaI aS cS 901 fS)] sz) [(zo14irriiiiiirriirrrrlriiii m0 th aS aI im (nI a) sp9 (nI E) wg9 0 aB aT se dn aG aO aN aD bv aY rn kd nu tv), (zaI aS cS 901 fS9)]) (va_A [(zo14irriiiiiirriirrrrlriiii m0 th aS aI im (nI a) (nI p0) (nI E) wg 0 aB aT se dn aG aO aN aD bv aY rn kd nu tv), (zaI aS cS 901 fS)] sz)) 0 0 (va_A [(zo14irriiiiiirriirrrrlriiii m0 th aS aI im (nI a) (nI p0) (nI E) wg 0 aB aT se dn aG aO aN aD bv aY rn kd nu tv), (zaI aS cS 901 fS)] sz) := by
  refine met_ofQ (cc := cX12_clauseOfS) (maxL := 2) (ret := none) (by decide) rfl ?_
  intro p e s m args below meth c s₁ Q B hml hv hQ
  obtain ⟨rfl, hsz, hP, hK, hD0, hE⟩ := hv
  have hx := B.exec
  have hb := B.bytes
  have hr := B.returns
  have hts := atoms_spec (ws := wsX12_clauseOfS) B.pre
  have hown : s.vm.findClass RX12 = some m.cls := findClass_of_methodNamed B.named
  have hlocks := B.notSynchronized
  subst hsz
  have hD := hD0.self (sz := s.heap.size)
  generalize hAe : va_A [(zo14irriiiiiirriirrrrlriiii m0 th aS aI im (nI a) (nI p0) (nI E) wg 0 aB aT se dn aG aO aN aD bv aY rn kd nu tv), (zaI aS cS 901 fS)] s.heap.size = A at hD hQ hE ⊢
  have hA : ∀ q : Nat, s.heap.size ≤ q → A q := fun q h => by rw [← hAe]; exact Or.inr h
  have hS : va_S A s.heap s.heap [] := va_S.rf
  have hl := lv_entry [.ref m0] (n := 2) (Nat.le_of_ble_eq_true rfl)
  rw [lg_entry_eq]
  generalize (lg_sl [.ref m0] ++ List.replicate (2 - (lg_sl [.ref m0]).length) Slot.unset).toArray = ls at hl ⊢
  generalize hag : ([.ref m0] : List Value).toArray = args at hts hQ ⊢
  have hl : lv_has ls 2 [(0, .ref m0)] := hl
  obtain ⟨H, hH⟩ : ∃ H : Heap, H = s.heap := ⟨_, rfl⟩
  rw [← hH] at hP
  rw [← hH]
  have hS : va_S A s.heap H [] := by rw [hH]; exact hS
  obtain ⟨locs, hlo⟩ : ∃ L : List Loc, L = [] := ⟨_, rfl⟩
  rw [← hlo] at hS
  rw [← hlo]
  clear hH hlo
  rcases zw with rfl | rfl
  · skip
    have k5 := (gI rfl).2.2.2.2.1
    refine lv_aload_n hx hb dX12_clauseOfS_0 rfl (lv_at hl 0 rfl) ?_
    refine lv_bipush (v := 115) hx hb dX12_clauseOfS_1 (by decide) ?_
    have hPc := hP.sub (ws' := [(zo14irriiiiiirriirrrrlriiii m0 th aS aI im (nI a) (nI p0) (nI E) 0 0 aB aT se dn aG aO aN aD bv aY rn kd nu tv), (zaI aS cS 901 fS)]) [0, 1] rfl
    have hDc := hD.sub (ws' := [(zo14irriiiiiirriirrrrlriiii m0 th aS aI im (nI a) (nI p0) (nI E) 0 0 aB aT se dn aG aO aN aD bv aY rn kd nu tv), (zaI aS cS 901 fS)]) [0, 1] (by decide) rfl
    have hKc := hK.sub (tys' := [(cS, .int)]) [0] rfl
    have hFc := va_free (wc := [(zo14irriiiiiirriirrrrlriiii m0 th aS aI im (nI a) (nI p0) (nI E) 0 0 aB aT se dn aG aO aN aD bv aY rn kd nu tv), (zaI aS cS 901 fS)]) hD hS hA [0, 1] rfl
    refine va_callv (va_runV (As := [.int 115]) (rest := []) ⟨hx, hb, hml, hown, hts⟩ (c_must l dC dI m0 aS aI aB aT aG aO aN aD aY th im (nI a) (nI p0) (nI E) 0 0 se dn rn kd nu tv bv cS fS a p0 E 115 H.size (by omega) (by omega) (by omega) (Or.inl rfl) (by decide)) (cwV 1 hts gX12_clauseOfS_X12_must rfl rfl rfl hd_yX12_must ⟨Nat.le_of_ble_eq_true rfl, Nat.le_of_ble_eq_true rfl⟩) ⟨fun a U g mk q => by obtain ⟨q0, q1, qP, qK, qD⟩ := q; exact ⟨q0, q1, qP, va_K.moved (u := U) (U := U.calling g mk a) (Vm.Alike.refl U.vm) qK, qD⟩, va_recv hK hP (ci := 14) (q := (RX12, TX12, 23)) (q0 := 0) rfl rfl, fun U hU hW => ⟨rfl, by rw [hU], by rw [hU]; exact hPc, va_K.moved hW.alike hKc, hDc.weaken (fun _ _ _ _ => trivial)⟩⟩ rfl rfl hl.1 rfl (lv_room (Nat.le_of_ble_eq_true rfl)) dX12_clauseOfS_3 ⟨Nat.le_of_ble_eq_true rfl, Nat.le_of_ble_eq_true rfl⟩) hS (fun q _ h => hFc q h) hFc (fun u tC H1 locs htC hvm hw_2 hB hz1 hk1 hS => ?_)
    obtain ⟨sp9_3, wg9_4⟩ := u
    try dsimp only at hw_2 hB
    obtain ⟨hP1, hK1, hD1⟩ := hB
    rw [htC] at hP1
    have hK1 := va_K.moved hvm.symm hK1
    obtain ⟨hP, hD⟩ := va_join (wr := []) (w1 := [(zo14irriiiiiirriirrrrlriiii m0 th aS aI im (nI a) sp9_3 (nI E) wg9_4 0 aB aT se dn aG aO aN aD bv aY rn kd nu tv), (zaI aS cS 901 fS)]) hP hD [0, 1] [] rfl rfl (by decide) (by decide) hk1 hFc hP1 hD1
    have hK := (hK.sub (tys' := []) [] rfl).app hK1
    generalize H1 = H at hP hS ⊢
    have hP : va_P (dC, dI) vwCl [(zo14irriiiiiirriirrrrlriiii m0 th aS aI im (nI a) sp9_3 (nI E) wg9_4 0 aB aT se dn aG aO aN aD bv aY rn kd nu tv), (zaI aS cS 901 fS)] H := hP
    have hD : va_D A [(zo14irriiiiiirriirrrrlriiii m0 th aS aI im (nI a) sp9_3 (nI E) wg9_4 0 aB aT se dn aG aO aN aD bv aY rn kd nu tv), (zaI aS cS 901 fS)] := hD
    have hK : va_K (dC, dI) vwCl [(cS, .int)] s := hK
    rcases hw_2 with ⟨rfl, rfl⟩ | ⟨rfl, h_5, h_6, rfl⟩
    · skip
      refine lv_aload_n hx hb dX12_clauseOfS_6 rfl (lv_at hl 0 rfl) ?_
      have hPc := hP.sub (ws' := [(zo14irriiiiiirriirrrrlriiii m0 th aS aI im (nI a) (nI p0) (nI E) 1 0 aB aT se dn aG aO aN aD bv aY rn kd nu tv), (zaI aS cS 901 fS)]) [0, 1] rfl
      have hKc := hK.sub (tys' := [(cS, .int)]) [0] rfl
      refine vp_callSi (va_runV (As := []) (rest := []) ⟨hx, hb, hml, hown, hts⟩ (c_here l dC dI m0 aS aI aB aT aG aO aN aD aY th im (nI a) (nI p0) (nI E) 1 0 se dn rn kd nu tv bv cS fS a p0 E (by omega) (by omega) (by omega)) (cwV 0 hts gX12_clauseOfS_X12_here rfl rfl rfl hd_yX12_here ⟨Nat.le_of_ble_eq_true rfl, Nat.le_of_ble_eq_true rfl⟩) ⟨fun a U g mk q => by obtain ⟨q0, qP, qK⟩ := q; exact ⟨q0, qP, va_K.moved (u := U) (U := U.calling g mk a) (Vm.Alike.refl U.vm) qK⟩, va_recv hK hP (ci := 14) (q := (RX12, TX12, 23)) (q0 := 0) rfl rfl, fun U hU hW => ⟨rfl, by rw [hU]; exact hPc, va_K.moved hW.alike hKc⟩⟩ rfl rfl hl.1 rfl (lv_room (Nat.le_of_ble_eq_true rfl)) dX12_clauseOfS_7 ⟨Nat.le_of_ble_eq_true rfl, Nat.le_of_ble_eq_true rfl⟩).run (fun r_7 hw_8 => ?_)
      refine lv_bipush (v := 101) hx hb dX12_clauseOfS_10 (by decide) ?_
      refine lv_icmp_ne (tgt := 24) hx hb dX12_clauseOfS_12 (by decide) (fun c_9 => ?_) (fun c_9 => ?_)
      · skip
        refine lv_aload_n hx hb dX12_clauseOfS_24 rfl (lv_at hl 0 rfl) ?_
        refine va_ldcS hx hb hown (show vk_R RX12 125 "ight " (sK 9) s from hE.1 9 (by decide)) dX12_clauseOfS_25 ?_
        have hPc := hP.sub (ws' := [(zo14irriiiiiirriirrrrlriiii m0 th aS aI im (nI a) (nI p0) (nI E) 1 0 aB aT se dn aG aO aN aD bv aY rn kd nu tv), (zaI aS cS 901 fS)]) [0, 1] rfl
        have hDc := hD.sub (ws' := [(zo14irriiiiiirriirrrrlriiii m0 th aS aI im (nI a) (nI p0) (nI E) 1 0 aB aT se dn aG aO aN aD bv aY rn kd nu tv), (zaI aS cS 901 fS)]) [0, 1] (by decide) rfl
        have hKc := hK.sub (tys' := [(cS, .int)]) [0] rfl
        have hFc := va_free (wc := [(zo14irriiiiiirriirrrrlriiii m0 th aS aI im (nI a) (nI p0) (nI E) 1 0 aB aT se dn aG aO aN aD bv aY rn kd nu tv), (zaI aS cS 901 fS)]) hD hS hA [0, 1] rfl
        refine va_callv (va_runV (As := [.ref (sK 9)]) (rest := []) ⟨hx, hb, hml, hown, hts⟩ (c_spells l dC dI sK sV m0 aS aI aB aT aG aO aN aD aY th im (nI a) (nI p0) (nI E) 1 0 se dn rn kd nu tv bv cS fS a p0 E 9 H.size (by omega) (by omega) (by omega) (Or.inr rfl) (by first | assumption | decide)) (cwV 1 hts gX12_clauseOfS_X12_spells rfl rfl rfl hd_yX12_spells ⟨Nat.le_of_ble_eq_true rfl, Nat.le_of_ble_eq_true rfl⟩) ⟨fun a U g mk q => by obtain ⟨q0, q1, qP, qK, qD, qhE⟩ := q; exact ⟨q0, q1, qP, va_K.moved (u := U) (U := U.calling g mk a) (Vm.Alike.refl U.vm) qK, qD, qhE.same rfl rfl⟩, va_recv hK hP (ci := 14) (q := (RX12, TX12, 23)) (q0 := 0) rfl rfl, fun U hU hW => ⟨rfl, by rw [hU], by rw [hU]; exact hPc, va_K.moved hW.alike hKc, hDc.weaken (fun _ _ _ _ => trivial), hE.call hS hU hW (fun q h => hFc q h)⟩⟩ rfl rfl hl.1 rfl (lv_room (Nat.le_of_ble_eq_true rfl)) dX12_clauseOfS_27 ⟨Nat.le_of_ble_eq_true rfl, Nat.le_of_ble_eq_true rfl⟩) hS (fun q _ h => hFc q h) hFc (fun u tC H1 locs htC hvm hw_11 hB hz1 hk1 hS => ?_)
        obtain ⟨sp9_12, wg9_13⟩ := u
        try dsimp only at hw_11 hB
        obtain ⟨hP1, hK1, hD1⟩ := hB
        rw [htC] at hP1
        have hK1 := va_K.moved hvm.symm hK1
        obtain ⟨hP, hD⟩ := va_join (wr := []) (w1 := [(zo14irriiiiiirriirrrrlriiii m0 th aS aI im (nI a) sp9_12 (nI E) wg9_13 0 aB aT se dn aG aO aN aD bv aY rn kd nu tv), (zaI aS cS 901 fS)]) hP hD [0, 1] [] rfl rfl (by decide) (by decide) hk1 hFc hP1 hD1
        have hK := (hK.sub (tys' := []) [] rfl).app hK1
        generalize H1 = H at hP hS ⊢
        have hP : va_P (dC, dI) vwCl [(zo14irriiiiiirriirrrrlriiii m0 th aS aI im (nI a) sp9_12 (nI E) wg9_13 0 aB aT se dn aG aO aN aD bv aY rn kd nu tv), (zaI aS cS 901 fS)] H := hP
        have hD : va_D A [(zo14irriiiiiirriirrrrlriiii m0 th aS aI im (nI a) sp9_12 (nI E) wg9_13 0 aB aT se dn aG aO aN aD bv aY rn kd nu tv), (zaI aS cS 901 fS)] := hD
        have hK : va_K (dC, dI) vwCl [(cS, .int)] s := hK
        obtain ⟨p_14, h_15, h_16, rfl, h_17, h_18⟩ := hw_11
        rcases h_17 with rfl | rfl
        · skip
          exact absurd (h_18 rfl) (by decide)
        · skip
          refine lv_aload_n hx hb dX12_clauseOfS_30 rfl (lv_at hl 0 rfl) ?_
          have hPc := hP.sub (ws' := [(zo14irriiiiiirriirrrrlriiii m0 th aS aI im (nI a) (nI p_14) (nI E) 1 0 aB aT se dn aG aO aN aD bv aY rn kd nu tv), (zaI aS cS 901 fS)]) [0, 1] rfl
          have hDc := hD.sub (ws' := [(zo14irriiiiiirriirrrrlriiii m0 th aS aI im (nI a) (nI p_14) (nI E) 1 0 aB aT se dn aG aO aN aD bv aY rn kd nu tv), (zaI aS cS 901 fS)]) [0, 1] (by decide) rfl
          have hKc := hK.sub (tys' := [(cS, .int)]) [0] rfl
          have hFc := va_free (wc := [(zo14irriiiiiirriirrrrlriiii m0 th aS aI im (nI a) (nI p_14) (nI E) 1 0 aB aT se dn aG aO aN aD bv aY rn kd nu tv), (zaI aS cS 901 fS)]) hD hS hA [0, 1] rfl
          refine va_calli (va_runV (As := []) (rest := []) ⟨hx, hb, hml, hown, hts⟩ (c_figures l dC dI m0 aS aI aB aT aG aO aN aD aY th im (nI a) (nI p_14) (nI E) 1 0 se dn rn kd nu tv bv cS fS a p_14 E H.size (by omega) (by omega) (by omega) (Or.inr rfl)) (cwV 0 hts gX12_clauseOfS_X12_figures rfl rfl rfl hd_yX12_figures ⟨Nat.le_of_ble_eq_true rfl, Nat.le_of_ble_eq_true rfl⟩) ⟨fun a U g mk q => by obtain ⟨q0, q1, qP, qK, qD⟩ := q; exact ⟨q0, q1, qP, va_K.moved (u := U) (U := U.calling g mk a) (Vm.Alike.refl U.vm) qK, qD⟩, va_recv hK hP (ci := 14) (q := (RX12, TX12, 23)) (q0 := 0) rfl rfl, fun U hU hW => ⟨rfl, by rw [hU], by rw [hU]; exact hPc, va_K.moved hW.alike hKc, hDc.weaken (fun _ _ _ _ => trivial)⟩⟩ rfl rfl hl.1 rfl (lv_room (Nat.le_of_ble_eq_true rfl)) dX12_clauseOfS_31 ⟨Nat.le_of_ble_eq_true rfl, Nat.le_of_ble_eq_true rfl⟩) hS (fun q _ h => hFc q h) hFc (fun r_19 u tC H1 locs htC hvm hw_20 hB hz1 hk1 hS => ?_)
          obtain ⟨sp9_21, wg9_22⟩ := u
          try dsimp only at hw_20 hB
          obtain ⟨hP1, hK1, hD1⟩ := hB
          rw [htC] at hP1
          have hK1 := va_K.moved hvm.symm hK1
          obtain ⟨hP, hD⟩ := va_join (wr := []) (w1 := [(zo14irriiiiiirriirrrrlriiii m0 th aS aI im (nI a) sp9_21 (nI E) wg9_22 0 aB aT se dn aG aO aN aD bv aY rn kd nu tv), (zaI aS cS 901 fS)]) hP hD [0, 1] [] rfl rfl (by decide) (by decide) hk1 hFc hP1 hD1
          have hK := (hK.sub (tys' := []) [] rfl).app hK1
          generalize H1 = H at hP hS ⊢
          have hP : va_P (dC, dI) vwCl [(zo14irriiiiiirriirrrrlriiii m0 th aS aI im (nI a) sp9_21 (nI E) wg9_22 0 aB aT se dn aG aO aN aD bv aY rn kd nu tv), (zaI aS cS 901 fS)] H := hP
          have hD : va_D A [(zo14irriiiiiirriirrrrlriiii m0 th aS aI im (nI a) sp9_21 (nI E) wg9_22 0 aB aT se dn aG aO aN aD bv aY rn kd nu tv), (zaI aS cS 901 fS)] := hD
          have hK : va_K (dC, dI) vwCl [(cS, .int)] s := hK
          obtain ⟨p_23, v_24, h_25, h_26, rfl, rfl, h_27, h_28, h_29⟩ := hw_20
          rcases h_28 with rfl | rfl
          · skip
            exact absurd (h_29 rfl).1 (by decide)
          · skip
            refine lv_istore_n (lv' := [(1, .int (nI v_24)), (0, .ref m0)]) hx hb dX12_clauseOfS_34 rfl hl (by decide) rfl (fun ls hl => ?_)
            refine lv_aload_n hx hb dX12_clauseOfS_35 rfl (lv_at hl 1 rfl) ?_
            refine va_get (D := (dC, dI)) (ci := 14) (v := .int 1) (C := RX12) (T := TX12) (N := 23) hx hb hts kc_clauseOfS_0 hown hK hP 0 rfl rfl 7 (by decide) (hts (.fieldLink RX12 65 "MistHeapsModel" "isWrong" "Z") kc_clauseOfS_1) (fun _ h9 => h9) rfl dX12_clauseOfS_36 ?_
            refine lv_if_ne (tgt := 56) hx hb dX12_clauseOfS_39 (by decide) (fun _ => ?_) (fun c_30 => absurd c_30 (by decide))
            rw [hQ]
            have hP9 := hP.sub (ws' := [(zo14irriiiiiirriirrrrlriiii m0 th aS aI im (nI a) (nI p_23) (nI E) 1 0 aB aT se dn aG aO aN aD bv aY rn kd nu tv), (zaI aS cS 901 fS)]) [0, 1] rfl
            have hD9 := hD.sub (ws' := [(zo14irriiiiiirriirrrrlriiii m0 th aS aI im (nI a) (nI p_23) (nI E) 1 0 aB aT se dn aG aO aN aD bv aY rn kd nu tv), (zaI aS cS 901 fS)]) [0, 1] (by decide) rfl
            have hK9 := hK.sub (tys' := [(cS, .int)]) [0] rfl
            exact W.vret hx hb hr (fun tQ htQ hWQ => ⟨⟨(fS, (nI p_23), 1), rfl, ⟨p_23, k, rfl, by omega, by omega, PF.rf, Or.inl rfl⟩, by rw [htQ]; exact hP9, va_K.moved hWQ.alike hK9, hD9⟩, hS.F htQ⟩) hS.2.2 dX12_clauseOfS_56
      · skip
        refine lv_aload_n hx hb dX12_clauseOfS_15 rfl (lv_at hl 0 rfl) ?_
        refine lv_bipush (v := (-10)) hx hb dX12_clauseOfS_16 (by decide) ?_
        refine qi_as (y := nI 0 - nI 10) (by decide) ?_
        refine va_ldcS hx hb hown (show vk_R RX12 119 "ee " (sK 8) s from hE.1 8 (by decide)) dX12_clauseOfS_18 ?_
        have hPc := hP.sub (ws' := [(zo14irriiiiiirriirrrrlriiii m0 th aS aI im (nI a) (nI p0) (nI E) 1 0 aB aT se dn aG aO aN aD bv aY rn kd nu tv), (zaI aS cS 901 fS)]) [0, 1] rfl
        have hDc := hD.sub (ws' := [(zo14irriiiiiirriirrrrlriiii m0 th aS aI im (nI a) (nI p0) (nI E) 1 0 aB aT se dn aG aO aN aD bv aY rn kd nu tv), (zaI aS cS 901 fS)]) [0, 1] (by decide) rfl
        have hKc := hK.sub (tys' := [(cS, .int)]) [0] rfl
        have hFc := va_free (wc := [(zo14irriiiiiirriirrrrlriiii m0 th aS aI im (nI a) (nI p0) (nI E) 1 0 aB aT se dn aG aO aN aD bv aY rn kd nu tv), (zaI aS cS 901 fS)]) hD hS hA [0, 1] rfl
        refine va_callv (va_runV (As := [.int (nI 0 - nI 10), .ref (sK 8)]) (rest := []) ⟨hx, hb, hml, hown, hts⟩ (c_much l dC dI sK sV m0 aS aI aB aT aG aO aN aD aY th im (nI a) (nI p0) (nI E) 1 0 se dn rn kd nu tv bv cS fS a p0 E k 10 8 H.size (by omega) (by omega) (by omega) (Or.inr rfl) (fun e => absurd e (by decide)) (by decide) (by decide)) (cwV 2 hts gX12_clauseOfS_X12_much rfl rfl rfl hd_yX12_much ⟨Nat.le_of_ble_eq_true rfl, Nat.le_of_ble_eq_true rfl⟩) ⟨fun a U g mk q => by obtain ⟨q0, q1, qP, qK, qD, qhE⟩ := q; exact ⟨q0, q1, qP, va_K.moved (u := U) (U := U.calling g mk a) (Vm.Alike.refl U.vm) qK, qD, qhE.same rfl rfl⟩, va_recv hK hP (ci := 14) (q := (RX12, TX12, 23)) (q0 := 0) rfl rfl, fun U hU hW => ⟨rfl, by rw [hU], by rw [hU]; exact hPc, va_K.moved hW.alike hKc, hDc.weaken (fun _ _ _ _ => trivial), hE.call hS hU hW (fun q h => hFc q h)⟩⟩ rfl rfl hl.1 rfl (lv_room (Nat.le_of_ble_eq_true rfl)) dX12_clauseOfS_20 ⟨Nat.le_of_ble_eq_true rfl, Nat.le_of_ble_eq_true rfl⟩) hS (fun q _ h => hFc q h) hFc (fun u tC H1 locs htC hvm hw_32 hB hz1 hk1 hS => ?_)
        obtain ⟨fS9_33, sp9_34, wg9_35⟩ := u
        try dsimp only at hw_32 hB
        obtain ⟨hP1, hK1, hD1⟩ := hB
        rw [htC] at hP1
        have hK1 := va_K.moved hvm.symm hK1
        obtain ⟨hP, hD⟩ := va_join (wr := []) (w1 := [(zo14irriiiiiirriirrrrlriiii m0 th aS aI im (nI a) sp9_34 (nI E) wg9_35 0 aB aT se dn aG aO aN aD bv aY rn kd nu tv), (zaI aS cS 901 fS9_33)]) hP hD [0, 1] [] rfl rfl (by decide) (by decide) hk1 hFc hP1 hD1
        have hK := (hK.sub (tys' := []) [] rfl).app hK1
        generalize H1 = H at hP hS ⊢
        have hP : va_P (dC, dI) vwCl [(zo14irriiiiiirriirrrrlriiii m0 th aS aI im (nI a) sp9_34 (nI E) wg9_35 0 aB aT se dn aG aO aN aD bv aY rn kd nu tv), (zaI aS cS 901 fS9_33)] H := hP
        have hD : va_D A [(zo14irriiiiiirriirrrrlriiii m0 th aS aI im (nI a) sp9_34 (nI E) wg9_35 0 aB aT se dn aG aO aN aD bv aY rn kd nu tv), (zaI aS cS 901 fS9_33)] := hD
        have hK : va_K (dC, dI) vwCl [(cS, .int)] s := hK
        obtain ⟨p_36, k_37, rfl, h_38, h_39, hF_40, q9⟩ := hw_32
        rcases q9 with rfl | ⟨rfl, hI_41⟩
        · skip
          rw [hQ]
          have hP9 := hP.sub (ws' := [(zo14irriiiiiirriirrrrlriiii m0 th aS aI im (nI a) (nI p_36) (nI E) 1 0 aB aT se dn aG aO aN aD bv aY rn kd nu tv), (zaI aS cS 901 fS9_33)]) [0, 1] rfl
          have hD9 := hD.sub (ws' := [(zo14irriiiiiirriirrrrlriiii m0 th aS aI im (nI a) (nI p_36) (nI E) 1 0 aB aT se dn aG aO aN aD bv aY rn kd nu tv), (zaI aS cS 901 fS9_33)]) [0, 1] (by decide) rfl
          have hK9 := hK.sub (tys' := [(cS, .int)]) [0] rfl
          exact W.vret hx hb hr (fun tQ htQ hWQ => ⟨⟨(fS9_33, (nI p_36), 1), rfl, ⟨p_36, k, rfl, by omega, by omega, (PF.rf).tr hF_40, Or.inl rfl⟩, by rw [htQ]; exact hP9, va_K.moved hWQ.alike hK9, hD9⟩, hS.F htQ⟩) hS.2.2 dX12_clauseOfS_23
        · skip
          rw [hQ]
          have hP9 := hP.sub (ws' := [(zo14irriiiiiirriirrrrlriiii m0 th aS aI im (nI a) (nI p_36) (nI E) 0 0 aB aT se dn aG aO aN aD bv aY rn kd nu tv), (zaI aS cS 901 fS9_33)]) [0, 1] rfl
          have hD9 := hD.sub (ws' := [(zo14irriiiiiirriirrrrlriiii m0 th aS aI im (nI a) (nI p_36) (nI E) 0 0 aB aT se dn aG aO aN aD bv aY rn kd nu tv), (zaI aS cS 901 fS9_33)]) [0, 1] (by decide) rfl
          have hK9 := hK.sub (tys' := [(cS, .int)]) [0] rfl
          exact W.vret hx hb hr (fun tQ htQ hWQ => ⟨⟨(fS9_33, (nI p_36), 0), rfl, ⟨p_36, k_37, rfl, by omega, by omega, (PF.rf).tr hF_40, Or.inr ⟨rfl, (hI_41).mono (by omega) (by omega)⟩⟩, by rw [htQ]; exact hP9, va_K.moved hWQ.alike hK9, hD9⟩, hS.F htQ⟩) hS.2.2 dX12_clauseOfS_23
    · skip
      refine lv_aload_n hx hb dX12_clauseOfS_6 rfl (lv_at hl 0 rfl) ?_
      have hPc := hP.sub (ws' := [(zo14irriiiiiirriirrrrlriiii m0 th aS aI im (nI a) (nI (p0 + 1)) (nI E) 0 0 aB aT se dn aG aO aN aD bv aY rn kd nu tv), (zaI aS cS 901 fS)]) [0, 1] rfl
      have hKc := hK.sub (tys' := [(cS, .int)]) [0] rfl
      refine vp_callSi (va_runV (As := []) (rest := []) ⟨hx, hb, hml, hown, hts⟩ (c_here l dC dI m0 aS aI aB aT aG aO aN aD aY th im (nI a) (nI (p0 + 1)) (nI E) 0 0 se dn rn kd nu tv bv cS fS a (p0 + 1) E (by omega) (by omega) (by omega)) (cwV 0 hts gX12_clauseOfS_X12_here rfl rfl rfl hd_yX12_here ⟨Nat.le_of_ble_eq_true rfl, Nat.le_of_ble_eq_true rfl⟩) ⟨fun a U g mk q => by obtain ⟨q0, qP, qK⟩ := q; exact ⟨q0, qP, va_K.moved (u := U) (U := U.calling g mk a) (Vm.Alike.refl U.vm) qK⟩, va_recv hK hP (ci := 14) (q := (RX12, TX12, 23)) (q0 := 0) rfl rfl, fun U hU hW => ⟨rfl, by rw [hU]; exact hPc, va_K.moved hW.alike hKc⟩⟩ rfl rfl hl.1 rfl (lv_room (Nat.le_of_ble_eq_true rfl)) dX12_clauseOfS_7 ⟨Nat.le_of_ble_eq_true rfl, Nat.le_of_ble_eq_true rfl⟩).run (fun r_42 hw_43 => ?_)
      refine lv_bipush (v := 101) hx hb dX12_clauseOfS_10 (by decide) ?_
      refine lv_icmp_ne (tgt := 24) hx hb dX12_clauseOfS_12 (by decide) (fun c_44 => ?_) (fun c_44 => ?_)
      · skip
        refine lv_aload_n hx hb dX12_clauseOfS_24 rfl (lv_at hl 0 rfl) ?_
        refine va_ldcS hx hb hown (show vk_R RX12 125 "ight " (sK 9) s from hE.1 9 (by decide)) dX12_clauseOfS_25 ?_
        have hPc := hP.sub (ws' := [(zo14irriiiiiirriirrrrlriiii m0 th aS aI im (nI a) (nI (p0 + 1)) (nI E) 0 0 aB aT se dn aG aO aN aD bv aY rn kd nu tv), (zaI aS cS 901 fS)]) [0, 1] rfl
        have hDc := hD.sub (ws' := [(zo14irriiiiiirriirrrrlriiii m0 th aS aI im (nI a) (nI (p0 + 1)) (nI E) 0 0 aB aT se dn aG aO aN aD bv aY rn kd nu tv), (zaI aS cS 901 fS)]) [0, 1] (by decide) rfl
        have hKc := hK.sub (tys' := [(cS, .int)]) [0] rfl
        have hFc := va_free (wc := [(zo14irriiiiiirriirrrrlriiii m0 th aS aI im (nI a) (nI (p0 + 1)) (nI E) 0 0 aB aT se dn aG aO aN aD bv aY rn kd nu tv), (zaI aS cS 901 fS)]) hD hS hA [0, 1] rfl
        refine va_callv (va_runV (As := [.ref (sK 9)]) (rest := []) ⟨hx, hb, hml, hown, hts⟩ (c_spells l dC dI sK sV m0 aS aI aB aT aG aO aN aD aY th im (nI a) (nI (p0 + 1)) (nI E) 0 0 se dn rn kd nu tv bv cS fS a (p0 + 1) E 9 H.size (by omega) (by omega) (by omega) (Or.inl rfl) (by first | assumption | decide)) (cwV 1 hts gX12_clauseOfS_X12_spells rfl rfl rfl hd_yX12_spells ⟨Nat.le_of_ble_eq_true rfl, Nat.le_of_ble_eq_true rfl⟩) ⟨fun a U g mk q => by obtain ⟨q0, q1, qP, qK, qD, qhE⟩ := q; exact ⟨q0, q1, qP, va_K.moved (u := U) (U := U.calling g mk a) (Vm.Alike.refl U.vm) qK, qD, qhE.same rfl rfl⟩, va_recv hK hP (ci := 14) (q := (RX12, TX12, 23)) (q0 := 0) rfl rfl, fun U hU hW => ⟨rfl, by rw [hU], by rw [hU]; exact hPc, va_K.moved hW.alike hKc, hDc.weaken (fun _ _ _ _ => trivial), hE.call hS hU hW (fun q h => hFc q h)⟩⟩ rfl rfl hl.1 rfl (lv_room (Nat.le_of_ble_eq_true rfl)) dX12_clauseOfS_27 ⟨Nat.le_of_ble_eq_true rfl, Nat.le_of_ble_eq_true rfl⟩) hS (fun q _ h => hFc q h) hFc (fun u tC H1 locs htC hvm hw_46 hB hz1 hk1 hS => ?_)
        obtain ⟨sp9_47, wg9_48⟩ := u
        try dsimp only at hw_46 hB
        obtain ⟨hP1, hK1, hD1⟩ := hB
        rw [htC] at hP1
        have hK1 := va_K.moved hvm.symm hK1
        obtain ⟨hP, hD⟩ := va_join (wr := []) (w1 := [(zo14irriiiiiirriirrrrlriiii m0 th aS aI im (nI a) sp9_47 (nI E) wg9_48 0 aB aT se dn aG aO aN aD bv aY rn kd nu tv), (zaI aS cS 901 fS)]) hP hD [0, 1] [] rfl rfl (by decide) (by decide) hk1 hFc hP1 hD1
        have hK := (hK.sub (tys' := []) [] rfl).app hK1
        generalize H1 = H at hP hS ⊢
        have hP : va_P (dC, dI) vwCl [(zo14irriiiiiirriirrrrlriiii m0 th aS aI im (nI a) sp9_47 (nI E) wg9_48 0 aB aT se dn aG aO aN aD bv aY rn kd nu tv), (zaI aS cS 901 fS)] H := hP
        have hD : va_D A [(zo14irriiiiiirriirrrrlriiii m0 th aS aI im (nI a) sp9_47 (nI E) wg9_48 0 aB aT se dn aG aO aN aD bv aY rn kd nu tv), (zaI aS cS 901 fS)] := hD
        have hK : va_K (dC, dI) vwCl [(cS, .int)] s := hK
        obtain ⟨p_49, h_50, h_51, rfl, h_52, h_53⟩ := hw_46
        rcases h_52 with rfl | rfl
        · skip
          refine lv_aload_n hx hb dX12_clauseOfS_30 rfl (lv_at hl 0 rfl) ?_
          have hPc := hP.sub (ws' := [(zo14irriiiiiirriirrrrlriiii m0 th aS aI im (nI a) (nI p_49) (nI E) 0 0 aB aT se dn aG aO aN aD bv aY rn kd nu tv), (zaI aS cS 901 fS)]) [0, 1] rfl
          have hDc := hD.sub (ws' := [(zo14irriiiiiirriirrrrlriiii m0 th aS aI im (nI a) (nI p_49) (nI E) 0 0 aB aT se dn aG aO aN aD bv aY rn kd nu tv), (zaI aS cS 901 fS)]) [0, 1] (by decide) rfl
          have hKc := hK.sub (tys' := [(cS, .int)]) [0] rfl
          have hFc := va_free (wc := [(zo14irriiiiiirriirrrrlriiii m0 th aS aI im (nI a) (nI p_49) (nI E) 0 0 aB aT se dn aG aO aN aD bv aY rn kd nu tv), (zaI aS cS 901 fS)]) hD hS hA [0, 1] rfl
          refine va_calli (va_runV (As := []) (rest := []) ⟨hx, hb, hml, hown, hts⟩ (c_figures l dC dI m0 aS aI aB aT aG aO aN aD aY th im (nI a) (nI p_49) (nI E) 0 0 se dn rn kd nu tv bv cS fS a p_49 E H.size (by omega) (by omega) (by omega) (Or.inl rfl)) (cwV 0 hts gX12_clauseOfS_X12_figures rfl rfl rfl hd_yX12_figures ⟨Nat.le_of_ble_eq_true rfl, Nat.le_of_ble_eq_true rfl⟩) ⟨fun a U g mk q => by obtain ⟨q0, q1, qP, qK, qD⟩ := q; exact ⟨q0, q1, qP, va_K.moved (u := U) (U := U.calling g mk a) (Vm.Alike.refl U.vm) qK, qD⟩, va_recv hK hP (ci := 14) (q := (RX12, TX12, 23)) (q0 := 0) rfl rfl, fun U hU hW => ⟨rfl, by rw [hU], by rw [hU]; exact hPc, va_K.moved hW.alike hKc, hDc.weaken (fun _ _ _ _ => trivial)⟩⟩ rfl rfl hl.1 rfl (lv_room (Nat.le_of_ble_eq_true rfl)) dX12_clauseOfS_31 ⟨Nat.le_of_ble_eq_true rfl, Nat.le_of_ble_eq_true rfl⟩) hS (fun q _ h => hFc q h) hFc (fun r_54 u tC H1 locs htC hvm hw_55 hB hz1 hk1 hS => ?_)
          obtain ⟨sp9_56, wg9_57⟩ := u
          try dsimp only at hw_55 hB
          obtain ⟨hP1, hK1, hD1⟩ := hB
          rw [htC] at hP1
          have hK1 := va_K.moved hvm.symm hK1
          obtain ⟨hP, hD⟩ := va_join (wr := []) (w1 := [(zo14irriiiiiirriirrrrlriiii m0 th aS aI im (nI a) sp9_56 (nI E) wg9_57 0 aB aT se dn aG aO aN aD bv aY rn kd nu tv), (zaI aS cS 901 fS)]) hP hD [0, 1] [] rfl rfl (by decide) (by decide) hk1 hFc hP1 hD1
          have hK := (hK.sub (tys' := []) [] rfl).app hK1
          generalize H1 = H at hP hS ⊢
          have hP : va_P (dC, dI) vwCl [(zo14irriiiiiirriirrrrlriiii m0 th aS aI im (nI a) sp9_56 (nI E) wg9_57 0 aB aT se dn aG aO aN aD bv aY rn kd nu tv), (zaI aS cS 901 fS)] H := hP
          have hD : va_D A [(zo14irriiiiiirriirrrrlriiii m0 th aS aI im (nI a) sp9_56 (nI E) wg9_57 0 aB aT se dn aG aO aN aD bv aY rn kd nu tv), (zaI aS cS 901 fS)] := hD
          have hK : va_K (dC, dI) vwCl [(cS, .int)] s := hK
          obtain ⟨p_58, v_59, h_60, h_61, rfl, rfl, h_62, h_63, h_64⟩ := hw_55
          rcases h_63 with rfl | rfl
          · skip
            obtain ⟨h_64, h_64b⟩ := h_64 rfl
            refine lv_istore_n (lv' := [(1, .int (nI v_59)), (0, .ref m0)]) hx hb dX12_clauseOfS_34 rfl hl (by decide) rfl (fun ls hl => ?_)
            refine lv_aload_n hx hb dX12_clauseOfS_35 rfl (lv_at hl 1 rfl) ?_
            refine va_get (D := (dC, dI)) (ci := 14) (v := .int 0) (C := RX12) (T := TX12) (N := 23) hx hb hts kc_clauseOfS_0 hown hK hP 0 rfl rfl 7 (by decide) (hts (.fieldLink RX12 65 "MistHeapsModel" "isWrong" "Z") kc_clauseOfS_1) (fun _ h9 => h9) rfl dX12_clauseOfS_36 ?_
            refine lv_if_ne (tgt := 56) hx hb dX12_clauseOfS_39 (by decide) (fun c_65 => absurd c_65 (by decide)) (fun _ => ?_)
            refine lv_aload_n hx hb dX12_clauseOfS_42 rfl (lv_at hl 1 rfl) ?_
            refine va_get (D := (dC, dI)) (ci := 14) (v := .ref aS) (C := RX12) (T := TX12) (N := 23) hx hb hts kc_clauseOfS_0 hown hK hP 0 rfl rfl 1 (by decide) (hts (.fieldLink RX12 9 "MistHeapsModel" "s" "[I") kc_clauseOfS_2) (fun _ h9 => h9) rfl dX12_clauseOfS_43 ?_
            refine lv_sipush (v := 191) hx hb dX12_clauseOfS_46 (by decide) ?_
            refine lv_aload_n hx hb dX12_clauseOfS_49 rfl (lv_at hl 1 rfl) ?_
            refine va_get (D := (dC, dI)) (ci := 14) (v := .int (nI a)) (C := RX12) (T := TX12) (N := 23) hx hb hts kc_clauseOfS_0 hown hK hP 0 rfl rfl 4 (by decide) (hts (.fieldLink RX12 86 "MistHeapsModel" "act" "I") kc_clauseOfS_3) (fun _ h9 => h9) rfl dX12_clauseOfS_50 ?_
            refine lv_iadd hx hb dX12_clauseOfS_53 ?_
            refine qi_as (y := nI (191 + a)) (nI_add 191 a) ?_
            refine lv_iload_n hx hb dX12_clauseOfS_54 rfl (lv_at hl 0 rfl) ?_
            refine va_iast hx hb hK hP hD hS 1 0 rfl rfl (vp_in_nI (n := 191 + a) (N := 901) (by omega) (by omega)) dX12_clauseOfS_55 (fun H locs hP hD hS => ?_)
            rw [nI_clamp (n := 191 + a) (by omega)] at hP hD
            have hP : va_P (dC, dI) vwCl [(zo14irriiiiiirriirrrrlriiii m0 th aS aI im (nI a) (nI p_58) (nI E) 0 0 aB aT se dn aG aO aN aD bv aY rn kd nu tv), (zaI aS cS 901 (upd fS (191 + a) (nI v_59)))] H := hP
            have hD : va_D A [(zo14irriiiiiirriirrrrlriiii m0 th aS aI im (nI a) (nI p_58) (nI E) 0 0 aB aT se dn aG aO aN aD bv aY rn kd nu tv), (zaI aS cS 901 (upd fS (191 + a) (nI v_59)))] := hD
            have hI_66 := PI.up191 (x := nI v_59) (((gI rfl)).mono (q := p_58) (by omega) (by omega))
            have hF_67 : PF a fS (upd fS (191 + a) (nI v_59)) := (PF.rf).tr (PF_191 (x := nI v_59))
            rw [show upd fS (191 + a) (nI v_59) = upd fS (191 + a) (nI v_59) from rfl] at hP hD
            have hP : va_P (dC, dI) vwCl [(zo14irriiiiiirriirrrrlriiii m0 th aS aI im (nI a) (nI p_58) (nI E) 0 0 aB aT se dn aG aO aN aD bv aY rn kd nu tv), (zaI aS cS 901 (upd fS (191 + a) (nI v_59)))] H := hP
            have hD : va_D A [(zo14irriiiiiirriirrrrlriiii m0 th aS aI im (nI a) (nI p_58) (nI E) 0 0 aB aT se dn aG aO aN aD bv aY rn kd nu tv), (zaI aS cS 901 (upd fS (191 + a) (nI v_59)))] := hD
            rw [hQ]
            have hP9 := hP.sub (ws' := [(zo14irriiiiiirriirrrrlriiii m0 th aS aI im (nI a) (nI p_58) (nI E) 0 0 aB aT se dn aG aO aN aD bv aY rn kd nu tv), (zaI aS cS 901 (upd fS (191 + a) (nI v_59)))]) [0, 1] rfl
            have hD9 := hD.sub (ws' := [(zo14irriiiiiirriirrrrlriiii m0 th aS aI im (nI a) (nI p_58) (nI E) 0 0 aB aT se dn aG aO aN aD bv aY rn kd nu tv), (zaI aS cS 901 (upd fS (191 + a) (nI v_59)))]) [0, 1] (by decide) rfl
            have hK9 := hK.sub (tys' := [(cS, .int)]) [0] rfl
            exact W.vret hx hb hr (fun tQ htQ hWQ => ⟨⟨((upd fS (191 + a) (nI v_59)), (nI p_58), 0), rfl, ⟨p_58, k, rfl, by omega, by omega, hF_67, Or.inr ⟨rfl, (hI_66).mono (by omega) (by omega)⟩⟩, by rw [htQ]; exact hP9, va_K.moved hWQ.alike hK9, hD9⟩, hS.F htQ⟩) hS.2.2 dX12_clauseOfS_56
          · skip
            refine lv_istore_n (lv' := [(1, .int (nI v_59)), (0, .ref m0)]) hx hb dX12_clauseOfS_34 rfl hl (by decide) rfl (fun ls hl => ?_)
            refine lv_aload_n hx hb dX12_clauseOfS_35 rfl (lv_at hl 1 rfl) ?_
            refine va_get (D := (dC, dI)) (ci := 14) (v := .int 1) (C := RX12) (T := TX12) (N := 23) hx hb hts kc_clauseOfS_0 hown hK hP 0 rfl rfl 7 (by decide) (hts (.fieldLink RX12 65 "MistHeapsModel" "isWrong" "Z") kc_clauseOfS_1) (fun _ h9 => h9) rfl dX12_clauseOfS_36 ?_
            refine lv_if_ne (tgt := 56) hx hb dX12_clauseOfS_39 (by decide) (fun _ => ?_) (fun c_68 => absurd c_68 (by decide))
            rw [hQ]
            have hP9 := hP.sub (ws' := [(zo14irriiiiiirriirrrrlriiii m0 th aS aI im (nI a) (nI p_58) (nI E) 1 0 aB aT se dn aG aO aN aD bv aY rn kd nu tv), (zaI aS cS 901 fS)]) [0, 1] rfl
            have hD9 := hD.sub (ws' := [(zo14irriiiiiirriirrrrlriiii m0 th aS aI im (nI a) (nI p_58) (nI E) 1 0 aB aT se dn aG aO aN aD bv aY rn kd nu tv), (zaI aS cS 901 fS)]) [0, 1] (by decide) rfl
            have hK9 := hK.sub (tys' := [(cS, .int)]) [0] rfl
            exact W.vret hx hb hr (fun tQ htQ hWQ => ⟨⟨(fS, (nI p_58), 1), rfl, ⟨p_58, k, rfl, by omega, by omega, PF.rf, Or.inl rfl⟩, by rw [htQ]; exact hP9, va_K.moved hWQ.alike hK9, hD9⟩, hS.F htQ⟩) hS.2.2 dX12_clauseOfS_56
        · skip
          refine lv_aload_n hx hb dX12_clauseOfS_30 rfl (lv_at hl 0 rfl) ?_
          have hPc := hP.sub (ws' := [(zo14irriiiiiirriirrrrlriiii m0 th aS aI im (nI a) (nI p_49) (nI E) 1 0 aB aT se dn aG aO aN aD bv aY rn kd nu tv), (zaI aS cS 901 fS)]) [0, 1] rfl
          have hDc := hD.sub (ws' := [(zo14irriiiiiirriirrrrlriiii m0 th aS aI im (nI a) (nI p_49) (nI E) 1 0 aB aT se dn aG aO aN aD bv aY rn kd nu tv), (zaI aS cS 901 fS)]) [0, 1] (by decide) rfl
          have hKc := hK.sub (tys' := [(cS, .int)]) [0] rfl
          have hFc := va_free (wc := [(zo14irriiiiiirriirrrrlriiii m0 th aS aI im (nI a) (nI p_49) (nI E) 1 0 aB aT se dn aG aO aN aD bv aY rn kd nu tv), (zaI aS cS 901 fS)]) hD hS hA [0, 1] rfl
          refine va_calli (va_runV (As := []) (rest := []) ⟨hx, hb, hml, hown, hts⟩ (c_figures l dC dI m0 aS aI aB aT aG aO aN aD aY th im (nI a) (nI p_49) (nI E) 1 0 se dn rn kd nu tv bv cS fS a p_49 E H.size (by omega) (by omega) (by omega) (Or.inr rfl)) (cwV 0 hts gX12_clauseOfS_X12_figures rfl rfl rfl hd_yX12_figures ⟨Nat.le_of_ble_eq_true rfl, Nat.le_of_ble_eq_true rfl⟩) ⟨fun a U g mk q => by obtain ⟨q0, q1, qP, qK, qD⟩ := q; exact ⟨q0, q1, qP, va_K.moved (u := U) (U := U.calling g mk a) (Vm.Alike.refl U.vm) qK, qD⟩, va_recv hK hP (ci := 14) (q := (RX12, TX12, 23)) (q0 := 0) rfl rfl, fun U hU hW => ⟨rfl, by rw [hU], by rw [hU]; exact hPc, va_K.moved hW.alike hKc, hDc.weaken (fun _ _ _ _ => trivial)⟩⟩ rfl rfl hl.1 rfl (lv_room (Nat.le_of_ble_eq_true rfl)) dX12_clauseOfS_31 ⟨Nat.le_of_ble_eq_true rfl, Nat.le_of_ble_eq_true rfl⟩) hS (fun q _ h => hFc q h) hFc (fun r_69 u tC H1 locs htC hvm hw_70 hB hz1 hk1 hS => ?_)
          obtain ⟨sp9_71, wg9_72⟩ := u
          try dsimp only at hw_70 hB
          obtain ⟨hP1, hK1, hD1⟩ := hB
          rw [htC] at hP1
          have hK1 := va_K.moved hvm.symm hK1
          obtain ⟨hP, hD⟩ := va_join (wr := []) (w1 := [(zo14irriiiiiirriirrrrlriiii m0 th aS aI im (nI a) sp9_71 (nI E) wg9_72 0 aB aT se dn aG aO aN aD bv aY rn kd nu tv), (zaI aS cS 901 fS)]) hP hD [0, 1] [] rfl rfl (by decide) (by decide) hk1 hFc hP1 hD1
          have hK := (hK.sub (tys' := []) [] rfl).app hK1
          generalize H1 = H at hP hS ⊢
          have hP : va_P (dC, dI) vwCl [(zo14irriiiiiirriirrrrlriiii m0 th aS aI im (nI a) sp9_71 (nI E) wg9_72 0 aB aT se dn aG aO aN aD bv aY rn kd nu tv), (zaI aS cS 901 fS)] H := hP
          have hD : va_D A [(zo14irriiiiiirriirrrrlriiii m0 th aS aI im (nI a) sp9_71 (nI E) wg9_72 0 aB aT se dn aG aO aN aD bv aY rn kd nu tv), (zaI aS cS 901 fS)] := hD
          have hK : va_K (dC, dI) vwCl [(cS, .int)] s := hK
          obtain ⟨p_73, v_74, h_75, h_76, rfl, rfl, h_77, h_78, h_79⟩ := hw_70
          rcases h_78 with rfl | rfl
          · skip
            exact absurd (h_79 rfl).1 (by decide)
          · skip
            refine lv_istore_n (lv' := [(1, .int (nI v_74)), (0, .ref m0)]) hx hb dX12_clauseOfS_34 rfl hl (by decide) rfl (fun ls hl => ?_)
            refine lv_aload_n hx hb dX12_clauseOfS_35 rfl (lv_at hl 1 rfl) ?_
            refine va_get (D := (dC, dI)) (ci := 14) (v := .int 1) (C := RX12) (T := TX12) (N := 23) hx hb hts kc_clauseOfS_0 hown hK hP 0 rfl rfl 7 (by decide) (hts (.fieldLink RX12 65 "MistHeapsModel" "isWrong" "Z") kc_clauseOfS_1) (fun _ h9 => h9) rfl dX12_clauseOfS_36 ?_
            refine lv_if_ne (tgt := 56) hx hb dX12_clauseOfS_39 (by decide) (fun _ => ?_) (fun c_80 => absurd c_80 (by decide))
            rw [hQ]
            have hP9 := hP.sub (ws' := [(zo14irriiiiiirriirrrrlriiii m0 th aS aI im (nI a) (nI p_73) (nI E) 1 0 aB aT se dn aG aO aN aD bv aY rn kd nu tv), (zaI aS cS 901 fS)]) [0, 1] rfl
            have hD9 := hD.sub (ws' := [(zo14irriiiiiirriirrrrlriiii m0 th aS aI im (nI a) (nI p_73) (nI E) 1 0 aB aT se dn aG aO aN aD bv aY rn kd nu tv), (zaI aS cS 901 fS)]) [0, 1] (by decide) rfl
            have hK9 := hK.sub (tys' := [(cS, .int)]) [0] rfl
            exact W.vret hx hb hr (fun tQ htQ hWQ => ⟨⟨(fS, (nI p_73), 1), rfl, ⟨p_73, k, rfl, by omega, by omega, PF.rf, Or.inl rfl⟩, by rw [htQ]; exact hP9, va_K.moved hWQ.alike hK9, hD9⟩, hS.F htQ⟩) hS.2.2 dX12_clauseOfS_56
      · skip
        refine lv_aload_n hx hb dX12_clauseOfS_15 rfl (lv_at hl 0 rfl) ?_
        refine lv_bipush (v := (-10)) hx hb dX12_clauseOfS_16 (by decide) ?_
        refine qi_as (y := nI 0 - nI 10) (by decide) ?_
        refine va_ldcS hx hb hown (show vk_R RX12 119 "ee " (sK 8) s from hE.1 8 (by decide)) dX12_clauseOfS_18 ?_
        have hPc := hP.sub (ws' := [(zo14irriiiiiirriirrrrlriiii m0 th aS aI im (nI a) (nI (p0 + 1)) (nI E) 0 0 aB aT se dn aG aO aN aD bv aY rn kd nu tv), (zaI aS cS 901 fS)]) [0, 1] rfl
        have hDc := hD.sub (ws' := [(zo14irriiiiiirriirrrrlriiii m0 th aS aI im (nI a) (nI (p0 + 1)) (nI E) 0 0 aB aT se dn aG aO aN aD bv aY rn kd nu tv), (zaI aS cS 901 fS)]) [0, 1] (by decide) rfl
        have hKc := hK.sub (tys' := [(cS, .int)]) [0] rfl
        have hFc := va_free (wc := [(zo14irriiiiiirriirrrrlriiii m0 th aS aI im (nI a) (nI (p0 + 1)) (nI E) 0 0 aB aT se dn aG aO aN aD bv aY rn kd nu tv), (zaI aS cS 901 fS)]) hD hS hA [0, 1] rfl
        refine va_callv (va_runV (As := [.int (nI 0 - nI 10), .ref (sK 8)]) (rest := []) ⟨hx, hb, hml, hown, hts⟩ (c_much l dC dI sK sV m0 aS aI aB aT aG aO aN aD aY th im (nI a) (nI (p0 + 1)) (nI E) 0 0 se dn rn kd nu tv bv cS fS a (p0 + 1) E k 10 8 H.size (by omega) (by omega) (by omega) (Or.inl rfl) (fun _ => ((gI rfl)).mono (by omega) (by omega)) (by decide) (by decide)) (cwV 2 hts gX12_clauseOfS_X12_much rfl rfl rfl hd_yX12_much ⟨Nat.le_of_ble_eq_true rfl, Nat.le_of_ble_eq_true rfl⟩) ⟨fun a U g mk q => by obtain ⟨q0, q1, qP, qK, qD, qhE⟩ := q; exact ⟨q0, q1, qP, va_K.moved (u := U) (U := U.calling g mk a) (Vm.Alike.refl U.vm) qK, qD, qhE.same rfl rfl⟩, va_recv hK hP (ci := 14) (q := (RX12, TX12, 23)) (q0 := 0) rfl rfl, fun U hU hW => ⟨rfl, by rw [hU], by rw [hU]; exact hPc, va_K.moved hW.alike hKc, hDc.weaken (fun _ _ _ _ => trivial), hE.call hS hU hW (fun q h => hFc q h)⟩⟩ rfl rfl hl.1 rfl (lv_room (Nat.le_of_ble_eq_true rfl)) dX12_clauseOfS_20 ⟨Nat.le_of_ble_eq_true rfl, Nat.le_of_ble_eq_true rfl⟩) hS (fun q _ h => hFc q h) hFc (fun u tC H1 locs htC hvm hw_82 hB hz1 hk1 hS => ?_)
        obtain ⟨fS9_83, sp9_84, wg9_85⟩ := u
        try dsimp only at hw_82 hB
        obtain ⟨hP1, hK1, hD1⟩ := hB
        rw [htC] at hP1
        have hK1 := va_K.moved hvm.symm hK1
        obtain ⟨hP, hD⟩ := va_join (wr := []) (w1 := [(zo14irriiiiiirriirrrrlriiii m0 th aS aI im (nI a) sp9_84 (nI E) wg9_85 0 aB aT se dn aG aO aN aD bv aY rn kd nu tv), (zaI aS cS 901 fS9_83)]) hP hD [0, 1] [] rfl rfl (by decide) (by decide) hk1 hFc hP1 hD1
        have hK := (hK.sub (tys' := []) [] rfl).app hK1
        generalize H1 = H at hP hS ⊢
        have hP : va_P (dC, dI) vwCl [(zo14irriiiiiirriirrrrlriiii m0 th aS aI im (nI a) sp9_84 (nI E) wg9_85 0 aB aT se dn aG aO aN aD bv aY rn kd nu tv), (zaI aS cS 901 fS9_83)] H := hP
        have hD : va_D A [(zo14irriiiiiirriirrrrlriiii m0 th aS aI im (nI a) sp9_84 (nI E) wg9_85 0 aB aT se dn aG aO aN aD bv aY rn kd nu tv), (zaI aS cS 901 fS9_83)] := hD
        have hK : va_K (dC, dI) vwCl [(cS, .int)] s := hK
        obtain ⟨p_86, k_87, rfl, h_88, h_89, hF_90, q9⟩ := hw_82
        rcases q9 with rfl | ⟨rfl, hI_91⟩
        · skip
          rw [hQ]
          have hP9 := hP.sub (ws' := [(zo14irriiiiiirriirrrrlriiii m0 th aS aI im (nI a) (nI p_86) (nI E) 1 0 aB aT se dn aG aO aN aD bv aY rn kd nu tv), (zaI aS cS 901 fS9_83)]) [0, 1] rfl
          have hD9 := hD.sub (ws' := [(zo14irriiiiiirriirrrrlriiii m0 th aS aI im (nI a) (nI p_86) (nI E) 1 0 aB aT se dn aG aO aN aD bv aY rn kd nu tv), (zaI aS cS 901 fS9_83)]) [0, 1] (by decide) rfl
          have hK9 := hK.sub (tys' := [(cS, .int)]) [0] rfl
          exact W.vret hx hb hr (fun tQ htQ hWQ => ⟨⟨(fS9_83, (nI p_86), 1), rfl, ⟨p_86, k, rfl, by omega, by omega, (PF.rf).tr hF_90, Or.inl rfl⟩, by rw [htQ]; exact hP9, va_K.moved hWQ.alike hK9, hD9⟩, hS.F htQ⟩) hS.2.2 dX12_clauseOfS_23
        · skip
          rw [hQ]
          have hP9 := hP.sub (ws' := [(zo14irriiiiiirriirrrrlriiii m0 th aS aI im (nI a) (nI p_86) (nI E) 0 0 aB aT se dn aG aO aN aD bv aY rn kd nu tv), (zaI aS cS 901 fS9_83)]) [0, 1] rfl
          have hD9 := hD.sub (ws' := [(zo14irriiiiiirriirrrrlriiii m0 th aS aI im (nI a) (nI p_86) (nI E) 0 0 aB aT se dn aG aO aN aD bv aY rn kd nu tv), (zaI aS cS 901 fS9_83)]) [0, 1] (by decide) rfl
          have hK9 := hK.sub (tys' := [(cS, .int)]) [0] rfl
          exact W.vret hx hb hr (fun tQ htQ hWQ => ⟨⟨(fS9_83, (nI p_86), 0), rfl, ⟨p_86, k_87, rfl, by omega, by omega, (PF.rf).tr hF_90, Or.inr ⟨rfl, (hI_91).mono (by omega) (by omega)⟩⟩, by rw [htQ]; exact hP9, va_K.moved hWQ.alike hK9, hD9⟩, hS.F htQ⟩) hS.2.2 dX12_clauseOfS_23
  · skip
    refine lv_aload_n hx hb dX12_clauseOfS_0 rfl (lv_at hl 0 rfl) ?_
    refine lv_bipush (v := 115) hx hb dX12_clauseOfS_1 (by decide) ?_
    have hPc := hP.sub (ws' := [(zo14irriiiiiirriirrrrlriiii m0 th aS aI im (nI a) (nI p0) (nI E) 1 0 aB aT se dn aG aO aN aD bv aY rn kd nu tv), (zaI aS cS 901 fS)]) [0, 1] rfl
    have hDc := hD.sub (ws' := [(zo14irriiiiiirriirrrrlriiii m0 th aS aI im (nI a) (nI p0) (nI E) 1 0 aB aT se dn aG aO aN aD bv aY rn kd nu tv), (zaI aS cS 901 fS)]) [0, 1] (by decide) rfl
    have hKc := hK.sub (tys' := [(cS, .int)]) [0] rfl
    have hFc := va_free (wc := [(zo14irriiiiiirriirrrrlriiii m0 th aS aI im (nI a) (nI p0) (nI E) 1 0 aB aT se dn aG aO aN aD bv aY rn kd nu tv), (zaI aS cS 901 fS)]) hD hS hA [0, 1] rfl
    refine va_callv (va_runV (As := [.int 115]) (rest := []) ⟨hx, hb, hml, hown, hts⟩ (c_must l dC dI m0 aS aI aB aT aG aO aN aD aY th im (nI a) (nI p0) (nI E) 1 0 se dn rn kd nu tv bv cS fS a p0 E 115 H.size (by omega) (by omega) (by omega) (Or.inr rfl) (by decide)) (cwV 1 hts gX12_clauseOfS_X12_must rfl rfl rfl hd_yX12_must ⟨Nat.le_of_ble_eq_true rfl, Nat.le_of_ble_eq_true rfl⟩) ⟨fun a U g mk q => by obtain ⟨q0, q1, qP, qK, qD⟩ := q; exact ⟨q0, q1, qP, va_K.moved (u := U) (U := U.calling g mk a) (Vm.Alike.refl U.vm) qK, qD⟩, va_recv hK hP (ci := 14) (q := (RX12, TX12, 23)) (q0 := 0) rfl rfl, fun U hU hW => ⟨rfl, by rw [hU], by rw [hU]; exact hPc, va_K.moved hW.alike hKc, hDc.weaken (fun _ _ _ _ => trivial)⟩⟩ rfl rfl hl.1 rfl (lv_room (Nat.le_of_ble_eq_true rfl)) dX12_clauseOfS_3 ⟨Nat.le_of_ble_eq_true rfl, Nat.le_of_ble_eq_true rfl⟩) hS (fun q _ h => hFc q h) hFc (fun u tC H1 locs htC hvm hw_93 hB hz1 hk1 hS => ?_)
    obtain ⟨sp9_94, wg9_95⟩ := u
    try dsimp only at hw_93 hB
    obtain ⟨hP1, hK1, hD1⟩ := hB
    rw [htC] at hP1
    have hK1 := va_K.moved hvm.symm hK1
    obtain ⟨hP, hD⟩ := va_join (wr := []) (w1 := [(zo14irriiiiiirriirrrrlriiii m0 th aS aI im (nI a) sp9_94 (nI E) wg9_95 0 aB aT se dn aG aO aN aD bv aY rn kd nu tv), (zaI aS cS 901 fS)]) hP hD [0, 1] [] rfl rfl (by decide) (by decide) hk1 hFc hP1 hD1
    have hK := (hK.sub (tys' := []) [] rfl).app hK1
    generalize H1 = H at hP hS ⊢
    have hP : va_P (dC, dI) vwCl [(zo14irriiiiiirriirrrrlriiii m0 th aS aI im (nI a) sp9_94 (nI E) wg9_95 0 aB aT se dn aG aO aN aD bv aY rn kd nu tv), (zaI aS cS 901 fS)] H := hP
    have hD : va_D A [(zo14irriiiiiirriirrrrlriiii m0 th aS aI im (nI a) sp9_94 (nI E) wg9_95 0 aB aT se dn aG aO aN aD bv aY rn kd nu tv), (zaI aS cS 901 fS)] := hD
    have hK : va_K (dC, dI) vwCl [(cS, .int)] s := hK
    obtain ⟨rfl, rfl⟩ : _ ∧ _ := by rcases hw_93 with q | ⟨_, q, _⟩; exact q; exact absurd q (by decide)
    refine lv_aload_n hx hb dX12_clauseOfS_6 rfl (lv_at hl 0 rfl) ?_
    have hPc := hP.sub (ws' := [(zo14irriiiiiirriirrrrlriiii m0 th aS aI im (nI a) (nI p0) (nI E) 1 0 aB aT se dn aG aO aN aD bv aY rn kd nu tv), (zaI aS cS 901 fS)]) [0, 1] rfl
    have hKc := hK.sub (tys' := [(cS, .int)]) [0] rfl
    refine vp_callSi (va_runV (As := []) (rest := []) ⟨hx, hb, hml, hown, hts⟩ (c_here l dC dI m0 aS aI aB aT aG aO aN aD aY th im (nI a) (nI p0) (nI E) 1 0 se dn rn kd nu tv bv cS fS a p0 E (by omega) (by omega) (by omega)) (cwV 0 hts gX12_clauseOfS_X12_here rfl rfl rfl hd_yX12_here ⟨Nat.le_of_ble_eq_true rfl, Nat.le_of_ble_eq_true rfl⟩) ⟨fun a U g mk q => by obtain ⟨q0, qP, qK⟩ := q; exact ⟨q0, qP, va_K.moved (u := U) (U := U.calling g mk a) (Vm.Alike.refl U.vm) qK⟩, va_recv hK hP (ci := 14) (q := (RX12, TX12, 23)) (q0 := 0) rfl rfl, fun U hU hW => ⟨rfl, by rw [hU]; exact hPc, va_K.moved hW.alike hKc⟩⟩ rfl rfl hl.1 rfl (lv_room (Nat.le_of_ble_eq_true rfl)) dX12_clauseOfS_7 ⟨Nat.le_of_ble_eq_true rfl, Nat.le_of_ble_eq_true rfl⟩).run (fun r_96 hw_97 => ?_)
    refine lv_bipush (v := 101) hx hb dX12_clauseOfS_10 (by decide) ?_
    refine lv_icmp_ne (tgt := 24) hx hb dX12_clauseOfS_12 (by decide) (fun c_98 => ?_) (fun c_98 => ?_)
    · skip
      refine lv_aload_n hx hb dX12_clauseOfS_24 rfl (lv_at hl 0 rfl) ?_
      refine va_ldcS hx hb hown (show vk_R RX12 125 "ight " (sK 9) s from hE.1 9 (by decide)) dX12_clauseOfS_25 ?_
      have hPc := hP.sub (ws' := [(zo14irriiiiiirriirrrrlriiii m0 th aS aI im (nI a) (nI p0) (nI E) 1 0 aB aT se dn aG aO aN aD bv aY rn kd nu tv), (zaI aS cS 901 fS)]) [0, 1] rfl
      have hDc := hD.sub (ws' := [(zo14irriiiiiirriirrrrlriiii m0 th aS aI im (nI a) (nI p0) (nI E) 1 0 aB aT se dn aG aO aN aD bv aY rn kd nu tv), (zaI aS cS 901 fS)]) [0, 1] (by decide) rfl
      have hKc := hK.sub (tys' := [(cS, .int)]) [0] rfl
      have hFc := va_free (wc := [(zo14irriiiiiirriirrrrlriiii m0 th aS aI im (nI a) (nI p0) (nI E) 1 0 aB aT se dn aG aO aN aD bv aY rn kd nu tv), (zaI aS cS 901 fS)]) hD hS hA [0, 1] rfl
      refine va_callv (va_runV (As := [.ref (sK 9)]) (rest := []) ⟨hx, hb, hml, hown, hts⟩ (c_spells l dC dI sK sV m0 aS aI aB aT aG aO aN aD aY th im (nI a) (nI p0) (nI E) 1 0 se dn rn kd nu tv bv cS fS a p0 E 9 H.size (by omega) (by omega) (by omega) (Or.inr rfl) (by first | assumption | decide)) (cwV 1 hts gX12_clauseOfS_X12_spells rfl rfl rfl hd_yX12_spells ⟨Nat.le_of_ble_eq_true rfl, Nat.le_of_ble_eq_true rfl⟩) ⟨fun a U g mk q => by obtain ⟨q0, q1, qP, qK, qD, qhE⟩ := q; exact ⟨q0, q1, qP, va_K.moved (u := U) (U := U.calling g mk a) (Vm.Alike.refl U.vm) qK, qD, qhE.same rfl rfl⟩, va_recv hK hP (ci := 14) (q := (RX12, TX12, 23)) (q0 := 0) rfl rfl, fun U hU hW => ⟨rfl, by rw [hU], by rw [hU]; exact hPc, va_K.moved hW.alike hKc, hDc.weaken (fun _ _ _ _ => trivial), hE.call hS hU hW (fun q h => hFc q h)⟩⟩ rfl rfl hl.1 rfl (lv_room (Nat.le_of_ble_eq_true rfl)) dX12_clauseOfS_27 ⟨Nat.le_of_ble_eq_true rfl, Nat.le_of_ble_eq_true rfl⟩) hS (fun q _ h => hFc q h) hFc (fun u tC H1 locs htC hvm hw_100 hB hz1 hk1 hS => ?_)
      obtain ⟨sp9_101, wg9_102⟩ := u
      try dsimp only at hw_100 hB
      obtain ⟨hP1, hK1, hD1⟩ := hB
      rw [htC] at hP1
      have hK1 := va_K.moved hvm.symm hK1
      obtain ⟨hP, hD⟩ := va_join (wr := []) (w1 := [(zo14irriiiiiirriirrrrlriiii m0 th aS aI im (nI a) sp9_101 (nI E) wg9_102 0 aB aT se dn aG aO aN aD bv aY rn kd nu tv), (zaI aS cS 901 fS)]) hP hD [0, 1] [] rfl rfl (by decide) (by decide) hk1 hFc hP1 hD1
      have hK := (hK.sub (tys' := []) [] rfl).app hK1
      generalize H1 = H at hP hS ⊢
      have hP : va_P (dC, dI) vwCl [(zo14irriiiiiirriirrrrlriiii m0 th aS aI im (nI a) sp9_101 (nI E) wg9_102 0 aB aT se dn aG aO aN aD bv aY rn kd nu tv), (zaI aS cS 901 fS)] H := hP
      have hD : va_D A [(zo14irriiiiiirriirrrrlriiii m0 th aS aI im (nI a) sp9_101 (nI E) wg9_102 0 aB aT se dn aG aO aN aD bv aY rn kd nu tv), (zaI aS cS 901 fS)] := hD
      have hK : va_K (dC, dI) vwCl [(cS, .int)] s := hK
      obtain ⟨p_103, h_104, h_105, rfl, h_106, h_107⟩ := hw_100
      rcases h_106 with rfl | rfl
      · skip
        exact absurd (h_107 rfl) (by decide)
      · skip
        refine lv_aload_n hx hb dX12_clauseOfS_30 rfl (lv_at hl 0 rfl) ?_
        have hPc := hP.sub (ws' := [(zo14irriiiiiirriirrrrlriiii m0 th aS aI im (nI a) (nI p_103) (nI E) 1 0 aB aT se dn aG aO aN aD bv aY rn kd nu tv), (zaI aS cS 901 fS)]) [0, 1] rfl
        have hDc := hD.sub (ws' := [(zo14irriiiiiirriirrrrlriiii m0 th aS aI im (nI a) (nI p_103) (nI E) 1 0 aB aT se dn aG aO aN aD bv aY rn kd nu tv), (zaI aS cS 901 fS)]) [0, 1] (by decide) rfl
        have hKc := hK.sub (tys' := [(cS, .int)]) [0] rfl
        have hFc := va_free (wc := [(zo14irriiiiiirriirrrrlriiii m0 th aS aI im (nI a) (nI p_103) (nI E) 1 0 aB aT se dn aG aO aN aD bv aY rn kd nu tv), (zaI aS cS 901 fS)]) hD hS hA [0, 1] rfl
        refine va_calli (va_runV (As := []) (rest := []) ⟨hx, hb, hml, hown, hts⟩ (c_figures l dC dI m0 aS aI aB aT aG aO aN aD aY th im (nI a) (nI p_103) (nI E) 1 0 se dn rn kd nu tv bv cS fS a p_103 E H.size (by omega) (by omega) (by omega) (Or.inr rfl)) (cwV 0 hts gX12_clauseOfS_X12_figures rfl rfl rfl hd_yX12_figures ⟨Nat.le_of_ble_eq_true rfl, Nat.le_of_ble_eq_true rfl⟩) ⟨fun a U g mk q => by obtain ⟨q0, q1, qP, qK, qD⟩ := q; exact ⟨q0, q1, qP, va_K.moved (u := U) (U := U.calling g mk a) (Vm.Alike.refl U.vm) qK, qD⟩, va_recv hK hP (ci := 14) (q := (RX12, TX12, 23)) (q0 := 0) rfl rfl, fun U hU hW => ⟨rfl, by rw [hU], by rw [hU]; exact hPc, va_K.moved hW.alike hKc, hDc.weaken (fun _ _ _ _ => trivial)⟩⟩ rfl rfl hl.1 rfl (lv_room (Nat.le_of_ble_eq_true rfl)) dX12_clauseOfS_31 ⟨Nat.le_of_ble_eq_true rfl, Nat.le_of_ble_eq_true rfl⟩) hS (fun q _ h => hFc q h) hFc (fun r_108 u tC H1 locs htC hvm hw_109 hB hz1 hk1 hS => ?_)
        obtain ⟨sp9_110, wg9_111⟩ := u
        try dsimp only at hw_109 hB
        obtain ⟨hP1, hK1, hD1⟩ := hB
        rw [htC] at hP1
        have hK1 := va_K.moved hvm.symm hK1
        obtain ⟨hP, hD⟩ := va_join (wr := []) (w1 := [(zo14irriiiiiirriirrrrlriiii m0 th aS aI im (nI a) sp9_110 (nI E) wg9_111 0 aB aT se dn aG aO aN aD bv aY rn kd nu tv), (zaI aS cS 901 fS)]) hP hD [0, 1] [] rfl rfl (by decide) (by decide) hk1 hFc hP1 hD1
        have hK := (hK.sub (tys' := []) [] rfl).app hK1
        generalize H1 = H at hP hS ⊢
        have hP : va_P (dC, dI) vwCl [(zo14irriiiiiirriirrrrlriiii m0 th aS aI im (nI a) sp9_110 (nI E) wg9_111 0 aB aT se dn aG aO aN aD bv aY rn kd nu tv), (zaI aS cS 901 fS)] H := hP
        have hD : va_D A [(zo14irriiiiiirriirrrrlriiii m0 th aS aI im (nI a) sp9_110 (nI E) wg9_111 0 aB aT se dn aG aO aN aD bv aY rn kd nu tv), (zaI aS cS 901 fS)] := hD
        have hK : va_K (dC, dI) vwCl [(cS, .int)] s := hK
        obtain ⟨p_112, v_113, h_114, h_115, rfl, rfl, h_116, h_117, h_118⟩ := hw_109
        rcases h_117 with rfl | rfl
        · skip
          exact absurd (h_118 rfl).1 (by decide)
        · skip
          refine lv_istore_n (lv' := [(1, .int (nI v_113)), (0, .ref m0)]) hx hb dX12_clauseOfS_34 rfl hl (by decide) rfl (fun ls hl => ?_)
          refine lv_aload_n hx hb dX12_clauseOfS_35 rfl (lv_at hl 1 rfl) ?_
          refine va_get (D := (dC, dI)) (ci := 14) (v := .int 1) (C := RX12) (T := TX12) (N := 23) hx hb hts kc_clauseOfS_0 hown hK hP 0 rfl rfl 7 (by decide) (hts (.fieldLink RX12 65 "MistHeapsModel" "isWrong" "Z") kc_clauseOfS_1) (fun _ h9 => h9) rfl dX12_clauseOfS_36 ?_
          refine lv_if_ne (tgt := 56) hx hb dX12_clauseOfS_39 (by decide) (fun _ => ?_) (fun c_119 => absurd c_119 (by decide))
          rw [hQ]
          have hP9 := hP.sub (ws' := [(zo14irriiiiiirriirrrrlriiii m0 th aS aI im (nI a) (nI p_112) (nI E) 1 0 aB aT se dn aG aO aN aD bv aY rn kd nu tv), (zaI aS cS 901 fS)]) [0, 1] rfl
          have hD9 := hD.sub (ws' := [(zo14irriiiiiirriirrrrlriiii m0 th aS aI im (nI a) (nI p_112) (nI E) 1 0 aB aT se dn aG aO aN aD bv aY rn kd nu tv), (zaI aS cS 901 fS)]) [0, 1] (by decide) rfl
          have hK9 := hK.sub (tys' := [(cS, .int)]) [0] rfl
          exact W.vret hx hb hr (fun tQ htQ hWQ => ⟨⟨(fS, (nI p_112), 1), rfl, ⟨p_112, k, rfl, by omega, by omega, PF.rf, Or.inl rfl⟩, by rw [htQ]; exact hP9, va_K.moved hWQ.alike hK9, hD9⟩, hS.F htQ⟩) hS.2.2 dX12_clauseOfS_56
    · skip
      refine lv_aload_n hx hb dX12_clauseOfS_15 rfl (lv_at hl 0 rfl) ?_
      refine lv_bipush (v := (-10)) hx hb dX12_clauseOfS_16 (by decide) ?_
      refine qi_as (y := nI 0 - nI 10) (by decide) ?_
      refine va_ldcS hx hb hown (show vk_R RX12 119 "ee " (sK 8) s from hE.1 8 (by decide)) dX12_clauseOfS_18 ?_
      have hPc := hP.sub (ws' := [(zo14irriiiiiirriirrrrlriiii m0 th aS aI im (nI a) (nI p0) (nI E) 1 0 aB aT se dn aG aO aN aD bv aY rn kd nu tv), (zaI aS cS 901 fS)]) [0, 1] rfl
      have hDc := hD.sub (ws' := [(zo14irriiiiiirriirrrrlriiii m0 th aS aI im (nI a) (nI p0) (nI E) 1 0 aB aT se dn aG aO aN aD bv aY rn kd nu tv), (zaI aS cS 901 fS)]) [0, 1] (by decide) rfl
      have hKc := hK.sub (tys' := [(cS, .int)]) [0] rfl
      have hFc := va_free (wc := [(zo14irriiiiiirriirrrrlriiii m0 th aS aI im (nI a) (nI p0) (nI E) 1 0 aB aT se dn aG aO aN aD bv aY rn kd nu tv), (zaI aS cS 901 fS)]) hD hS hA [0, 1] rfl
      refine va_callv (va_runV (As := [.int (nI 0 - nI 10), .ref (sK 8)]) (rest := []) ⟨hx, hb, hml, hown, hts⟩ (c_much l dC dI sK sV m0 aS aI aB aT aG aO aN aD aY th im (nI a) (nI p0) (nI E) 1 0 se dn rn kd nu tv bv cS fS a p0 E k 10 8 H.size (by omega) (by omega) (by omega) (Or.inr rfl) (fun e => absurd e (by decide)) (by decide) (by decide)) (cwV 2 hts gX12_clauseOfS_X12_much rfl rfl rfl hd_yX12_much ⟨Nat.le_of_ble_eq_true rfl, Nat.le_of_ble_eq_true rfl⟩) ⟨fun a U g mk q => by obtain ⟨q0, q1, qP, qK, qD, qhE⟩ := q; exact ⟨q0, q1, qP, va_K.moved (u := U) (U := U.calling g mk a) (Vm.Alike.refl U.vm) qK, qD, qhE.same rfl rfl⟩, va_recv hK hP (ci := 14) (q := (RX12, TX12, 23)) (q0 := 0) rfl rfl, fun U hU hW => ⟨rfl, by rw [hU], by rw [hU]; exact hPc, va_K.moved hW.alike hKc, hDc.weaken (fun _ _ _ _ => trivial), hE.call hS hU hW (fun q h => hFc q h)⟩⟩ rfl rfl hl.1 rfl (lv_room (Nat.le_of_ble_eq_true rfl)) dX12_clauseOfS_20 ⟨Nat.le_of_ble_eq_true rfl, Nat.le_of_ble_eq_true rfl⟩) hS (fun q _ h => hFc q h) hFc (fun u tC H1 locs htC hvm hw_121 hB hz1 hk1 hS => ?_)
      obtain ⟨fS9_122, sp9_123, wg9_124⟩ := u
      try dsimp only at hw_121 hB
      obtain ⟨hP1, hK1, hD1⟩ := hB
      rw [htC] at hP1
      have hK1 := va_K.moved hvm.symm hK1
      obtain ⟨hP, hD⟩ := va_join (wr := []) (w1 := [(zo14irriiiiiirriirrrrlriiii m0 th aS aI im (nI a) sp9_123 (nI E) wg9_124 0 aB aT se dn aG aO aN aD bv aY rn kd nu tv), (zaI aS cS 901 fS9_122)]) hP hD [0, 1] [] rfl rfl (by decide) (by decide) hk1 hFc hP1 hD1
      have hK := (hK.sub (tys' := []) [] rfl).app hK1
      generalize H1 = H at hP hS ⊢
      have hP : va_P (dC, dI) vwCl [(zo14irriiiiiirriirrrrlriiii m0 th aS aI im (nI a) sp9_123 (nI E) wg9_124 0 aB aT se dn aG aO aN aD bv aY rn kd nu tv), (zaI aS cS 901 fS9_122)] H := hP
      have hD : va_D A [(zo14irriiiiiirriirrrrlriiii m0 th aS aI im (nI a) sp9_123 (nI E) wg9_124 0 aB aT se dn aG aO aN aD bv aY rn kd nu tv), (zaI aS cS 901 fS9_122)] := hD
      have hK : va_K (dC, dI) vwCl [(cS, .int)] s := hK
      obtain ⟨p_125, k_126, rfl, h_127, h_128, hF_129, q9⟩ := hw_121
      rcases q9 with rfl | ⟨rfl, hI_130⟩
      · skip
        rw [hQ]
        have hP9 := hP.sub (ws' := [(zo14irriiiiiirriirrrrlriiii m0 th aS aI im (nI a) (nI p_125) (nI E) 1 0 aB aT se dn aG aO aN aD bv aY rn kd nu tv), (zaI aS cS 901 fS9_122)]) [0, 1] rfl
        have hD9 := hD.sub (ws' := [(zo14irriiiiiirriirrrrlriiii m0 th aS aI im (nI a) (nI p_125) (nI E) 1 0 aB aT se dn aG aO aN aD bv aY rn kd nu tv), (zaI aS cS 901 fS9_122)]) [0, 1] (by decide) rfl
        have hK9 := hK.sub (tys' := [(cS, .int)]) [0] rfl
        exact W.vret hx hb hr (fun tQ htQ hWQ => ⟨⟨(fS9_122, (nI p_125), 1), rfl, ⟨p_125, k, rfl, by omega, by omega, (PF.rf).tr hF_129, Or.inl rfl⟩, by rw [htQ]; exact hP9, va_K.moved hWQ.alike hK9, hD9⟩, hS.F htQ⟩) hS.2.2 dX12_clauseOfS_23
      · skip
        rw [hQ]
        have hP9 := hP.sub (ws' := [(zo14irriiiiiirriirrrrlriiii m0 th aS aI im (nI a) (nI p_125) (nI E) 0 0 aB aT se dn aG aO aN aD bv aY rn kd nu tv), (zaI aS cS 901 fS9_122)]) [0, 1] rfl
        have hD9 := hD.sub (ws' := [(zo14irriiiiiirriirrrrlriiii m0 th aS aI im (nI a) (nI p_125) (nI E) 0 0 aB aT se dn aG aO aN aD bv aY rn kd nu tv), (zaI aS cS 901 fS9_122)]) [0, 1] (by decide) rfl
        have hK9 := hK.sub (tys' := [(cS, .int)]) [0] rfl
        exact W.vret hx hb hr (fun tQ htQ hWQ => ⟨⟨(fS9_122, (nI p_125), 0), rfl, ⟨p_125, k_126, rfl, by omega, by omega, (PF.rf).tr hF_129, Or.inr ⟨rfl, (hI_130).mono (by omega) (by omega)⟩⟩, by rw [htQ]; exact hP9, va_K.moved hWQ.alike hK9, hD9⟩, hS.F htQ⟩) hS.2.2 dX12_clauseOfS_23

theorem kc_clauseHere_0 : ∀ w ∈ wsX120, w ∈ wsX12_clauseHere := fun w h => List.mem_cons_of_mem _ (gin_wsX120 w h)
theorem kc_clauseHere_1 : (.fieldLink RX12 65 "MistHeapsModel" "isWrong" "Z" : Cond) ∈ wsX12_clauseHere := kc_of 1147 rfl rfl rfl
set_option maxHeartbeats 4000000 in
set_option maxRecDepth 100000 in
theorem c_clauseHere (l : Launch) (dC : Nat → ClassId) (dI : Nat → Nat → Nat) (sK sV : Nat → Nat) (m0 aS aI aB aT aG aO aN aD aY : Nat) (th im ac sp en wg op se dn rn kd nu tv : Int32) (bv : Int64) (cS : ClassId) (fS : Nat → Int32) (a p0 E k : Nat) (sz : Nat) (ga : a < 5) (gE : E ≤ 100) (gp : p0 ≤ E) (gI : PI fS a k 0 p0 E) : Met l yX12_clauseHere wsX12_clauseHere ({ frames := 25, cells := 0, slots := 0, locals := 535 } : Room) (va_Pc [.ref m0] (fun U => U.heap.size = sz ∧ va_P (dC, dI) vwCl [(zo14irriiiiiirriirrrrlriiii m0 th aS aI im (nI a) (nI p0) (nI E) 0 0 aB aT se dn aG aO aN aD bv aY rn kd nu tv), (zaI aS cS 901 fS)] U.heap ∧ va_K (dC, dI) vwCl [(cS, .int)] U ∧ va_D (fun _ => True) [(zo14irriiiiiirriirrrrlriiii m0 th aS aI im (nI a) (nI p0) (nI E) 0 0 aB aT se dn aG aO aN aD bv aY rn kd nu tv), (zaI aS cS 901 fS)] ∧ Gs sK sV (va_A [(zo14irriiiiiirriirrrrlriiii m0 th aS aI im (nI a) (nI p0) (nI E) 0 0 aB aT se dn aG aO aN aD bv aY rn kd nu tv), (zaI aS cS 901 fS)] sz) U)) (va_Qv (fun (u : (Nat → Int32) × (Int32) × (Int32)) => match u with | (fS9, sp9, wg9) => ∃ p9 k9 : Nat, sp9 = nI p9 ∧ p0 ≤ p9 ∧ p9 ≤ E ∧ PF a fS fS9 ∧ (wg9 = 1 ∨ (wg9 = 0 ∧ PI fS9 a k9 0 p9 E))) (fun (u : (Nat → Int32) × (Int32) × (Int32)) (t : State) => match u with | (fS9, sp9, wg9) => va_P (dC, dI) vwCl [(zo14irriiiiiirriirrrrlriiii m0 th aS aI im (nI a) sp9 (nI E) wg9 0 aB aT se dn aG aO aN aD bv aY rn kd nu tv), (zaI aS cS 901 fS9)] t.heap ∧ va_K (dC, dI) vwCl [(cS, .int)] t ∧ va_D (va_A [(zo14irriiiiiirriirrrrlriiii m0 th aS aI im (nI a) (nI p0) (nI E) 0 0 aB aT se dn aG aO aN aD bv aY rn kd nu tv), (zaI aS cS 901 fS)] sz) [(zo14irriiiiiirriirrrrlriiii m0 th aS aI im (nI a) sp9 (nI E) wg9 0 aB aT se dn aG aO aN aD bv aY rn kd nu tv), (zaI aS cS 901 fS9)]) (va_A [(zo14irriiiiiirriirrrrlriiii m0 th aS aI im (nI a) (nI p0) (nI E) 0 0 aB aT se dn aG aO aN aD bv aY rn kd nu tv), (zaI aS cS 901 fS)] sz)) 0 0 (va_A [(zo14irriiiiiirriirrrrlriiii m0 th aS aI im (nI a) (nI p0) (nI E) 0 0 aB aT se dn aG aO aN aD bv aY rn kd nu tv), (zaI aS cS 901 fS)] sz) := by
  refine met_ofQ (cc := cX12_clauseHere) (maxL := 1) (ret := none) (by decide) rfl ?_
  intro p e s m args below meth c s₁ Q B hml hv hQ
  obtain ⟨rfl, hsz, hP, hK, hD0, hE⟩ := hv
  have hx := B.exec
  have hb := B.bytes
  have hr := B.returns
  have hts := atoms_spec (ws := wsX12_clauseHere) B.pre
  have hown : s.vm.findClass RX12 = some m.cls := findClass_of_methodNamed B.named
  have hlocks := B.notSynchronized
  subst hsz
  have hD := hD0.self (sz := s.heap.size)
  generalize hAe : va_A [(zo14irriiiiiirriirrrrlriiii m0 th aS aI im (nI a) (nI p0) (nI E) 0 0 aB aT se dn aG aO aN aD bv aY rn kd nu tv), (zaI aS cS 901 fS)] s.heap.size = A at hD hQ hE ⊢
  have hA : ∀ q : Nat, s.heap.size ≤ q → A q := fun q h => by rw [← hAe]; exact Or.inr h
  have hS : va_S A s.heap s.heap [] := va_S.rf
  have hl := lv_entry [.ref m0] (n := 1) (Nat.le_of_ble_eq_true rfl)
  rw [lg_entry_eq]
  generalize (lg_sl [.ref m0] ++ List.replicate (1 - (lg_sl [.ref m0]).length) Slot.unset).toArray = ls at hl ⊢
  generalize hag : ([.ref m0] : List Value).toArray = args at hts hQ ⊢
  have hl : lv_has ls 1 [(0, .ref m0)] := hl
  obtain ⟨H, hH⟩ : ∃ H : Heap, H = s.heap := ⟨_, rfl⟩
  rw [← hH] at hP
  rw [← hH]
  have hS : va_S A s.heap H [] := by rw [hH]; exact hS
  obtain ⟨locs, hlo⟩ : ∃ L : List Loc, L = [] := ⟨_, rfl⟩
  rw [← hlo] at hS
  rw [← hlo]
  clear hH hlo
  have k5 := gI.2.2.2.2.1
  refine lv_aload_n hx hb dX12_clauseHere_0 rfl (lv_at hl 0 rfl) ?_
  have hPc := hP.sub (ws' := [(zo14irriiiiiirriirrrrlriiii m0 th aS aI im (nI a) (nI p0) (nI E) 0 0 aB aT se dn aG aO aN aD bv aY rn kd nu tv), (zaI aS cS 901 fS)]) [0, 1] rfl
  have hKc := hK.sub (tys' := [(cS, .int)]) [0] rfl
  refine vp_callSi (va_runV (As := []) (rest := []) ⟨hx, hb, hml, hown, hts⟩ (c_here l dC dI m0 aS aI aB aT aG aO aN aD aY th im (nI a) (nI p0) (nI E) 0 0 se dn rn kd nu tv bv cS fS a p0 E (by omega) (by omega) (by omega)) (cwV 0 hts gX12_clauseHere_X12_here rfl rfl rfl hd_yX12_here ⟨Nat.le_of_ble_eq_true rfl, Nat.le_of_ble_eq_true rfl⟩) ⟨fun a U g mk q => by obtain ⟨q0, qP, qK⟩ := q; exact ⟨q0, qP, va_K.moved (u := U) (U := U.calling g mk a) (Vm.Alike.refl U.vm) qK⟩, va_recv hK hP (ci := 14) (q := (RX12, TX12, 23)) (q0 := 0) rfl rfl, fun U hU hW => ⟨rfl, by rw [hU]; exact hPc, va_K.moved hW.alike hKc⟩⟩ rfl rfl hl.1 rfl (lv_room (Nat.le_of_ble_eq_true rfl)) dX12_clauseHere_1 ⟨Nat.le_of_ble_eq_true rfl, Nat.le_of_ble_eq_true rfl⟩).run (fun r_1 hw_2 => ?_)
  by_cases c_3_100 : r_1 = 100
  · skip
    refine lv_lookup (tgt := 59) hx hb dX12_clauseHere_4 (by decide) (by rw [c_3_100]; first | done | rfl) (by decide) ?_
    refine lv_aload_n hx hb dX12_clauseHere_59 rfl (lv_at hl 0 rfl) ?_
    refine lv_sipush (v := (-400)) hx hb dX12_clauseHere_60 (by decide) ?_
    refine qi_as (y := nI 0 - nI 400) (by decide) ?_
    refine va_ldcS hx hb hown (show vk_R RX12 132 "drift " (sK 11) s from hE.1 11 (by decide)) dX12_clauseHere_63 ?_
    have hPc := hP.sub (ws' := [(zo14irriiiiiirriirrrrlriiii m0 th aS aI im (nI a) (nI p0) (nI E) 0 0 aB aT se dn aG aO aN aD bv aY rn kd nu tv), (zaI aS cS 901 fS)]) [0, 1] rfl
    have hDc := hD.sub (ws' := [(zo14irriiiiiirriirrrrlriiii m0 th aS aI im (nI a) (nI p0) (nI E) 0 0 aB aT se dn aG aO aN aD bv aY rn kd nu tv), (zaI aS cS 901 fS)]) [0, 1] (by decide) rfl
    have hKc := hK.sub (tys' := [(cS, .int)]) [0] rfl
    have hFc := va_free (wc := [(zo14irriiiiiirriirrrrlriiii m0 th aS aI im (nI a) (nI p0) (nI E) 0 0 aB aT se dn aG aO aN aD bv aY rn kd nu tv), (zaI aS cS 901 fS)]) hD hS hA [0, 1] rfl
    refine va_callv (va_runV (As := [.int (nI 0 - nI 400), .ref (sK 11)]) (rest := []) ⟨hx, hb, hml, hown, hts⟩ (c_much l dC dI sK sV m0 aS aI aB aT aG aO aN aD aY th im (nI a) (nI p0) (nI E) 0 0 se dn rn kd nu tv bv cS fS a p0 E k 400 11 H.size (by omega) (by omega) (by omega) (Or.inl rfl) (fun _ => (gI).mono (by omega) (by omega)) (by decide) (by decide)) (cwV 2 hts gX12_clauseHere_X12_much rfl rfl rfl hd_yX12_much ⟨Nat.le_of_ble_eq_true rfl, Nat.le_of_ble_eq_true rfl⟩) ⟨fun a U g mk q => by obtain ⟨q0, q1, qP, qK, qD, qhE⟩ := q; exact ⟨q0, q1, qP, va_K.moved (u := U) (U := U.calling g mk a) (Vm.Alike.refl U.vm) qK, qD, qhE.same rfl rfl⟩, va_recv hK hP (ci := 14) (q := (RX12, TX12, 23)) (q0 := 0) rfl rfl, fun U hU hW => ⟨rfl, by rw [hU], by rw [hU]; exact hPc, va_K.moved hW.alike hKc, hDc.weaken (fun _ _ _ _ => trivial), hE.call hS hU hW (fun q h => hFc q h)⟩⟩ rfl rfl hl.1 rfl (lv_room (Nat.le_of_ble_eq_true rfl)) dX12_clauseHere_65 ⟨Nat.le_of_ble_eq_true rfl, Nat.le_of_ble_eq_true rfl⟩) hS (fun q _ h => hFc q h) hFc (fun u tC H1 locs htC hvm hw_5 hB hz1 hk1 hS => ?_)
    obtain ⟨fS9_6, sp9_7, wg9_8⟩ := u
    try dsimp only at hw_5 hB
    obtain ⟨hP1, hK1, hD1⟩ := hB
    rw [htC] at hP1
    have hK1 := va_K.moved hvm.symm hK1
    obtain ⟨hP, hD⟩ := va_join (wr := []) (w1 := [(zo14irriiiiiirriirrrrlriiii m0 th aS aI im (nI a) sp9_7 (nI E) wg9_8 0 aB aT se dn aG aO aN aD bv aY rn kd nu tv), (zaI aS cS 901 fS9_6)]) hP hD [0, 1] [] rfl rfl (by decide) (by decide) hk1 hFc hP1 hD1
    have hK := (hK.sub (tys' := []) [] rfl).app hK1
    generalize H1 = H at hP hS ⊢
    have hP : va_P (dC, dI) vwCl [(zo14irriiiiiirriirrrrlriiii m0 th aS aI im (nI a) sp9_7 (nI E) wg9_8 0 aB aT se dn aG aO aN aD bv aY rn kd nu tv), (zaI aS cS 901 fS9_6)] H := hP
    have hD : va_D A [(zo14irriiiiiirriirrrrlriiii m0 th aS aI im (nI a) sp9_7 (nI E) wg9_8 0 aB aT se dn aG aO aN aD bv aY rn kd nu tv), (zaI aS cS 901 fS9_6)] := hD
    have hK : va_K (dC, dI) vwCl [(cS, .int)] s := hK
    obtain ⟨p_9, k_10, rfl, h_11, h_12, hF_13, q9⟩ := hw_5
    rcases q9 with rfl | ⟨rfl, hI_14⟩
    · skip
      refine lv_goto (tgt := 76) hx hb dX12_clauseHere_68 (by decide) ?_
      rw [hQ]
      have hP9 := hP.sub (ws' := [(zo14irriiiiiirriirrrrlriiii m0 th aS aI im (nI a) (nI p_9) (nI E) 1 0 aB aT se dn aG aO aN aD bv aY rn kd nu tv), (zaI aS cS 901 fS9_6)]) [0, 1] rfl
      have hD9 := hD.sub (ws' := [(zo14irriiiiiirriirrrrlriiii m0 th aS aI im (nI a) (nI p_9) (nI E) 1 0 aB aT se dn aG aO aN aD bv aY rn kd nu tv), (zaI aS cS 901 fS9_6)]) [0, 1] (by decide) rfl
      have hK9 := hK.sub (tys' := [(cS, .int)]) [0] rfl
      exact W.vret hx hb hr (fun tQ htQ hWQ => ⟨⟨(fS9_6, (nI p_9), 1), rfl, ⟨p_9, k, rfl, by omega, by omega, (PF.rf).tr hF_13, Or.inl rfl⟩, by rw [htQ]; exact hP9, va_K.moved hWQ.alike hK9, hD9⟩, hS.F htQ⟩) hS.2.2 dX12_clauseHere_76
    · skip
      refine lv_goto (tgt := 76) hx hb dX12_clauseHere_68 (by decide) ?_
      rw [hQ]
      have hP9 := hP.sub (ws' := [(zo14irriiiiiirriirrrrlriiii m0 th aS aI im (nI a) (nI p_9) (nI E) 0 0 aB aT se dn aG aO aN aD bv aY rn kd nu tv), (zaI aS cS 901 fS9_6)]) [0, 1] rfl
      have hD9 := hD.sub (ws' := [(zo14irriiiiiirriirrrrlriiii m0 th aS aI im (nI a) (nI p_9) (nI E) 0 0 aB aT se dn aG aO aN aD bv aY rn kd nu tv), (zaI aS cS 901 fS9_6)]) [0, 1] (by decide) rfl
      have hK9 := hK.sub (tys' := [(cS, .int)]) [0] rfl
      exact W.vret hx hb hr (fun tQ htQ hWQ => ⟨⟨(fS9_6, (nI p_9), 0), rfl, ⟨p_9, k_10, rfl, by omega, by omega, (PF.rf).tr hF_13, Or.inr ⟨rfl, (hI_14).mono (by omega) (by omega)⟩⟩, by rw [htQ]; exact hP9, va_K.moved hWQ.alike hK9, hD9⟩, hS.F htQ⟩) hS.2.2 dX12_clauseHere_76
  by_cases c_3_104 : r_1 = 104
  · skip
    refine lv_lookup (tgt := 47) hx hb dX12_clauseHere_4 (by decide) (by rw [c_3_104]; first | done | rfl) (by decide) ?_
    refine lv_aload_n hx hb dX12_clauseHere_47 rfl (lv_at hl 0 rfl) ?_
    refine lv_sipush (v := (-200)) hx hb dX12_clauseHere_48 (by decide) ?_
    refine qi_as (y := nI 0 - nI 200) (by decide) ?_
    refine va_ldcS hx hb hown (show vk_R RX12 130 "hide " (sK 10) s from hE.1 10 (by decide)) dX12_clauseHere_51 ?_
    have hPc := hP.sub (ws' := [(zo14irriiiiiirriirrrrlriiii m0 th aS aI im (nI a) (nI p0) (nI E) 0 0 aB aT se dn aG aO aN aD bv aY rn kd nu tv), (zaI aS cS 901 fS)]) [0, 1] rfl
    have hDc := hD.sub (ws' := [(zo14irriiiiiirriirrrrlriiii m0 th aS aI im (nI a) (nI p0) (nI E) 0 0 aB aT se dn aG aO aN aD bv aY rn kd nu tv), (zaI aS cS 901 fS)]) [0, 1] (by decide) rfl
    have hKc := hK.sub (tys' := [(cS, .int)]) [0] rfl
    have hFc := va_free (wc := [(zo14irriiiiiirriirrrrlriiii m0 th aS aI im (nI a) (nI p0) (nI E) 0 0 aB aT se dn aG aO aN aD bv aY rn kd nu tv), (zaI aS cS 901 fS)]) hD hS hA [0, 1] rfl
    refine va_callv (va_runV (As := [.int (nI 0 - nI 200), .ref (sK 10)]) (rest := []) ⟨hx, hb, hml, hown, hts⟩ (c_much l dC dI sK sV m0 aS aI aB aT aG aO aN aD aY th im (nI a) (nI p0) (nI E) 0 0 se dn rn kd nu tv bv cS fS a p0 E k 200 10 H.size (by omega) (by omega) (by omega) (Or.inl rfl) (fun _ => (gI).mono (by omega) (by omega)) (by decide) (by decide)) (cwV 2 hts gX12_clauseHere_X12_much rfl rfl rfl hd_yX12_much ⟨Nat.le_of_ble_eq_true rfl, Nat.le_of_ble_eq_true rfl⟩) ⟨fun a U g mk q => by obtain ⟨q0, q1, qP, qK, qD, qhE⟩ := q; exact ⟨q0, q1, qP, va_K.moved (u := U) (U := U.calling g mk a) (Vm.Alike.refl U.vm) qK, qD, qhE.same rfl rfl⟩, va_recv hK hP (ci := 14) (q := (RX12, TX12, 23)) (q0 := 0) rfl rfl, fun U hU hW => ⟨rfl, by rw [hU], by rw [hU]; exact hPc, va_K.moved hW.alike hKc, hDc.weaken (fun _ _ _ _ => trivial), hE.call hS hU hW (fun q h => hFc q h)⟩⟩ rfl rfl hl.1 rfl (lv_room (Nat.le_of_ble_eq_true rfl)) dX12_clauseHere_53 ⟨Nat.le_of_ble_eq_true rfl, Nat.le_of_ble_eq_true rfl⟩) hS (fun q _ h => hFc q h) hFc (fun u tC H1 locs htC hvm hw_16 hB hz1 hk1 hS => ?_)
    obtain ⟨fS9_17, sp9_18, wg9_19⟩ := u
    try dsimp only at hw_16 hB
    obtain ⟨hP1, hK1, hD1⟩ := hB
    rw [htC] at hP1
    have hK1 := va_K.moved hvm.symm hK1
    obtain ⟨hP, hD⟩ := va_join (wr := []) (w1 := [(zo14irriiiiiirriirrrrlriiii m0 th aS aI im (nI a) sp9_18 (nI E) wg9_19 0 aB aT se dn aG aO aN aD bv aY rn kd nu tv), (zaI aS cS 901 fS9_17)]) hP hD [0, 1] [] rfl rfl (by decide) (by decide) hk1 hFc hP1 hD1
    have hK := (hK.sub (tys' := []) [] rfl).app hK1
    generalize H1 = H at hP hS ⊢
    have hP : va_P (dC, dI) vwCl [(zo14irriiiiiirriirrrrlriiii m0 th aS aI im (nI a) sp9_18 (nI E) wg9_19 0 aB aT se dn aG aO aN aD bv aY rn kd nu tv), (zaI aS cS 901 fS9_17)] H := hP
    have hD : va_D A [(zo14irriiiiiirriirrrrlriiii m0 th aS aI im (nI a) sp9_18 (nI E) wg9_19 0 aB aT se dn aG aO aN aD bv aY rn kd nu tv), (zaI aS cS 901 fS9_17)] := hD
    have hK : va_K (dC, dI) vwCl [(cS, .int)] s := hK
    obtain ⟨p_20, k_21, rfl, h_22, h_23, hF_24, q9⟩ := hw_16
    rcases q9 with rfl | ⟨rfl, hI_25⟩
    · skip
      refine lv_goto (tgt := 76) hx hb dX12_clauseHere_56 (by decide) ?_
      rw [hQ]
      have hP9 := hP.sub (ws' := [(zo14irriiiiiirriirrrrlriiii m0 th aS aI im (nI a) (nI p_20) (nI E) 1 0 aB aT se dn aG aO aN aD bv aY rn kd nu tv), (zaI aS cS 901 fS9_17)]) [0, 1] rfl
      have hD9 := hD.sub (ws' := [(zo14irriiiiiirriirrrrlriiii m0 th aS aI im (nI a) (nI p_20) (nI E) 1 0 aB aT se dn aG aO aN aD bv aY rn kd nu tv), (zaI aS cS 901 fS9_17)]) [0, 1] (by decide) rfl
      have hK9 := hK.sub (tys' := [(cS, .int)]) [0] rfl
      exact W.vret hx hb hr (fun tQ htQ hWQ => ⟨⟨(fS9_17, (nI p_20), 1), rfl, ⟨p_20, k, rfl, by omega, by omega, (PF.rf).tr hF_24, Or.inl rfl⟩, by rw [htQ]; exact hP9, va_K.moved hWQ.alike hK9, hD9⟩, hS.F htQ⟩) hS.2.2 dX12_clauseHere_76
    · skip
      refine lv_goto (tgt := 76) hx hb dX12_clauseHere_56 (by decide) ?_
      rw [hQ]
      have hP9 := hP.sub (ws' := [(zo14irriiiiiirriirrrrlriiii m0 th aS aI im (nI a) (nI p_20) (nI E) 0 0 aB aT se dn aG aO aN aD bv aY rn kd nu tv), (zaI aS cS 901 fS9_17)]) [0, 1] rfl
      have hD9 := hD.sub (ws' := [(zo14irriiiiiirriirrrrlriiii m0 th aS aI im (nI a) (nI p_20) (nI E) 0 0 aB aT se dn aG aO aN aD bv aY rn kd nu tv), (zaI aS cS 901 fS9_17)]) [0, 1] (by decide) rfl
      have hK9 := hK.sub (tys' := [(cS, .int)]) [0] rfl
      exact W.vret hx hb hr (fun tQ htQ hWQ => ⟨⟨(fS9_17, (nI p_20), 0), rfl, ⟨p_20, k_21, rfl, by omega, by omega, (PF.rf).tr hF_24, Or.inr ⟨rfl, (hI_25).mono (by omega) (by omega)⟩⟩, by rw [htQ]; exact hP9, va_K.moved hWQ.alike hK9, hD9⟩, hS.F htQ⟩) hS.2.2 dX12_clauseHere_76
  by_cases c_3_115 : r_1 = 115
  · skip
    refine lv_lookup (tgt := 40) hx hb dX12_clauseHere_4 (by decide) (by rw [c_3_115]; first | done | rfl) (by decide) ?_
    refine lv_aload_n hx hb dX12_clauseHere_40 rfl (lv_at hl 0 rfl) ?_
    have hPc := hP.sub (ws' := [(zo14irriiiiiirriirrrrlriiii m0 th aS aI im (nI a) (nI p0) (nI E) 0 0 aB aT se dn aG aO aN aD bv aY rn kd nu tv), (zaI aS cS 901 fS)]) [0, 1] rfl
    have hDc := hD.sub (ws' := [(zo14irriiiiiirriirrrrlriiii m0 th aS aI im (nI a) (nI p0) (nI E) 0 0 aB aT se dn aG aO aN aD bv aY rn kd nu tv), (zaI aS cS 901 fS)]) [0, 1] (by decide) rfl
    have hKc := hK.sub (tys' := [(cS, .int)]) [0] rfl
    have hFc := va_free (wc := [(zo14irriiiiiirriirrrrlriiii m0 th aS aI im (nI a) (nI p0) (nI E) 0 0 aB aT se dn aG aO aN aD bv aY rn kd nu tv), (zaI aS cS 901 fS)]) hD hS hA [0, 1] rfl
    refine va_callv (va_runV (As := []) (rest := []) ⟨hx, hb, hml, hown, hts⟩ (c_clauseOfS l dC dI sK sV m0 aS aI aB aT aG aO aN aD aY th im (nI a) (nI p0) (nI E) 0 0 se dn rn kd nu tv bv cS fS a p0 E k H.size (by omega) (by omega) (by omega) (Or.inl rfl) (fun _ => gI)) (cwV 0 hts gX12_clauseHere_X12_clauseOfS rfl rfl rfl hd_yX12_clauseOfS ⟨Nat.le_of_ble_eq_true rfl, Nat.le_of_ble_eq_true rfl⟩) ⟨fun a U g mk q => by obtain ⟨q0, q1, qP, qK, qD, qhE⟩ := q; exact ⟨q0, q1, qP, va_K.moved (u := U) (U := U.calling g mk a) (Vm.Alike.refl U.vm) qK, qD, qhE.same rfl rfl⟩, va_recv hK hP (ci := 14) (q := (RX12, TX12, 23)) (q0 := 0) rfl rfl, fun U hU hW => ⟨rfl, by rw [hU], by rw [hU]; exact hPc, va_K.moved hW.alike hKc, hDc.weaken (fun _ _ _ _ => trivial), hE.call hS hU hW (fun q h => hFc q h)⟩⟩ rfl rfl hl.1 rfl (lv_room (Nat.le_of_ble_eq_true rfl)) dX12_clauseHere_41 ⟨Nat.le_of_ble_eq_true rfl, Nat.le_of_ble_eq_true rfl⟩) hS (fun q _ h => hFc q h) hFc (fun u tC H1 locs htC hvm hw_27 hB hz1 hk1 hS => ?_)
    obtain ⟨fS9_28, sp9_29, wg9_30⟩ := u
    try dsimp only at hw_27 hB
    obtain ⟨hP1, hK1, hD1⟩ := hB
    rw [htC] at hP1
    have hK1 := va_K.moved hvm.symm hK1
    obtain ⟨hP, hD⟩ := va_join (wr := []) (w1 := [(zo14irriiiiiirriirrrrlriiii m0 th aS aI im (nI a) sp9_29 (nI E) wg9_30 0 aB aT se dn aG aO aN aD bv aY rn kd nu tv), (zaI aS cS 901 fS9_28)]) hP hD [0, 1] [] rfl rfl (by decide) (by decide) hk1 hFc hP1 hD1
    have hK := (hK.sub (tys' := []) [] rfl).app hK1
    generalize H1 = H at hP hS ⊢
    have hP : va_P (dC, dI) vwCl [(zo14irriiiiiirriirrrrlriiii m0 th aS aI im (nI a) sp9_29 (nI E) wg9_30 0 aB aT se dn aG aO aN aD bv aY rn kd nu tv), (zaI aS cS 901 fS9_28)] H := hP
    have hD : va_D A [(zo14irriiiiiirriirrrrlriiii m0 th aS aI im (nI a) sp9_29 (nI E) wg9_30 0 aB aT se dn aG aO aN aD bv aY rn kd nu tv), (zaI aS cS 901 fS9_28)] := hD
    have hK : va_K (dC, dI) vwCl [(cS, .int)] s := hK
    obtain ⟨p_31, k_32, rfl, h_33, h_34, hF_35, q9⟩ := hw_27
    rcases q9 with rfl | ⟨rfl, hI_36⟩
    · skip
      refine lv_goto (tgt := 76) hx hb dX12_clauseHere_44 (by decide) ?_
      rw [hQ]
      have hP9 := hP.sub (ws' := [(zo14irriiiiiirriirrrrlriiii m0 th aS aI im (nI a) (nI p_31) (nI E) 1 0 aB aT se dn aG aO aN aD bv aY rn kd nu tv), (zaI aS cS 901 fS9_28)]) [0, 1] rfl
      have hD9 := hD.sub (ws' := [(zo14irriiiiiirriirrrrlriiii m0 th aS aI im (nI a) (nI p_31) (nI E) 1 0 aB aT se dn aG aO aN aD bv aY rn kd nu tv), (zaI aS cS 901 fS9_28)]) [0, 1] (by decide) rfl
      have hK9 := hK.sub (tys' := [(cS, .int)]) [0] rfl
      exact W.vret hx hb hr (fun tQ htQ hWQ => ⟨⟨(fS9_28, (nI p_31), 1), rfl, ⟨p_31, k, rfl, by omega, by omega, (PF.rf).tr hF_35, Or.inl rfl⟩, by rw [htQ]; exact hP9, va_K.moved hWQ.alike hK9, hD9⟩, hS.F htQ⟩) hS.2.2 dX12_clauseHere_76
    · skip
      refine lv_goto (tgt := 76) hx hb dX12_clauseHere_44 (by decide) ?_
      rw [hQ]
      have hP9 := hP.sub (ws' := [(zo14irriiiiiirriirrrrlriiii m0 th aS aI im (nI a) (nI p_31) (nI E) 0 0 aB aT se dn aG aO aN aD bv aY rn kd nu tv), (zaI aS cS 901 fS9_28)]) [0, 1] rfl
      have hD9 := hD.sub (ws' := [(zo14irriiiiiirriirrrrlriiii m0 th aS aI im (nI a) (nI p_31) (nI E) 0 0 aB aT se dn aG aO aN aD bv aY rn kd nu tv), (zaI aS cS 901 fS9_28)]) [0, 1] (by decide) rfl
      have hK9 := hK.sub (tys' := [(cS, .int)]) [0] rfl
      exact W.vret hx hb hr (fun tQ htQ hWQ => ⟨⟨(fS9_28, (nI p_31), 0), rfl, ⟨p_31, k_32, rfl, by omega, by omega, (PF.rf).tr hF_35, Or.inr ⟨rfl, (hI_36).mono (by omega) (by omega)⟩⟩, by rw [htQ]; exact hP9, va_K.moved hWQ.alike hK9, hD9⟩, hS.F htQ⟩) hS.2.2 dX12_clauseHere_76
  refine lv_lookup (tgt := 71) hx hb dX12_clauseHere_4 (by decide) (lk_out c_3_100 c_3_104 c_3_115) (by decide) ?_
  refine lv_aload_n hx hb dX12_clauseHere_71 rfl (lv_at hl 0 rfl) ?_
  refine lv_iconst (v := 1) hx hb dX12_clauseHere_72 (by decide) ?_
  refine va_put (D := (dC, dI)) (ci := 14) (v := .int 1) (ty := .boolean) (C := RX12) (T := TX12) (N := 23) hx hb hts kc_clauseHere_0 tyX12 tyX12_ok nmX12 hown hK hP hD hS 0 rfl rfl 7 (by decide) (hts (.fieldLink RX12 65 "MistHeapsModel" "isWrong" "Z") kc_clauseHere_1) (fun _ h9 => h9) rfl (by decide +kernel) rfl rfl (Nat.le_of_ble_eq_true rfl) dX12_clauseHere_73 (fun H locs hP hD hS => ?_)
  have hP : va_P (dC, dI) vwCl [(zo14irriiiiiirriirrrrlriiii m0 th aS aI im (nI a) (nI p0) (nI E) 1 0 aB aT se dn aG aO aN aD bv aY rn kd nu tv), (zaI aS cS 901 fS)] H := hP
  have hD : va_D A [(zo14irriiiiiirriirrrrlriiii m0 th aS aI im (nI a) (nI p0) (nI E) 1 0 aB aT se dn aG aO aN aD bv aY rn kd nu tv), (zaI aS cS 901 fS)] := hD
  rw [hQ]
  have hP9 := hP.sub (ws' := [(zo14irriiiiiirriirrrrlriiii m0 th aS aI im (nI a) (nI p0) (nI E) 1 0 aB aT se dn aG aO aN aD bv aY rn kd nu tv), (zaI aS cS 901 fS)]) [0, 1] rfl
  have hD9 := hD.sub (ws' := [(zo14irriiiiiirriirrrrlriiii m0 th aS aI im (nI a) (nI p0) (nI E) 1 0 aB aT se dn aG aO aN aD bv aY rn kd nu tv), (zaI aS cS 901 fS)]) [0, 1] (by decide) rfl
  have hK9 := hK.sub (tys' := [(cS, .int)]) [0] rfl
  exact W.vret hx hb hr (fun tQ htQ hWQ => ⟨⟨(fS, (nI p0), 1), rfl, ⟨p0, k, rfl, by omega, by omega, PF.rf, Or.inl rfl⟩, by rw [htQ]; exact hP9, va_K.moved hWQ.alike hK9, hD9⟩, hS.F htQ⟩) hS.2.2 dX12_clauseHere_76

noncomputable def holdH (f : Nat → Int32) (hl : Nat) : Prop := f 5 = -1 ∨ ∃ h : Nat, h < hl ∧ f 5 = nI h ∧ okP f h
theorem holdH.hold {f : Nat → Int32} {hl : Nat} (h : holdH f hl) (hl5 : hl ≤ 5) : hold f := by
  rcases h with h | ⟨k, hk, h⟩
  · exact Or.inl h
  · exact Or.inr ⟨k, by omega, h⟩
theorem okP_of {f g : Nat → Int32} {h : Nat} (hp : okP f h) (he : ∀ i, (i = 196 + h ∨ (201 + 140 * h ≤ i ∧ i < 201 + 140 * h + 140)) → g i = f i) : okP g h := by
  obtain ⟨n, hn, h2, h3⟩ := hp
  refine ⟨n, hn, (he _ (Or.inl rfl)).trans h2, ?_⟩
  rw [sdep_cong (f := fun i => f (201 + 140 * h + i)) (fun i hi => he _ (Or.inr (by omega)))]; exact h3
theorem holdH_of {f g : Nat → Int32} {hl : Nat} (h : holdH f hl) (hl5 : hl ≤ 5) (he : ∀ i, (i = 5 ∨ (196 ≤ i ∧ i < 196 + hl) ∨ (201 ≤ i ∧ i < 201 + 140 * hl)) → g i = f i) : holdH g hl := by
  rcases h with h | ⟨k, hk, h, hp⟩
  · exact Or.inl ((he 5 (Or.inl rfl)).trans h)
  · exact Or.inr ⟨k, hk, (he 5 (Or.inl rfl)).trans h, okP_of hp (fun i hi => he i (by omega))⟩
theorem PI.ok {f : Nat → Int32} {a k d p E : Nat} (h : PI f a k d p E) : okP f a := by
  obtain ⟨a1, a2, a3, a4, a5, a6, a7⟩ := h
  exact ⟨k, by omega, a4, by rw [a7]; exact Option.some_ne_none _⟩
theorem h0_PI {f : Nat → Int32} {a E : Nat} {x : Int32} (ha : a < 5) (hE : E ≤ 100) : PI (upd (upd f (191 + a) x) (196 + a) 0) a 0 0 0 E := ⟨ha, by omega, hE, pk_us, Nat.le_refl _, Nat.le_refl _, rfl⟩
/-- behind a hill: what is kept -/
noncomputable def HQ (f g : Nat → Int32) : Prop := (∃ hl : Nat, hl ≤ 5 ∧ g 1 = nI hl ∧ holdH g hl) ∧ (∃ t : Nat, t ≤ 100 ∧ g 4 = nI t) ∧ ∀ i, i ≠ 1 → i ≠ 4 → i ≠ 5 → i < 191 → g i = f i
theorem HQ_bad {f f0 g : Nat → Int32} {hl : Nat} (h5 : hl < 5) (z1 : f 1 = nI hl) (hH : holdH f hl) (z0 : f0 4 = 0) (hF0 : ∀ i, i ≠ 4 → i ≠ 191 + hl → i ≠ 196 + hl → f0 i = f i) (hF : PF hl f0 g) : HQ f g := by
  have e : ∀ i, i ≠ 4 → i ≠ 191 + hl → i ≠ 196 + hl → ¬ (201 + 140 * hl ≤ i ∧ i < 201 + 140 * hl + 140) → g i = f i := fun i a b c d => (hF i b c d).trans (hF0 i a b c)
  refine ⟨⟨hl, by omega, (e 1 (by omega) (by omega) (by omega) (by omega)).trans z1, holdH_of hH (by omega) (fun i hi => e i (by omega) (by omega) (by omega) (by omega))⟩, ⟨0, by omega, (hF 4 (by omega) (by omega) (by omega)).trans z0⟩, fun i _ a _ b => e i a (by omega) (by omega) (by omega)⟩
theorem HQ_good {f f0 g : Nat → Int32} {hl k p E : Nat} (h5 : hl < 5) (z0 : f0 4 = 0) (hF0 : ∀ i, i ≠ 4 → i ≠ 191 + hl → i ≠ 196 + hl → f0 i = f i) (hF : PF hl f0 g) (hI : PI g hl k 0 p E) : HQ f (upd (upd g 1 (nI (hl + 1))) 5 (nI hl)) := by
  have e : ∀ i, i ≠ 4 → i ≠ 191 + hl → i ≠ 196 + hl → ¬ (201 + 140 * hl ≤ i ∧ i < 201 + 140 * hl + 140) → g i = f i := fun i a b c d => (hF i b c d).trans (hF0 i a b c)
  refine ⟨⟨hl + 1, by omega, (pk_un (by omega)).trans pk_us, Or.inr ⟨hl, by omega, pk_us, okP_of hI.ok (fun i hi => by rw [pk_un (by omega), pk_un (by omega)])⟩⟩, ⟨0, by omega, ?_⟩, fun i a b c d => ?_⟩
  · rw [pk_un (by omega), pk_un (by omega)]; exact (hF 4 (by omega) (by omega) (by omega)).trans z0
  · rw [pk_un c, pk_un a]; exact e i b (by omega) (by omega) (by omega)

theorem kc_mHill_0 : ∀ w ∈ wsX120, w ∈ wsX12_hill := fun w h => List.mem_cons_of_mem _ (gin_wsX120 w h)
theorem kc_mHill_1 : (.fieldLink RX12 9 "MistHeapsModel" "s" "[I" : Cond) ∈ wsX12_hill := kc_of 1141 rfl rfl rfl
theorem kc_mHill_2 : (.fieldLink RX12 86 "MistHeapsModel" "act" "I" : Cond) ∈ wsX12_hill := kc_of 1144 rfl rfl rfl
theorem kc_mHill_3 : (.fieldLink RX12 62 "MistHeapsModel" "end" "I" : Cond) ∈ wsX12_hill := kc_of 1146 rfl rfl rfl
theorem kc_mHill_4 : (.fieldLink RX12 59 "MistHeapsModel" "spot" "I" : Cond) ∈ wsX12_hill := kc_of 1145 rfl rfl rfl
theorem kc_mHill_5 : (.fieldLink RX12 65 "MistHeapsModel" "isWrong" "Z" : Cond) ∈ wsX12_hill := kc_of 1147 rfl rfl rfl
theorem kc_mHill_6 : (.fieldLink RX12 89 "MistHeapsModel" "open" "I" : Cond) ∈ wsX12_hill := kc_of 1148 rfl rfl rfl
set_option maxHeartbeats 4000000 in
set_option maxRecDepth 100000 in
theorem c_mHill (l : Launch) (dC : Nat → ClassId) (dI : Nat → Nat → Nat) (sK sV : Nat → Nat) (m0 aS aI aB aT aG aO aN aD aY : Nat) (th im ac sp en wg op se dn rn kd nu tv : Int32) (bv : Int64) (cS : ClassId) (fS : Nat → Int32) (nl tp : Nat) (sz : Nat) (z1 : fS 1 = nI nl) (h5 : nl ≤ 5) (zt : fS 4 = nI tp) (ht : tp ≤ 100) (hHd : holdH fS nl) : Met l yX12_hill wsX12_hill ({ frames := 26, cells := 0, slots := 0, locals := 555 } : Room) (va_Pc [.ref m0] (fun U => U.heap.size = sz ∧ va_P (dC, dI) vwCl [(zo14irriiiiiirriirrrrlriiii m0 th aS aI im ac sp en wg op aB aT se dn aG aO aN aD bv aY rn kd nu tv), (zaI aS cS 901 fS)] U.heap ∧ va_K (dC, dI) vwCl [(cS, .int)] U ∧ va_D (fun _ => True) [(zo14irriiiiiirriirrrrlriiii m0 th aS aI im ac sp en wg op aB aT se dn aG aO aN aD bv aY rn kd nu tv), (zaI aS cS 901 fS)] ∧ Gs sK sV (va_A [(zo14irriiiiiirriirrrrlriiii m0 th aS aI im ac sp en wg op aB aT se dn aG aO aN aD bv aY rn kd nu tv), (zaI aS cS 901 fS)] sz) U)) (va_Qi (fun (r : Int32) (u : (Nat → Int32) × (Int32) × (Int32) × (Int32) × (Int32) × (Int32)) => match u with | (fS9, ac9, sp9, en9, wg9, op9) => HQ fS fS9) (fun (u : (Nat → Int32) × (Int32) × (Int32) × (Int32) × (Int32) × (Int32)) (t : State) => match u with | (fS9, ac9, sp9, en9, wg9, op9) => va_P (dC, dI) vwCl [(zo14irriiiiiirriirrrrlriiii m0 th aS aI im ac9 sp9 en9 wg9 op9 aB aT se dn aG aO aN aD bv aY rn kd nu tv), (zaI aS cS 901 fS9)] t.heap ∧ va_K (dC, dI) vwCl [(cS, .int)] t ∧ va_D (va_A [(zo14irriiiiiirriirrrrlriiii m0 th aS aI im ac sp en wg op aB aT se dn aG aO aN aD bv aY rn kd nu tv), (zaI aS cS 901 fS)] sz) [(zo14irriiiiiirriirrrrlriiii m0 th aS aI im ac9 sp9 en9 wg9 op9 aB aT se dn aG aO aN aD bv aY rn kd nu tv), (zaI aS cS 901 fS9)]) (va_A [(zo14irriiiiiirriirrrrlriiii m0 th aS aI im ac sp en wg op aB aT se dn aG aO aN aD bv aY rn kd nu tv), (zaI aS cS 901 fS)] sz)) 0 0 (va_A [(zo14irriiiiiirriirrrrlriiii m0 th aS aI im ac sp en wg op aB aT se dn aG aO aN aD bv aY rn kd nu tv), (zaI aS cS 901 fS)] sz) := by
  refine met_ofQ (cc := cX12_hill) (maxL := 2) (ret := (some .int)) (by decide) rfl ?_
  intro p e s m args below meth c s₁ Q B hml hv hQ
  obtain ⟨rfl, hsz, hP, hK, hD0, hE⟩ := hv
  have hx := B.exec
  have hb := B.bytes
  have hr := B.returns
  have hts := atoms_spec (ws := wsX12_hill) B.pre
  have hown : s.vm.findClass RX12 = some m.cls := findClass_of_methodNamed B.named
  have hlocks := B.notSynchronized
  subst hsz
  have hD := hD0.self (sz := s.heap.size)
  generalize hAe : va_A [(zo14irriiiiiirriirrrrlriiii m0 th aS aI im ac sp en wg op aB aT se dn aG aO aN aD bv aY rn kd nu tv), (zaI aS cS 901 fS)] s.heap.size = A at hD hQ hE ⊢
  have hA : ∀ q : Nat, s.heap.size ≤ q → A q := fun q h => by rw [← hAe]; exact Or.inr h
  have hS : va_S A s.heap s.heap [] := va_S.rf
  have hl := lv_entry [.ref m0] (n := 2) (Nat.le_of_ble_eq_true rfl)
  rw [lg_entry_eq]
  generalize (lg_sl [.ref m0] ++ List.replicate (2 - (lg_sl [.ref m0]).length) Slot.unset).toArray = ls at hl ⊢
  generalize hag : ([.ref m0] : List Value).toArray = args at hts hQ ⊢
  have hl : lv_has ls 2 [(0, .ref m0)] := hl
  obtain ⟨H, hH⟩ : ∃ H : Heap, H = s.heap := ⟨_, rfl⟩
  rw [← hH] at hP
  rw [← hH]
  have hS : va_S A s.heap H [] := by rw [hH]; exact hS
  obtain ⟨locs, hlo⟩ : ∃ L : List Loc, L = [] := ⟨_, rfl⟩
  rw [← hlo] at hS
  rw [← hlo]
  clear hH hlo
  refine lv_aload_n hx hb dX12_hill_0 rfl (lv_at hl 0 rfl) ?_
  refine va_get (D := (dC, dI)) (ci := 14) (v := .ref aS) (C := RX12) (T := TX12) (N := 23) hx hb hts kc_mHill_0 hown hK hP 0 rfl rfl 1 (by decide) (hts (.fieldLink RX12 9 "MistHeapsModel" "s" "[I") kc_mHill_1) (fun _ h9 => h9) rfl dX12_hill_1 ?_
  refine lv_iconst (v := 1) hx hb dX12_hill_4 (by decide) ?_
  refine va_iald hx hb hK hP 1 0 rfl rfl (vp_in_nI (n := 1) (N := 901) (by omega) (by omega)) dX12_hill_5 ?_
  refine qi_as (y := nI nl) ((show fS (1 : Int32).toNatClampNeg = fS 1 from rfl).trans (z1)) ?_
  refine lv_iconst (v := 5) hx hb dX12_hill_6 (by decide) ?_
  refine lv_icmp_ne (tgt := 13) hx hb dX12_hill_7 (by decide) (fun c_1 => ?_) (fun c_1 => ?_)
  · skip
    have c_1 : ¬ nl = 5 := fun q => c_1 ((nI_eq (a := nl) (b := 5) (by omega) (by omega)).mpr q)
    refine lv_aload_n hx hb dX12_hill_13 rfl (lv_at hl 0 rfl) ?_
    refine lv_aload_n hx hb dX12_hill_14 rfl (lv_at hl 0 rfl) ?_
    refine va_get (D := (dC, dI)) (ci := 14) (v := .ref aS) (C := RX12) (T := TX12) (N := 23) hx hb hts kc_mHill_0 hown hK hP 0 rfl rfl 1 (by decide) (hts (.fieldLink RX12 9 "MistHeapsModel" "s" "[I") kc_mHill_1) (fun _ h9 => h9) rfl dX12_hill_15 ?_
    refine lv_iconst (v := 1) hx hb dX12_hill_18 (by decide) ?_
    refine va_iald hx hb hK hP 1 0 rfl rfl (vp_in_nI (n := 1) (N := 901) (by omega) (by omega)) dX12_hill_19 ?_
    refine qi_as (y := nI nl) ((show fS (1 : Int32).toNatClampNeg = fS 1 from rfl).trans (z1)) ?_
    refine va_put (D := (dC, dI)) (ci := 14) (v := .int (nI nl)) (ty := .int) (C := RX12) (T := TX12) (N := 23) hx hb hts kc_mHill_0 tyX12 tyX12_ok nmX12 hown hK hP hD hS 0 rfl rfl 4 (by decide) (hts (.fieldLink RX12 86 "MistHeapsModel" "act" "I") kc_mHill_2) (fun _ h9 => h9) rfl (by decide +kernel) rfl rfl (Nat.le_of_ble_eq_true rfl) dX12_hill_20 (fun H locs hP hD hS => ?_)
    have hP : va_P (dC, dI) vwCl [(zo14irriiiiiirriirrrrlriiii m0 th aS aI im (nI nl) sp en wg op aB aT se dn aG aO aN aD bv aY rn kd nu tv), (zaI aS cS 901 fS)] H := hP
    have hD : va_D A [(zo14irriiiiiirriirrrrlriiii m0 th aS aI im (nI nl) sp en wg op aB aT se dn aG aO aN aD bv aY rn kd nu tv), (zaI aS cS 901 fS)] := hD
    refine lv_aload_n hx hb dX12_hill_23 rfl (lv_at hl 0 rfl) ?_
    refine lv_aload_n hx hb dX12_hill_24 rfl (lv_at hl 0 rfl) ?_
    refine va_get (D := (dC, dI)) (ci := 14) (v := .ref aS) (C := RX12) (T := TX12) (N := 23) hx hb hts kc_mHill_0 hown hK hP 0 rfl rfl 1 (by decide) (hts (.fieldLink RX12 9 "MistHeapsModel" "s" "[I") kc_mHill_1) (fun _ h9 => h9) rfl dX12_hill_25 ?_
    refine lv_iconst (v := 4) hx hb dX12_hill_28 (by decide) ?_
    refine va_iald hx hb hK hP 1 0 rfl rfl (vp_in_nI (n := 4) (N := 901) (by omega) (by omega)) dX12_hill_29 ?_
    refine qi_as (y := nI tp) ((show fS (4 : Int32).toNatClampNeg = fS 4 from rfl).trans (zt)) ?_
    refine va_put (D := (dC, dI)) (ci := 14) (v := .int (nI tp)) (ty := .int) (C := RX12) (T := TX12) (N := 23) hx hb hts kc_mHill_0 tyX12 tyX12_ok nmX12 hown hK hP hD hS 0 rfl rfl 6 (by decide) (hts (.fieldLink RX12 62 "MistHeapsModel" "end" "I") kc_mHill_3) (fun _ h9 => h9) rfl (by decide +kernel) rfl rfl (Nat.le_of_ble_eq_true rfl) dX12_hill_30 (fun H locs hP hD hS => ?_)
    have hP : va_P (dC, dI) vwCl [(zo14irriiiiiirriirrrrlriiii m0 th aS aI im (nI nl) sp (nI tp) wg op aB aT se dn aG aO aN aD bv aY rn kd nu tv), (zaI aS cS 901 fS)] H := hP
    have hD : va_D A [(zo14irriiiiiirriirrrrlriiii m0 th aS aI im (nI nl) sp (nI tp) wg op aB aT se dn aG aO aN aD bv aY rn kd nu tv), (zaI aS cS 901 fS)] := hD
    refine lv_aload_n hx hb dX12_hill_33 rfl (lv_at hl 0 rfl) ?_
    refine va_get (D := (dC, dI)) (ci := 14) (v := .ref aS) (C := RX12) (T := TX12) (N := 23) hx hb hts kc_mHill_0 hown hK hP 0 rfl rfl 1 (by decide) (hts (.fieldLink RX12 9 "MistHeapsModel" "s" "[I") kc_mHill_1) (fun _ h9 => h9) rfl dX12_hill_34 ?_
    refine lv_iconst (v := 4) hx hb dX12_hill_37 (by decide) ?_
    refine lv_iconst (v := 0) hx hb dX12_hill_38 (by decide) ?_
    refine va_iast hx hb hK hP hD hS 1 0 rfl rfl (vp_in_nI (n := 4) (N := 901) (by omega) (by omega)) dX12_hill_39 (fun H locs hP hD hS => ?_)
    have hP : va_P (dC, dI) vwCl [(zo14irriiiiiirriirrrrlriiii m0 th aS aI im (nI nl) sp (nI tp) wg op aB aT se dn aG aO aN aD bv aY rn kd nu tv), (zaI aS cS 901 (upd fS 4 0))] H := hP
    have hD : va_D A [(zo14irriiiiiirriirrrrlriiii m0 th aS aI im (nI nl) sp (nI tp) wg op aB aT se dn aG aO aN aD bv aY rn kd nu tv), (zaI aS cS 901 (upd fS 4 0))] := hD
    refine lv_aload_n hx hb dX12_hill_40 rfl (lv_at hl 0 rfl) ?_
    refine va_get (D := (dC, dI)) (ci := 14) (v := .ref aS) (C := RX12) (T := TX12) (N := 23) hx hb hts kc_mHill_0 hown hK hP 0 rfl rfl 1 (by decide) (hts (.fieldLink RX12 9 "MistHeapsModel" "s" "[I") kc_mHill_1) (fun _ h9 => h9) rfl dX12_hill_41 ?_
    refine lv_sipush (v := 191) hx hb dX12_hill_44 (by decide) ?_
    refine lv_aload_n hx hb dX12_hill_47 rfl (lv_at hl 0 rfl) ?_
    refine va_get (D := (dC, dI)) (ci := 14) (v := .int (nI nl)) (C := RX12) (T := TX12) (N := 23) hx hb hts kc_mHill_0 hown hK hP 0 rfl rfl 4 (by decide) (hts (.fieldLink RX12 86 "MistHeapsModel" "act" "I") kc_mHill_2) (fun _ h9 => h9) rfl dX12_hill_48 ?_
    refine lv_iadd hx hb dX12_hill_51 ?_
    refine qi_as (y := nI (191 + nl)) (nI_add 191 nl) ?_
    refine lv_iconst (v := 3) hx hb dX12_hill_52 (by decide) ?_
    refine va_iast hx hb hK hP hD hS 1 0 rfl rfl (vp_in_nI (n := 191 + nl) (N := 901) (by omega) (by omega)) dX12_hill_53 (fun H locs hP hD hS => ?_)
    rw [nI_clamp (n := 191 + nl) (by omega)] at hP hD
    have hP : va_P (dC, dI) vwCl [(zo14irriiiiiirriirrrrlriiii m0 th aS aI im (nI nl) sp (nI tp) wg op aB aT se dn aG aO aN aD bv aY rn kd nu tv), (zaI aS cS 901 (upd (upd fS 4 0) (191 + nl) 3))] H := hP
    have hD : va_D A [(zo14irriiiiiirriirrrrlriiii m0 th aS aI im (nI nl) sp (nI tp) wg op aB aT se dn aG aO aN aD bv aY rn kd nu tv), (zaI aS cS 901 (upd (upd fS 4 0) (191 + nl) 3))] := hD
    refine lv_aload_n hx hb dX12_hill_54 rfl (lv_at hl 0 rfl) ?_
    refine va_get (D := (dC, dI)) (ci := 14) (v := .ref aS) (C := RX12) (T := TX12) (N := 23) hx hb hts kc_mHill_0 hown hK hP 0 rfl rfl 1 (by decide) (hts (.fieldLink RX12 9 "MistHeapsModel" "s" "[I") kc_mHill_1) (fun _ h9 => h9) rfl dX12_hill_55 ?_
    refine lv_sipush (v := 196) hx hb dX12_hill_58 (by decide) ?_
    refine lv_aload_n hx hb dX12_hill_61 rfl (lv_at hl 0 rfl) ?_
    refine va_get (D := (dC, dI)) (ci := 14) (v := .int (nI nl)) (C := RX12) (T := TX12) (N := 23) hx hb hts kc_mHill_0 hown hK hP 0 rfl rfl 4 (by decide) (hts (.fieldLink RX12 86 "MistHeapsModel" "act" "I") kc_mHill_2) (fun _ h9 => h9) rfl dX12_hill_62 ?_
    refine lv_iadd hx hb dX12_hill_65 ?_
    refine qi_as (y := nI (196 + nl)) (nI_add 196 nl) ?_
    refine lv_iconst (v := 0) hx hb dX12_hill_66 (by decide) ?_
    refine va_iast hx hb hK hP hD hS 1 0 rfl rfl (vp_in_nI (n := 196 + nl) (N := 901) (by omega) (by omega)) dX12_hill_67 (fun H locs hP hD hS => ?_)
    rw [nI_clamp (n := 196 + nl) (by omega)] at hP hD
    have hP : va_P (dC, dI) vwCl [(zo14irriiiiiirriirrrrlriiii m0 th aS aI im (nI nl) sp (nI tp) wg op aB aT se dn aG aO aN aD bv aY rn kd nu tv), (zaI aS cS 901 (upd (upd (upd fS 4 0) (191 + nl) 3) (196 + nl) 0))] H := hP
    have hD : va_D A [(zo14irriiiiiirriirrrrlriiii m0 th aS aI im (nI nl) sp (nI tp) wg op aB aT se dn aG aO aN aD bv aY rn kd nu tv), (zaI aS cS 901 (upd (upd (upd fS 4 0) (191 + nl) 3) (196 + nl) 0))] := hD
    obtain ⟨f0, ef0⟩ : ∃ g : Nat → Int32, g = upd (upd (upd fS 4 0) (191 + nl) 3) (196 + nl) 0 := ⟨_, rfl⟩
    have hI0 : PI f0 nl 0 0 0 tp := by rw [ef0]; exact h0_PI (by omega) ht
    have z0 : f0 4 = 0 := by rw [ef0, pk_un (by omega), pk_un (by omega)]; exact pk_us
    have hF0 : ∀ i, i ≠ 4 → i ≠ 191 + nl → i ≠ 196 + nl → f0 i = fS i := fun i a1 a2 a3 => by rw [ef0, pk_un a3, pk_un a2, pk_un a1]
    rw [show upd (upd (upd fS 4 0) (191 + nl) 3) (196 + nl) 0 = f0 from ef0.symm] at hP hD
    have hP : va_P (dC, dI) vwCl [(zo14irriiiiiirriirrrrlriiii m0 th aS aI im (nI nl) sp (nI tp) wg op aB aT se dn aG aO aN aD bv aY rn kd nu tv), (zaI aS cS 901 f0)] H := hP
    have hD : va_D A [(zo14irriiiiiirriirrrrlriiii m0 th aS aI im (nI nl) sp (nI tp) wg op aB aT se dn aG aO aN aD bv aY rn kd nu tv), (zaI aS cS 901 f0)] := hD
    refine lv_aload_n hx hb dX12_hill_68 rfl (lv_at hl 0 rfl) ?_
    refine lv_iconst (v := 0) hx hb dX12_hill_69 (by decide) ?_
    refine va_put (D := (dC, dI)) (ci := 14) (v := .int 0) (ty := .int) (C := RX12) (T := TX12) (N := 23) hx hb hts kc_mHill_0 tyX12 tyX12_ok nmX12 hown hK hP hD hS 0 rfl rfl 5 (by decide) (hts (.fieldLink RX12 59 "MistHeapsModel" "spot" "I") kc_mHill_4) (fun _ h9 => h9) rfl (by decide +kernel) rfl rfl (Nat.le_of_ble_eq_true rfl) dX12_hill_70 (fun H locs hP hD hS => ?_)
    have hP : va_P (dC, dI) vwCl [(zo14irriiiiiirriirrrrlriiii m0 th aS aI im (nI nl) 0 (nI tp) wg op aB aT se dn aG aO aN aD bv aY rn kd nu tv), (zaI aS cS 901 f0)] H := hP
    have hD : va_D A [(zo14irriiiiiirriirrrrlriiii m0 th aS aI im (nI nl) 0 (nI tp) wg op aB aT se dn aG aO aN aD bv aY rn kd nu tv), (zaI aS cS 901 f0)] := hD
    refine lv_aload_n hx hb dX12_hill_73 rfl (lv_at hl 0 rfl) ?_
    refine lv_iconst (v := 0) hx hb dX12_hill_74 (by decide) ?_
    refine va_put (D := (dC, dI)) (ci := 14) (v := .int 0) (ty := .boolean) (C := RX12) (T := TX12) (N := 23) hx hb hts kc_mHill_0 tyX12 tyX12_ok nmX12 hown hK hP hD hS 0 rfl rfl 7 (by decide) (hts (.fieldLink RX12 65 "MistHeapsModel" "isWrong" "Z") kc_mHill_5) (fun _ h9 => h9) rfl (by decide +kernel) rfl rfl (Nat.le_of_ble_eq_true rfl) dX12_hill_75 (fun H locs hP hD hS => ?_)
    have hP : va_P (dC, dI) vwCl [(zo14irriiiiiirriirrrrlriiii m0 th aS aI im (nI nl) 0 (nI tp) 0 op aB aT se dn aG aO aN aD bv aY rn kd nu tv), (zaI aS cS 901 f0)] H := hP
    have hD : va_D A [(zo14irriiiiiirriirrrrlriiii m0 th aS aI im (nI nl) 0 (nI tp) 0 op aB aT se dn aG aO aN aD bv aY rn kd nu tv), (zaI aS cS 901 f0)] := hD
    refine lv_aload_n hx hb dX12_hill_78 rfl (lv_at hl 0 rfl) ?_
    refine lv_iconst (v := 0) hx hb dX12_hill_79 (by decide) ?_
    refine va_put (D := (dC, dI)) (ci := 14) (v := .int 0) (ty := .int) (C := RX12) (T := TX12) (N := 23) hx hb hts kc_mHill_0 tyX12 tyX12_ok nmX12 hown hK hP hD hS 0 rfl rfl 8 (by decide) (hts (.fieldLink RX12 89 "MistHeapsModel" "open" "I") kc_mHill_6) (fun _ h9 => h9) rfl (by decide +kernel) rfl rfl (Nat.le_of_ble_eq_true rfl) dX12_hill_80 (fun H locs hP hD hS => ?_)
    have hP : va_P (dC, dI) vwCl [(zo14irriiiiiirriirrrrlriiii m0 th aS aI im (nI nl) 0 (nI tp) 0 0 aB aT se dn aG aO aN aD bv aY rn kd nu tv), (zaI aS cS 901 f0)] H := hP
    have hD : va_D A [(zo14irriiiiiirriirrrrlriiii m0 th aS aI im (nI nl) 0 (nI tp) 0 0 aB aT se dn aG aO aN aD bv aY rn kd nu tv), (zaI aS cS 901 f0)] := hD
    refine lv_iconst (v := 1) hx hb dX12_hill_83 (by decide) ?_
    refine lv_istore_n (lv' := [(1, .int 1), (0, .ref m0)]) hx hb dX12_hill_84 rfl hl (by decide) rfl (fun ls hl => ?_)
    refine lv_aload_n hx hb dX12_hill_85 rfl (lv_at hl 1 rfl) ?_
    have hPc := hP.sub (ws' := [(zo14irriiiiiirriirrrrlriiii m0 th aS aI im (nI nl) 0 (nI tp) 0 0 aB aT se dn aG aO aN aD bv aY rn kd nu tv), (zaI aS cS 901 f0)]) [0, 1] rfl
    have hDc := hD.sub (ws' := [(zo14irriiiiiirriirrrrlriiii m0 th aS aI im (nI nl) 0 (nI tp) 0 0 aB aT se dn aG aO aN aD bv aY rn kd nu tv), (zaI aS cS 901 f0)]) [0, 1] (by decide) rfl
    have hKc := hK.sub (tys' := [(cS, .int)]) [0] rfl
    have hFc := va_free (wc := [(zo14irriiiiiirriirrrrlriiii m0 th aS aI im (nI nl) 0 (nI tp) 0 0 aB aT se dn aG aO aN aD bv aY rn kd nu tv), (zaI aS cS 901 f0)]) hD hS hA [0, 1] rfl
    refine va_callv (va_runV (As := []) (rest := []) ⟨hx, hb, hml, hown, hts⟩ (c_clauseHere l dC dI sK sV m0 aS aI aB aT aG aO aN aD aY th im (nI nl) 0 (nI tp) 0 0 se dn rn kd nu tv bv cS f0 nl 0 tp 0 H.size (by omega) (by omega) (by omega) ((hI0).mono (by omega) (by omega))) (cwV 0 hts gX12_hill_X12_clauseHere rfl rfl rfl hd_yX12_clauseHere ⟨Nat.le_of_ble_eq_true rfl, Nat.le_of_ble_eq_true rfl⟩) ⟨fun a U g mk q => by obtain ⟨q0, q1, qP, qK, qD, qhE⟩ := q; exact ⟨q0, q1, qP, va_K.moved (u := U) (U := U.calling g mk a) (Vm.Alike.refl U.vm) qK, qD, qhE.same rfl rfl⟩, va_recv hK hP (ci := 14) (q := (RX12, TX12, 23)) (q0 := 0) rfl rfl, fun U hU hW => ⟨rfl, by rw [hU], by rw [hU]; exact hPc, va_K.moved hW.alike hKc, hDc.weaken (fun _ _ _ _ => trivial), hE.call hS hU hW (fun q h => hFc q h)⟩⟩ rfl rfl hl.1 rfl (lv_room (Nat.le_of_ble_eq_true rfl)) dX12_hill_86 ⟨Nat.le_of_ble_eq_true rfl, Nat.le_of_ble_eq_true rfl⟩) hS (fun q _ h => hFc q h) hFc (fun u tC H1 locs htC hvm hw_3 hB hz1 hk1 hS => ?_)
    obtain ⟨fS9_4, sp9_5, wg9_6⟩ := u
    try dsimp only at hw_3 hB
    obtain ⟨hP1, hK1, hD1⟩ := hB
    rw [htC] at hP1
    have hK1 := va_K.moved hvm.symm hK1
    obtain ⟨hP, hD⟩ := va_join (wr := []) (w1 := [(zo14irriiiiiirriirrrrlriiii m0 th aS aI im (nI nl) sp9_5 (nI tp) wg9_6 0 aB aT se dn aG aO aN aD bv aY rn kd nu tv), (zaI aS cS 901 fS9_4)]) hP hD [0, 1] [] rfl rfl (by decide) (by decide) hk1 hFc hP1 hD1
    have hK := (hK.sub (tys' := []) [] rfl).app hK1
    generalize H1 = H at hP hS ⊢
    have hP : va_P (dC, dI) vwCl [(zo14irriiiiiirriirrrrlriiii m0 th aS aI im (nI nl) sp9_5 (nI tp) wg9_6 0 aB aT se dn aG aO aN aD bv aY rn kd nu tv), (zaI aS cS 901 fS9_4)] H := hP
    have hD : va_D A [(zo14irriiiiiirriirrrrlriiii m0 th aS aI im (nI nl) sp9_5 (nI tp) wg9_6 0 aB aT se dn aG aO aN aD bv aY rn kd nu tv), (zaI aS cS 901 fS9_4)] := hD
    have hK : va_K (dC, dI) vwCl [(cS, .int)] s := hK
    obtain ⟨p_7, k_8, rfl, h_9, h_10, hF_11, q9⟩ := hw_3
    rcases q9 with rfl | ⟨rfl, hI_12⟩
    · skip
      have L89 : ∀ (nF : Nat) (n1 : Nat) (p1 : Nat) (k1 : Nat) (w1 : Int32) (f1 : Nat → Int32), tp - p1 < nF → (n1 ≤ 10) → (p1 ≤ tp) → (PF nl f0 f1) → (w1 = 1 ∨ (w1 = 0 ∧ PI f1 nl k1 0 p1 tp)) → ∀ (H : Heap) (locs : List Loc), va_K (dC, dI) vwCl [(cS, .int)] s → va_P (dC, dI) vwCl [(zo14irriiiiiirriirrrrlriiii m0 th aS aI im (nI nl) (nI p1) (nI tp) w1 0 aB aT se dn aG aO aN aD bv aY rn kd nu tv), (zaI aS cS 901 f1)] H → va_D A [(zo14irriiiiiirriirrrrlriiii m0 th aS aI im (nI nl) (nI p1) (nI tp) w1 0 aB aT se dn aG aO aN aD bv aY rn kd nu tv), (zaI aS cS 901 f1)] → va_S A s.heap H locs → ∀ (ls : Array Slot), lv_has ls 2 [(0, .ref m0), (1, .int (nI n1))] → W p l e ({ frames := 26, cells := 0, slots := 0, locals := 555 } : Room) s m args below meth c H locs 0 0 Q (F0 m 89 ls []) := by
        intro nF
        induction nF with
        | zero => intro n1 p1 k1 w1 f1 hm; exact absurd hm (Nat.not_lt_zero _)
        | succ nF ih89 =>
          intro n1 p1 k1 w1 f1 hm hn1 h1 hF hw1 H locs hK hP hD hS ls hl
          rcases hw1 with rfl | ⟨rfl, hI⟩
          · skip
            refine lv_aload_n hx hb dX12_hill_89 rfl (lv_at hl 0 rfl) ?_
            refine va_get (D := (dC, dI)) (ci := 14) (v := .int 1) (C := RX12) (T := TX12) (N := 23) hx hb hts kc_mHill_0 hown hK hP 0 rfl rfl 7 (by decide) (hts (.fieldLink RX12 65 "MistHeapsModel" "isWrong" "Z") kc_mHill_5) (fun _ h9 => h9) rfl dX12_hill_90 ?_
            refine lv_if_ne (tgt := 131) hx hb dX12_hill_93 (by decide) (fun _ => ?_) (fun c_13 => absurd c_13 (by decide))
            refine lv_aload_n hx hb dX12_hill_131 rfl (lv_at hl 0 rfl) ?_
            refine va_get (D := (dC, dI)) (ci := 14) (v := .int 1) (C := RX12) (T := TX12) (N := 23) hx hb hts kc_mHill_0 hown hK hP 0 rfl rfl 7 (by decide) (hts (.fieldLink RX12 65 "MistHeapsModel" "isWrong" "Z") kc_mHill_5) (fun _ h9 => h9) rfl dX12_hill_132 ?_
            refine lv_if_ne (tgt := 149) hx hb dX12_hill_135 (by decide) (fun _ => ?_) (fun c_14 => absurd c_14 (by decide))
            refine lv_bipush (v := (-10)) hx hb dX12_hill_149 (by decide) ?_
            refine lv_aload_n hx hb dX12_hill_151 rfl (lv_at hl 0 rfl) ?_
            refine va_get (D := (dC, dI)) (ci := 14) (v := .int (nI p1)) (C := RX12) (T := TX12) (N := 23) hx hb hts kc_mHill_0 hown hK hP 0 rfl rfl 5 (by decide) (hts (.fieldLink RX12 59 "MistHeapsModel" "spot" "I") kc_mHill_4) (fun _ h9 => h9) rfl dX12_hill_152 ?_
            refine lv_isub hx hb dX12_hill_155 ?_
            rw [hQ]
            have hP9 := hP.sub (ws' := [(zo14irriiiiiirriirrrrlriiii m0 th aS aI im (nI nl) (nI p1) (nI tp) 1 0 aB aT se dn aG aO aN aD bv aY rn kd nu tv), (zaI aS cS 901 f1)]) [0, 1] rfl
            have hD9 := hD.sub (ws' := [(zo14irriiiiiirriirrrrlriiii m0 th aS aI im (nI nl) (nI p1) (nI tp) 1 0 aB aT se dn aG aO aN aD bv aY rn kd nu tv), (zaI aS cS 901 f1)]) [0, 1] (by decide) rfl
            have hK9 := hK.sub (tys' := [(cS, .int)]) [0] rfl
            exact W.iret (v := (-10) - (nI p1)) hx hb hr (fun tQ htQ hWQ => ⟨⟨((-10) - (nI p1)), (f1, (nI nl), (nI p1), (nI tp), 1, 0), rfl, HQ_bad (by omega) z1 hHd z0 hF0 hF, by rw [htQ]; exact hP9, va_K.moved hWQ.alike hK9, hD9⟩, hS.F htQ⟩) hS.2.2 dX12_hill_156
          · skip
            refine lv_aload_n hx hb dX12_hill_89 rfl (lv_at hl 0 rfl) ?_
            refine va_get (D := (dC, dI)) (ci := 14) (v := .int 0) (C := RX12) (T := TX12) (N := 23) hx hb hts kc_mHill_0 hown hK hP 0 rfl rfl 7 (by decide) (hts (.fieldLink RX12 65 "MistHeapsModel" "isWrong" "Z") kc_mHill_5) (fun _ h9 => h9) rfl dX12_hill_90 ?_
            refine lv_if_ne (tgt := 131) hx hb dX12_hill_93 (by decide) (fun c_15 => absurd c_15 (by decide)) (fun _ => ?_)
            refine lv_iload_n hx hb dX12_hill_96 rfl (lv_at hl 1 rfl) ?_
            refine lv_bipush (v := 10) hx hb dX12_hill_97 (by decide) ?_
            refine lv_icmp_ge (tgt := 131) hx hb dX12_hill_99 (by decide) (fun c_16 => ?_) (fun c_16 => ?_)
            · skip
              have c_16 : 10 ≤ n1 := (nI_leI (a := 10) (b := n1) (by omega) (by omega)).mp c_16
              refine lv_aload_n hx hb dX12_hill_131 rfl (lv_at hl 0 rfl) ?_
              refine va_get (D := (dC, dI)) (ci := 14) (v := .int 0) (C := RX12) (T := TX12) (N := 23) hx hb hts kc_mHill_0 hown hK hP 0 rfl rfl 7 (by decide) (hts (.fieldLink RX12 65 "MistHeapsModel" "isWrong" "Z") kc_mHill_5) (fun _ h9 => h9) rfl dX12_hill_132 ?_
              refine lv_if_ne (tgt := 149) hx hb dX12_hill_135 (by decide) (fun c_17 => absurd c_17 (by decide)) (fun _ => ?_)
              refine lv_aload_n hx hb dX12_hill_138 rfl (lv_at hl 0 rfl) ?_
              refine va_get (D := (dC, dI)) (ci := 14) (v := .int (nI p1)) (C := RX12) (T := TX12) (N := 23) hx hb hts kc_mHill_0 hown hK hP 0 rfl rfl 5 (by decide) (hts (.fieldLink RX12 59 "MistHeapsModel" "spot" "I") kc_mHill_4) (fun _ h9 => h9) rfl dX12_hill_139 ?_
              refine lv_aload_n hx hb dX12_hill_142 rfl (lv_at hl 0 rfl) ?_
              refine va_get (D := (dC, dI)) (ci := 14) (v := .int (nI tp)) (C := RX12) (T := TX12) (N := 23) hx hb hts kc_mHill_0 hown hK hP 0 rfl rfl 6 (by decide) (hts (.fieldLink RX12 62 "MistHeapsModel" "end" "I") kc_mHill_3) (fun _ h9 => h9) rfl dX12_hill_143 ?_
              refine lv_icmp_eq (tgt := 157) hx hb dX12_hill_146 (by decide) (fun c_18 => ?_) (fun c_18 => ?_)
              · skip
                have c_18 : p1 = tp := (nI_eq (a := p1) (b := tp) (by omega) (by omega)).mp c_18
                refine lv_aload_n hx hb dX12_hill_157 rfl (lv_at hl 0 rfl) ?_
                refine va_get (D := (dC, dI)) (ci := 14) (v := .ref aS) (C := RX12) (T := TX12) (N := 23) hx hb hts kc_mHill_0 hown hK hP 0 rfl rfl 1 (by decide) (hts (.fieldLink RX12 9 "MistHeapsModel" "s" "[I") kc_mHill_1) (fun _ h9 => h9) rfl dX12_hill_158 ?_
                refine lv_iconst (v := 1) hx hb dX12_hill_161 (by decide) ?_
                refine lv_dup2_11 hx hb dX12_hill_162 rfl rfl ?_
                refine va_iald hx hb hK hP 1 0 rfl rfl (vp_in_nI (n := 1) (N := 901) (by omega) (by omega)) dX12_hill_163 ?_
                refine qi_as (y := nI nl) ((show f1 (1 : Int32).toNatClampNeg = f1 1 from rfl).trans ((hF 1 (by omega) (by omega) (by omega)).trans ((hF0 1 (by omega) (by omega) (by omega)).trans z1))) ?_
                refine lv_iconst (v := 1) hx hb dX12_hill_164 (by decide) ?_
                refine lv_iadd hx hb dX12_hill_165 ?_
                refine qi_as (y := nI (nl + 1)) (nI_add nl 1) ?_
                refine va_iast hx hb hK hP hD hS 1 0 rfl rfl (vp_in_nI (n := 1) (N := 901) (by omega) (by omega)) dX12_hill_166 (fun H locs hP hD hS => ?_)
                have hP : va_P (dC, dI) vwCl [(zo14irriiiiiirriirrrrlriiii m0 th aS aI im (nI nl) (nI p1) (nI tp) 0 0 aB aT se dn aG aO aN aD bv aY rn kd nu tv), (zaI aS cS 901 (upd f1 1 (nI (nl + 1))))] H := hP
                have hD : va_D A [(zo14irriiiiiirriirrrrlriiii m0 th aS aI im (nI nl) (nI p1) (nI tp) 0 0 aB aT se dn aG aO aN aD bv aY rn kd nu tv), (zaI aS cS 901 (upd f1 1 (nI (nl + 1))))] := hD
                refine lv_aload_n hx hb dX12_hill_167 rfl (lv_at hl 0 rfl) ?_
                refine va_get (D := (dC, dI)) (ci := 14) (v := .ref aS) (C := RX12) (T := TX12) (N := 23) hx hb hts kc_mHill_0 hown hK hP 0 rfl rfl 1 (by decide) (hts (.fieldLink RX12 9 "MistHeapsModel" "s" "[I") kc_mHill_1) (fun _ h9 => h9) rfl dX12_hill_168 ?_
                refine lv_iconst (v := 5) hx hb dX12_hill_171 (by decide) ?_
                refine lv_aload_n hx hb dX12_hill_172 rfl (lv_at hl 0 rfl) ?_
                refine va_get (D := (dC, dI)) (ci := 14) (v := .int (nI nl)) (C := RX12) (T := TX12) (N := 23) hx hb hts kc_mHill_0 hown hK hP 0 rfl rfl 4 (by decide) (hts (.fieldLink RX12 86 "MistHeapsModel" "act" "I") kc_mHill_2) (fun _ h9 => h9) rfl dX12_hill_173 ?_
                refine va_iast hx hb hK hP hD hS 1 0 rfl rfl (vp_in_nI (n := 5) (N := 901) (by omega) (by omega)) dX12_hill_176 (fun H locs hP hD hS => ?_)
                have hP : va_P (dC, dI) vwCl [(zo14irriiiiiirriirrrrlriiii m0 th aS aI im (nI nl) (nI p1) (nI tp) 0 0 aB aT se dn aG aO aN aD bv aY rn kd nu tv), (zaI aS cS 901 (upd (upd f1 1 (nI (nl + 1))) 5 (nI nl)))] H := hP
                have hD : va_D A [(zo14irriiiiiirriirrrrlriiii m0 th aS aI im (nI nl) (nI p1) (nI tp) 0 0 aB aT se dn aG aO aN aD bv aY rn kd nu tv), (zaI aS cS 901 (upd (upd f1 1 (nI (nl + 1))) 5 (nI nl)))] := hD
                refine lv_aload_n hx hb dX12_hill_177 rfl (lv_at hl 0 rfl) ?_
                refine va_get (D := (dC, dI)) (ci := 14) (v := .int (nI nl)) (C := RX12) (T := TX12) (N := 23) hx hb hts kc_mHill_0 hown hK hP 0 rfl rfl 4 (by decide) (hts (.fieldLink RX12 86 "MistHeapsModel" "act" "I") kc_mHill_2) (fun _ h9 => h9) rfl dX12_hill_178 ?_
                rw [hQ]
                have hP9 := hP.sub (ws' := [(zo14irriiiiiirriirrrrlriiii m0 th aS aI im (nI nl) (nI p1) (nI tp) 0 0 aB aT se dn aG aO aN aD bv aY rn kd nu tv), (zaI aS cS 901 (upd (upd f1 1 (nI (nl + 1))) 5 (nI nl)))]) [0, 1] rfl
                have hD9 := hD.sub (ws' := [(zo14irriiiiiirriirrrrlriiii m0 th aS aI im (nI nl) (nI p1) (nI tp) 0 0 aB aT se dn aG aO aN aD bv aY rn kd nu tv), (zaI aS cS 901 (upd (upd f1 1 (nI (nl + 1))) 5 (nI nl)))]) [0, 1] (by decide) rfl
                have hK9 := hK.sub (tys' := [(cS, .int)]) [0] rfl
                exact W.iret (v := nI nl) hx hb hr (fun tQ htQ hWQ => ⟨⟨(nI nl), ((upd (upd f1 1 (nI (nl + 1))) 5 (nI nl)), (nI nl), (nI p1), (nI tp), 0, 0), rfl, HQ_good (by omega) z0 hF0 hF hI, by rw [htQ]; exact hP9, va_K.moved hWQ.alike hK9, hD9⟩, hS.F htQ⟩) hS.2.2 dX12_hill_181
              · skip
                have c_18 : ¬ p1 = tp := fun q => c_18 ((nI_eq (a := p1) (b := tp) (by omega) (by omega)).mpr q)
                refine lv_bipush (v := (-10)) hx hb dX12_hill_149 (by decide) ?_
                refine lv_aload_n hx hb dX12_hill_151 rfl (lv_at hl 0 rfl) ?_
                refine va_get (D := (dC, dI)) (ci := 14) (v := .int (nI p1)) (C := RX12) (T := TX12) (N := 23) hx hb hts kc_mHill_0 hown hK hP 0 rfl rfl 5 (by decide) (hts (.fieldLink RX12 59 "MistHeapsModel" "spot" "I") kc_mHill_4) (fun _ h9 => h9) rfl dX12_hill_152 ?_
                refine lv_isub hx hb dX12_hill_155 ?_
                rw [hQ]
                have hP9 := hP.sub (ws' := [(zo14irriiiiiirriirrrrlriiii m0 th aS aI im (nI nl) (nI p1) (nI tp) 0 0 aB aT se dn aG aO aN aD bv aY rn kd nu tv), (zaI aS cS 901 f1)]) [0, 1] rfl
                have hD9 := hD.sub (ws' := [(zo14irriiiiiirriirrrrlriiii m0 th aS aI im (nI nl) (nI p1) (nI tp) 0 0 aB aT se dn aG aO aN aD bv aY rn kd nu tv), (zaI aS cS 901 f1)]) [0, 1] (by decide) rfl
                have hK9 := hK.sub (tys' := [(cS, .int)]) [0] rfl
                exact W.iret (v := (-10) - (nI p1)) hx hb hr (fun tQ htQ hWQ => ⟨⟨((-10) - (nI p1)), (f1, (nI nl), (nI p1), (nI tp), 0, 0), rfl, HQ_bad (by omega) z1 hHd z0 hF0 hF, by rw [htQ]; exact hP9, va_K.moved hWQ.alike hK9, hD9⟩, hS.F htQ⟩) hS.2.2 dX12_hill_156
            · skip
              have c_16 : ¬ 10 ≤ n1 := fun q => c_16 ((nI_leI (a := 10) (b := n1) (by omega) (by omega)).mpr q)
              refine lv_aload_n hx hb dX12_hill_102 rfl (lv_at hl 0 rfl) ?_
              have hPc := hP.sub (ws' := [(zo14irriiiiiirriirrrrlriiii m0 th aS aI im (nI nl) (nI p1) (nI tp) 0 0 aB aT se dn aG aO aN aD bv aY rn kd nu tv), (zaI aS cS 901 f1)]) [0, 1] rfl
              have hKc := hK.sub (tys' := [(cS, .int)]) [0] rfl
              refine vp_callSi (va_runV (As := []) (rest := []) ⟨hx, hb, hml, hown, hts⟩ (c_here l dC dI m0 aS aI aB aT aG aO aN aD aY th im (nI nl) (nI p1) (nI tp) 0 0 se dn rn kd nu tv bv cS f1 nl p1 tp (by omega) (by omega) (by omega)) (cwV 0 hts gX12_hill_X12_here rfl rfl rfl hd_yX12_here ⟨Nat.le_of_ble_eq_true rfl, Nat.le_of_ble_eq_true rfl⟩) ⟨fun a U g mk q => by obtain ⟨q0, qP, qK⟩ := q; exact ⟨q0, qP, va_K.moved (u := U) (U := U.calling g mk a) (Vm.Alike.refl U.vm) qK⟩, va_recv hK hP (ci := 14) (q := (RX12, TX12, 23)) (q0 := 0) rfl rfl, fun U hU hW => ⟨rfl, by rw [hU]; exact hPc, va_K.moved hW.alike hKc⟩⟩ rfl rfl hl.1 rfl (lv_room (Nat.le_of_ble_eq_true rfl)) dX12_hill_103 ⟨Nat.le_of_ble_eq_true rfl, Nat.le_of_ble_eq_true rfl⟩).run (fun r_19 hw_20 => ?_)
              refine lv_bipush (v := 59) hx hb dX12_hill_106 (by decide) ?_
              refine lv_icmp_ne (tgt := 131) hx hb dX12_hill_108 (by decide) (fun c_21 => ?_) (fun c_21 => ?_)
              · skip
                refine lv_aload_n hx hb dX12_hill_131 rfl (lv_at hl 0 rfl) ?_
                refine va_get (D := (dC, dI)) (ci := 14) (v := .int 0) (C := RX12) (T := TX12) (N := 23) hx hb hts kc_mHill_0 hown hK hP 0 rfl rfl 7 (by decide) (hts (.fieldLink RX12 65 "MistHeapsModel" "isWrong" "Z") kc_mHill_5) (fun _ h9 => h9) rfl dX12_hill_132 ?_
                refine lv_if_ne (tgt := 149) hx hb dX12_hill_135 (by decide) (fun c_22 => absurd c_22 (by decide)) (fun _ => ?_)
                refine lv_aload_n hx hb dX12_hill_138 rfl (lv_at hl 0 rfl) ?_
                refine va_get (D := (dC, dI)) (ci := 14) (v := .int (nI p1)) (C := RX12) (T := TX12) (N := 23) hx hb hts kc_mHill_0 hown hK hP 0 rfl rfl 5 (by decide) (hts (.fieldLink RX12 59 "MistHeapsModel" "spot" "I") kc_mHill_4) (fun _ h9 => h9) rfl dX12_hill_139 ?_
                refine lv_aload_n hx hb dX12_hill_142 rfl (lv_at hl 0 rfl) ?_
                refine va_get (D := (dC, dI)) (ci := 14) (v := .int (nI tp)) (C := RX12) (T := TX12) (N := 23) hx hb hts kc_mHill_0 hown hK hP 0 rfl rfl 6 (by decide) (hts (.fieldLink RX12 62 "MistHeapsModel" "end" "I") kc_mHill_3) (fun _ h9 => h9) rfl dX12_hill_143 ?_
                refine lv_icmp_eq (tgt := 157) hx hb dX12_hill_146 (by decide) (fun c_23 => ?_) (fun c_23 => ?_)
                · skip
                  have c_23 : p1 = tp := (nI_eq (a := p1) (b := tp) (by omega) (by omega)).mp c_23
                  refine lv_aload_n hx hb dX12_hill_157 rfl (lv_at hl 0 rfl) ?_
                  refine va_get (D := (dC, dI)) (ci := 14) (v := .ref aS) (C := RX12) (T := TX12) (N := 23) hx hb hts kc_mHill_0 hown hK hP 0 rfl rfl 1 (by decide) (hts (.fieldLink RX12 9 "MistHeapsModel" "s" "[I") kc_mHill_1) (fun _ h9 => h9) rfl dX12_hill_158 ?_
                  refine lv_iconst (v := 1) hx hb dX12_hill_161 (by decide) ?_
                  refine lv_dup2_11 hx hb dX12_hill_162 rfl rfl ?_
                  refine va_iald hx hb hK hP 1 0 rfl rfl (vp_in_nI (n := 1) (N := 901) (by omega) (by omega)) dX12_hill_163 ?_
                  refine qi_as (y := nI nl) ((show f1 (1 : Int32).toNatClampNeg = f1 1 from rfl).trans ((hF 1 (by omega) (by omega) (by omega)).trans ((hF0 1 (by omega) (by omega) (by omega)).trans z1))) ?_
                  refine lv_iconst (v := 1) hx hb dX12_hill_164 (by decide) ?_
                  refine lv_iadd hx hb dX12_hill_165 ?_
                  refine qi_as (y := nI (nl + 1)) (nI_add nl 1) ?_
                  refine va_iast hx hb hK hP hD hS 1 0 rfl rfl (vp_in_nI (n := 1) (N := 901) (by omega) (by omega)) dX12_hill_166 (fun H locs hP hD hS => ?_)
                  have hP : va_P (dC, dI) vwCl [(zo14irriiiiiirriirrrrlriiii m0 th aS aI im (nI nl) (nI p1) (nI tp) 0 0 aB aT se dn aG aO aN aD bv aY rn kd nu tv), (zaI aS cS 901 (upd f1 1 (nI (nl + 1))))] H := hP
                  have hD : va_D A [(zo14irriiiiiirriirrrrlriiii m0 th aS aI im (nI nl) (nI p1) (nI tp) 0 0 aB aT se dn aG aO aN aD bv aY rn kd nu tv), (zaI aS cS 901 (upd f1 1 (nI (nl + 1))))] := hD
                  refine lv_aload_n hx hb dX12_hill_167 rfl (lv_at hl 0 rfl) ?_
                  refine va_get (D := (dC, dI)) (ci := 14) (v := .ref aS) (C := RX12) (T := TX12) (N := 23) hx hb hts kc_mHill_0 hown hK hP 0 rfl rfl 1 (by decide) (hts (.fieldLink RX12 9 "MistHeapsModel" "s" "[I") kc_mHill_1) (fun _ h9 => h9) rfl dX12_hill_168 ?_
                  refine lv_iconst (v := 5) hx hb dX12_hill_171 (by decide) ?_
                  refine lv_aload_n hx hb dX12_hill_172 rfl (lv_at hl 0 rfl) ?_
                  refine va_get (D := (dC, dI)) (ci := 14) (v := .int (nI nl)) (C := RX12) (T := TX12) (N := 23) hx hb hts kc_mHill_0 hown hK hP 0 rfl rfl 4 (by decide) (hts (.fieldLink RX12 86 "MistHeapsModel" "act" "I") kc_mHill_2) (fun _ h9 => h9) rfl dX12_hill_173 ?_
                  refine va_iast hx hb hK hP hD hS 1 0 rfl rfl (vp_in_nI (n := 5) (N := 901) (by omega) (by omega)) dX12_hill_176 (fun H locs hP hD hS => ?_)
                  have hP : va_P (dC, dI) vwCl [(zo14irriiiiiirriirrrrlriiii m0 th aS aI im (nI nl) (nI p1) (nI tp) 0 0 aB aT se dn aG aO aN aD bv aY rn kd nu tv), (zaI aS cS 901 (upd (upd f1 1 (nI (nl + 1))) 5 (nI nl)))] H := hP
                  have hD : va_D A [(zo14irriiiiiirriirrrrlriiii m0 th aS aI im (nI nl) (nI p1) (nI tp) 0 0 aB aT se dn aG aO aN aD bv aY rn kd nu tv), (zaI aS cS 901 (upd (upd f1 1 (nI (nl + 1))) 5 (nI nl)))] := hD
                  refine lv_aload_n hx hb dX12_hill_177 rfl (lv_at hl 0 rfl) ?_
                  refine va_get (D := (dC, dI)) (ci := 14) (v := .int (nI nl)) (C := RX12) (T := TX12) (N := 23) hx hb hts kc_mHill_0 hown hK hP 0 rfl rfl 4 (by decide) (hts (.fieldLink RX12 86 "MistHeapsModel" "act" "I") kc_mHill_2) (fun _ h9 => h9) rfl dX12_hill_178 ?_
                  rw [hQ]
                  have hP9 := hP.sub (ws' := [(zo14irriiiiiirriirrrrlriiii m0 th aS aI im (nI nl) (nI p1) (nI tp) 0 0 aB aT se dn aG aO aN aD bv aY rn kd nu tv), (zaI aS cS 901 (upd (upd f1 1 (nI (nl + 1))) 5 (nI nl)))]) [0, 1] rfl
                  have hD9 := hD.sub (ws' := [(zo14irriiiiiirriirrrrlriiii m0 th aS aI im (nI nl) (nI p1) (nI tp) 0 0 aB aT se dn aG aO aN aD bv aY rn kd nu tv), (zaI aS cS 901 (upd (upd f1 1 (nI (nl + 1))) 5 (nI nl)))]) [0, 1] (by decide) rfl
                  have hK9 := hK.sub (tys' := [(cS, .int)]) [0] rfl
                  exact W.iret (v := nI nl) hx hb hr (fun tQ htQ hWQ => ⟨⟨(nI nl), ((upd (upd f1 1 (nI (nl + 1))) 5 (nI nl)), (nI nl), (nI p1), (nI tp), 0, 0), rfl, HQ_good (by omega) z0 hF0 hF hI, by rw [htQ]; exact hP9, va_K.moved hWQ.alike hK9, hD9⟩, hS.F htQ⟩) hS.2.2 dX12_hill_181
                · skip
                  have c_23 : ¬ p1 = tp := fun q => c_23 ((nI_eq (a := p1) (b := tp) (by omega) (by omega)).mpr q)
                  refine lv_bipush (v := (-10)) hx hb dX12_hill_149 (by decide) ?_
                  refine lv_aload_n hx hb dX12_hill_151 rfl (lv_at hl 0 rfl) ?_
                  refine va_get (D := (dC, dI)) (ci := 14) (v := .int (nI p1)) (C := RX12) (T := TX12) (N := 23) hx hb hts kc_mHill_0 hown hK hP 0 rfl rfl 5 (by decide) (hts (.fieldLink RX12 59 "MistHeapsModel" "spot" "I") kc_mHill_4) (fun _ h9 => h9) rfl dX12_hill_152 ?_
                  refine lv_isub hx hb dX12_hill_155 ?_
                  rw [hQ]
                  have hP9 := hP.sub (ws' := [(zo14irriiiiiirriirrrrlriiii m0 th aS aI im (nI nl) (nI p1) (nI tp) 0 0 aB aT se dn aG aO aN aD bv aY rn kd nu tv), (zaI aS cS 901 f1)]) [0, 1] rfl
                  have hD9 := hD.sub (ws' := [(zo14irriiiiiirriirrrrlriiii m0 th aS aI im (nI nl) (nI p1) (nI tp) 0 0 aB aT se dn aG aO aN aD bv aY rn kd nu tv), (zaI aS cS 901 f1)]) [0, 1] (by decide) rfl
                  have hK9 := hK.sub (tys' := [(cS, .int)]) [0] rfl
                  exact W.iret (v := (-10) - (nI p1)) hx hb hr (fun tQ htQ hWQ => ⟨⟨((-10) - (nI p1)), (f1, (nI nl), (nI p1), (nI tp), 0, 0), rfl, HQ_bad (by omega) z1 hHd z0 hF0 hF, by rw [htQ]; exact hP9, va_K.moved hWQ.alike hK9, hD9⟩, hS.F htQ⟩) hS.2.2 dX12_hill_156
              · skip
                have hlt : p1 < tp := hv_lt (f := f1) (by rw [← hw_20, c_21]; decide)
                refine lv_aload_n hx hb dX12_hill_111 rfl (lv_at hl 0 rfl) ?_
                refine lv_dup hx hb dX12_hill_112 rfl ?_
                refine va_get (D := (dC, dI)) (ci := 14) (v := .int (nI p1)) (C := RX12) (T := TX12) (N := 23) hx hb hts kc_mHill_0 hown hK hP 0 rfl rfl 5 (by decide) (hts (.fieldLink RX12 59 "MistHeapsModel" "spot" "I") kc_mHill_4) (fun _ h9 => h9) rfl dX12_hill_113 ?_
                refine lv_iconst (v := 1) hx hb dX12_hill_116 (by decide) ?_
                refine lv_iadd hx hb dX12_hill_117 ?_
                refine qi_as (y := nI (p1 + 1)) (nI_add p1 1) ?_
                refine va_put (D := (dC, dI)) (ci := 14) (v := .int (nI (p1 + 1))) (ty := .int) (C := RX12) (T := TX12) (N := 23) hx hb hts kc_mHill_0 tyX12 tyX12_ok nmX12 hown hK hP hD hS 0 rfl rfl 5 (by decide) (hts (.fieldLink RX12 59 "MistHeapsModel" "spot" "I") kc_mHill_4) (fun _ h9 => h9) rfl (by decide +kernel) rfl rfl (Nat.le_of_ble_eq_true rfl) dX12_hill_118 (fun H locs hP hD hS => ?_)
                have hP : va_P (dC, dI) vwCl [(zo14irriiiiiirriirrrrlriiii m0 th aS aI im (nI nl) (nI (p1 + 1)) (nI tp) 0 0 aB aT se dn aG aO aN aD bv aY rn kd nu tv), (zaI aS cS 901 f1)] H := hP
                have hD : va_D A [(zo14irriiiiiirriirrrrlriiii m0 th aS aI im (nI nl) (nI (p1 + 1)) (nI tp) 0 0 aB aT se dn aG aO aN aD bv aY rn kd nu tv), (zaI aS cS 901 f1)] := hD
                refine lv_aload_n hx hb dX12_hill_121 rfl (lv_at hl 0 rfl) ?_
                have hPc := hP.sub (ws' := [(zo14irriiiiiirriirrrrlriiii m0 th aS aI im (nI nl) (nI (p1 + 1)) (nI tp) 0 0 aB aT se dn aG aO aN aD bv aY rn kd nu tv), (zaI aS cS 901 f1)]) [0, 1] rfl
                have hDc := hD.sub (ws' := [(zo14irriiiiiirriirrrrlriiii m0 th aS aI im (nI nl) (nI (p1 + 1)) (nI tp) 0 0 aB aT se dn aG aO aN aD bv aY rn kd nu tv), (zaI aS cS 901 f1)]) [0, 1] (by decide) rfl
                have hKc := hK.sub (tys' := [(cS, .int)]) [0] rfl
                have hFc := va_free (wc := [(zo14irriiiiiirriirrrrlriiii m0 th aS aI im (nI nl) (nI (p1 + 1)) (nI tp) 0 0 aB aT se dn aG aO aN aD bv aY rn kd nu tv), (zaI aS cS 901 f1)]) hD hS hA [0, 1] rfl
                refine va_callv (va_runV (As := []) (rest := []) ⟨hx, hb, hml, hown, hts⟩ (c_clauseHere l dC dI sK sV m0 aS aI aB aT aG aO aN aD aY th im (nI nl) (nI (p1 + 1)) (nI tp) 0 0 se dn rn kd nu tv bv cS f1 nl (p1 + 1) tp k1 H.size (by omega) (by omega) (by omega) ((hI).mono (by omega) (by omega))) (cwV 0 hts gX12_hill_X12_clauseHere rfl rfl rfl hd_yX12_clauseHere ⟨Nat.le_of_ble_eq_true rfl, Nat.le_of_ble_eq_true rfl⟩) ⟨fun a U g mk q => by obtain ⟨q0, q1, qP, qK, qD, qhE⟩ := q; exact ⟨q0, q1, qP, va_K.moved (u := U) (U := U.calling g mk a) (Vm.Alike.refl U.vm) qK, qD, qhE.same rfl rfl⟩, va_recv hK hP (ci := 14) (q := (RX12, TX12, 23)) (q0 := 0) rfl rfl, fun U hU hW => ⟨rfl, by rw [hU], by rw [hU]; exact hPc, va_K.moved hW.alike hKc, hDc.weaken (fun _ _ _ _ => trivial), hE.call hS hU hW (fun q h => hFc q h)⟩⟩ rfl rfl hl.1 rfl (lv_room (Nat.le_of_ble_eq_true rfl)) dX12_hill_122 ⟨Nat.le_of_ble_eq_true rfl, Nat.le_of_ble_eq_true rfl⟩) hS (fun q _ h => hFc q h) hFc (fun u tC H1 locs htC hvm hw_25 hB hz1 hk1 hS => ?_)
                obtain ⟨fS9_26, sp9_27, wg9_28⟩ := u
                try dsimp only at hw_25 hB
                obtain ⟨hP1, hK1, hD1⟩ := hB
                rw [htC] at hP1
                have hK1 := va_K.moved hvm.symm hK1
                obtain ⟨hP, hD⟩ := va_join (wr := []) (w1 := [(zo14irriiiiiirriirrrrlriiii m0 th aS aI im (nI nl) sp9_27 (nI tp) wg9_28 0 aB aT se dn aG aO aN aD bv aY rn kd nu tv), (zaI aS cS 901 fS9_26)]) hP hD [0, 1] [] rfl rfl (by decide) (by decide) hk1 hFc hP1 hD1
                have hK := (hK.sub (tys' := []) [] rfl).app hK1
                generalize H1 = H at hP hS ⊢
                have hP : va_P (dC, dI) vwCl [(zo14irriiiiiirriirrrrlriiii m0 th aS aI im (nI nl) sp9_27 (nI tp) wg9_28 0 aB aT se dn aG aO aN aD bv aY rn kd nu tv), (zaI aS cS 901 fS9_26)] H := hP
                have hD : va_D A [(zo14irriiiiiirriirrrrlriiii m0 th aS aI im (nI nl) sp9_27 (nI tp) wg9_28 0 aB aT se dn aG aO aN aD bv aY rn kd nu tv), (zaI aS cS 901 fS9_26)] := hD
                have hK : va_K (dC, dI) vwCl [(cS, .int)] s := hK
                obtain ⟨p_29, k_30, rfl, h_31, h_32, hF_33, q9⟩ := hw_25
                rcases q9 with rfl | ⟨rfl, hI_34⟩
                · skip
                  refine lv_iinc (v := nI (n1 + 1)) (lv' := [(1, .int (nI (n1 + 1))), (0, .ref m0)]) hx hb dX12_hill_125 hl (k := 1) rfl (nI_add n1 1) (by decide) rfl (fun ls hl => ?_)
                  refine lv_goto (tgt := 89) hx hb dX12_hill_128 (by decide) ?_
                  exact ih89 (n1 + 1) (p_29) (0) (1) (fS9_26) (by omega) (by omega) (by omega) ((hF).tr hF_33) (Or.inl rfl) _ _ (hK.sub [0] rfl) (hP.sub [0, 1] rfl) (hD.sub [0, 1] (by decide) rfl) hS ls (lv_sub hl [1, 0] rfl)
                · skip
                  refine lv_iinc (v := nI (n1 + 1)) (lv' := [(1, .int (nI (n1 + 1))), (0, .ref m0)]) hx hb dX12_hill_125 hl (k := 1) rfl (nI_add n1 1) (by decide) rfl (fun ls hl => ?_)
                  refine lv_goto (tgt := 89) hx hb dX12_hill_128 (by decide) ?_
                  exact ih89 (n1 + 1) (p_29) (k_30) (0) (fS9_26) (by omega) (by omega) (by omega) ((hF).tr hF_33) (Or.inr ⟨rfl, hI_34⟩) _ _ (hK.sub [0] rfl) (hP.sub [0, 1] rfl) (hD.sub [0, 1] (by decide) rfl) hS ls (lv_sub hl [1, 0] rfl)
      exact L89 _ (1) (p_7) (0) (1) (fS9_4) (Nat.lt_succ_self _) (by omega) (by omega) ((PF.rf).tr hF_11) (Or.inl rfl) _ _ (hK.sub [0] rfl) (hP.sub [0, 1] rfl) (hD.sub [0, 1] (by decide) rfl) hS ls (lv_sub hl [1, 0] rfl)
    · skip
      have L89 : ∀ (nF : Nat) (n1 : Nat) (p1 : Nat) (k1 : Nat) (w1 : Int32) (f1 : Nat → Int32), tp - p1 < nF → (n1 ≤ 10) → (p1 ≤ tp) → (PF nl f0 f1) → (w1 = 1 ∨ (w1 = 0 ∧ PI f1 nl k1 0 p1 tp)) → ∀ (H : Heap) (locs : List Loc), va_K (dC, dI) vwCl [(cS, .int)] s → va_P (dC, dI) vwCl [(zo14irriiiiiirriirrrrlriiii m0 th aS aI im (nI nl) (nI p1) (nI tp) w1 0 aB aT se dn aG aO aN aD bv aY rn kd nu tv), (zaI aS cS 901 f1)] H → va_D A [(zo14irriiiiiirriirrrrlriiii m0 th aS aI im (nI nl) (nI p1) (nI tp) w1 0 aB aT se dn aG aO aN aD bv aY rn kd nu tv), (zaI aS cS 901 f1)] → va_S A s.heap H locs → ∀ (ls : Array Slot), lv_has ls 2 [(0, .ref m0), (1, .int (nI n1))] → W p l e ({ frames := 26, cells := 0, slots := 0, locals := 555 } : Room) s m args below meth c H locs 0 0 Q (F0 m 89 ls []) := by
        intro nF
        induction nF with
        | zero => intro n1 p1 k1 w1 f1 hm; exact absurd hm (Nat.not_lt_zero _)
        | succ nF ih89 =>
          intro n1 p1 k1 w1 f1 hm hn1 h1 hF hw1 H locs hK hP hD hS ls hl
          rcases hw1 with rfl | ⟨rfl, hI⟩
          · skip
            refine lv_aload_n hx hb dX12_hill_89 rfl (lv_at hl 0 rfl) ?_
            refine va_get (D := (dC, dI)) (ci := 14) (v := .int 1) (C := RX12) (T := TX12) (N := 23) hx hb hts kc_mHill_0 hown hK hP 0 rfl rfl 7 (by decide) (hts (.fieldLink RX12 65 "MistHeapsModel" "isWrong" "Z") kc_mHill_5) (fun _ h9 => h9) rfl dX12_hill_90 ?_
            refine lv_if_ne (tgt := 131) hx hb dX12_hill_93 (by decide) (fun _ => ?_) (fun c_35 => absurd c_35 (by decide))
            refine lv_aload_n hx hb dX12_hill_131 rfl (lv_at hl 0 rfl) ?_
            refine va_get (D := (dC, dI)) (ci := 14) (v := .int 1) (C := RX12) (T := TX12) (N := 23) hx hb hts kc_mHill_0 hown hK hP 0 rfl rfl 7 (by decide) (hts (.fieldLink RX12 65 "MistHeapsModel" "isWrong" "Z") kc_mHill_5) (fun _ h9 => h9) rfl dX12_hill_132 ?_
            refine lv_if_ne (tgt := 149) hx hb dX12_hill_135 (by decide) (fun _ => ?_) (fun c_36 => absurd c_36 (by decide))
            refine lv_bipush (v := (-10)) hx hb dX12_hill_149 (by decide) ?_
            refine lv_aload_n hx hb dX12_hill_151 rfl (lv_at hl 0 rfl) ?_
            refine va_get (D := (dC, dI)) (ci := 14) (v := .int (nI p1)) (C := RX12) (T := TX12) (N := 23) hx hb hts kc_mHill_0 hown hK hP 0 rfl rfl 5 (by decide) (hts (.fieldLink RX12 59 "MistHeapsModel" "spot" "I") kc_mHill_4) (fun _ h9 => h9) rfl dX12_hill_152 ?_
            refine lv_isub hx hb dX12_hill_155 ?_
            rw [hQ]
            have hP9 := hP.sub (ws' := [(zo14irriiiiiirriirrrrlriiii m0 th aS aI im (nI nl) (nI p1) (nI tp) 1 0 aB aT se dn aG aO aN aD bv aY rn kd nu tv), (zaI aS cS 901 f1)]) [0, 1] rfl
            have hD9 := hD.sub (ws' := [(zo14irriiiiiirriirrrrlriiii m0 th aS aI im (nI nl) (nI p1) (nI tp) 1 0 aB aT se dn aG aO aN aD bv aY rn kd nu tv), (zaI aS cS 901 f1)]) [0, 1] (by decide) rfl
            have hK9 := hK.sub (tys' := [(cS, .int)]) [0] rfl
            exact W.iret (v := (-10) - (nI p1)) hx hb hr (fun tQ htQ hWQ => ⟨⟨((-10) - (nI p1)), (f1, (nI nl), (nI p1), (nI tp), 1, 0), rfl, HQ_bad (by omega) z1 hHd z0 hF0 hF, by rw [htQ]; exact hP9, va_K.moved hWQ.alike hK9, hD9⟩, hS.F htQ⟩) hS.2.2 dX12_hill_156
          · skip
            refine lv_aload_n hx hb dX12_hill_89 rfl (lv_at hl 0 rfl) ?_
            refine va_get (D := (dC, dI)) (ci := 14) (v := .int 0) (C := RX12) (T := TX12) (N := 23) hx hb hts kc_mHill_0 hown hK hP 0 rfl rfl 7 (by decide) (hts (.fieldLink RX12 65 "MistHeapsModel" "isWrong" "Z") kc_mHill_5) (fun _ h9 => h9) rfl dX12_hill_90 ?_
            refine lv_if_ne (tgt := 131) hx hb dX12_hill_93 (by decide) (fun c_37 => absurd c_37 (by decide)) (fun _ => ?_)
            refine lv_iload_n hx hb dX12_hill_96 rfl (lv_at hl 1 rfl) ?_
            refine lv_bipush (v := 10) hx hb dX12_hill_97 (by decide) ?_
            refine lv_icmp_ge (tgt := 131) hx hb dX12_hill_99 (by decide) (fun c_38 => ?_) (fun c_38 => ?_)
            · skip
              have c_38 : 10 ≤ n1 := (nI_leI (a := 10) (b := n1) (by omega) (by omega)).mp c_38
              refine lv_aload_n hx hb dX12_hill_131 rfl (lv_at hl 0 rfl) ?_
              refine va_get (D := (dC, dI)) (ci := 14) (v := .int 0) (C := RX12) (T := TX12) (N := 23) hx hb hts kc_mHill_0 hown hK hP 0 rfl rfl 7 (by decide) (hts (.fieldLink RX12 65 "MistHeapsModel" "isWrong" "Z") kc_mHill_5) (fun _ h9 => h9) rfl dX12_hill_132 ?_
              refine lv_if_ne (tgt := 149) hx hb dX12_hill_135 (by decide) (fun c_39 => absurd c_39 (by decide)) (fun _ => ?_)
              refine lv_aload_n hx hb dX12_hill_138 rfl (lv_at hl 0 rfl) ?_
              refine va_get (D := (dC, dI)) (ci := 14) (v := .int (nI p1)) (C := RX12) (T := TX12) (N := 23) hx hb hts kc_mHill_0 hown hK hP 0 rfl rfl 5 (by decide) (hts (.fieldLink RX12 59 "MistHeapsModel" "spot" "I") kc_mHill_4) (fun _ h9 => h9) rfl dX12_hill_139 ?_
              refine lv_aload_n hx hb dX12_hill_142 rfl (lv_at hl 0 rfl) ?_
              refine va_get (D := (dC, dI)) (ci := 14) (v := .int (nI tp)) (C := RX12) (T := TX12) (N := 23) hx hb hts kc_mHill_0 hown hK hP 0 rfl rfl 6 (by decide) (hts (.fieldLink RX12 62 "MistHeapsModel" "end" "I") kc_mHill_3) (fun _ h9 => h9) rfl dX12_hill_143 ?_
              refine lv_icmp_eq (tgt := 157) hx hb dX12_hill_146 (by decide) (fun c_40 => ?_) (fun c_40 => ?_)
              · skip
                have c_40 : p1 = tp := (nI_eq (a := p1) (b := tp) (by omega) (by omega)).mp c_40
                refine lv_aload_n hx hb dX12_hill_157 rfl (lv_at hl 0 rfl) ?_
                refine va_get (D := (dC, dI)) (ci := 14) (v := .ref aS) (C := RX12) (T := TX12) (N := 23) hx hb hts kc_mHill_0 hown hK hP 0 rfl rfl 1 (by decide) (hts (.fieldLink RX12 9 "MistHeapsModel" "s" "[I") kc_mHill_1) (fun _ h9 => h9) rfl dX12_hill_158 ?_
                refine lv_iconst (v := 1) hx hb dX12_hill_161 (by decide) ?_
                refine lv_dup2_11 hx hb dX12_hill_162 rfl rfl ?_
                refine va_iald hx hb hK hP 1 0 rfl rfl (vp_in_nI (n := 1) (N := 901) (by omega) (by omega)) dX12_hill_163 ?_
                refine qi_as (y := nI nl) ((show f1 (1 : Int32).toNatClampNeg = f1 1 from rfl).trans ((hF 1 (by omega) (by omega) (by omega)).trans ((hF0 1 (by omega) (by omega) (by omega)).trans z1))) ?_
                refine lv_iconst (v := 1) hx hb dX12_hill_164 (by decide) ?_
                refine lv_iadd hx hb dX12_hill_165 ?_
                refine qi_as (y := nI (nl + 1)) (nI_add nl 1) ?_
                refine va_iast hx hb hK hP hD hS 1 0 rfl rfl (vp_in_nI (n := 1) (N := 901) (by omega) (by omega)) dX12_hill_166 (fun H locs hP hD hS => ?_)
                have hP : va_P (dC, dI) vwCl [(zo14irriiiiiirriirrrrlriiii m0 th aS aI im (nI nl) (nI p1) (nI tp) 0 0 aB aT se dn aG aO aN aD bv aY rn kd nu tv), (zaI aS cS 901 (upd f1 1 (nI (nl + 1))))] H := hP
                have hD : va_D A [(zo14irriiiiiirriirrrrlriiii m0 th aS aI im (nI nl) (nI p1) (nI tp) 0 0 aB aT se dn aG aO aN aD bv aY rn kd nu tv), (zaI aS cS 901 (upd f1 1 (nI (nl + 1))))] := hD
                refine lv_aload_n hx hb dX12_hill_167 rfl (lv_at hl 0 rfl) ?_
                refine va_get (D := (dC, dI)) (ci := 14) (v := .ref aS) (C := RX12) (T := TX12) (N := 23) hx hb hts kc_mHill_0 hown hK hP 0 rfl rfl 1 (by decide) (hts (.fieldLink RX12 9 "MistHeapsModel" "s" "[I") kc_mHill_1) (fun _ h9 => h9) rfl dX12_hill_168 ?_
                refine lv_iconst (v := 5) hx hb dX12_hill_171 (by decide) ?_
                refine lv_aload_n hx hb dX12_hill_172 rfl (lv_at hl 0 rfl) ?_
                refine va_get (D := (dC, dI)) (ci := 14) (v := .int (nI nl)) (C := RX12) (T := TX12) (N := 23) hx hb hts kc_mHill_0 hown hK hP 0 rfl rfl 4 (by decide) (hts (.fieldLink RX12 86 "MistHeapsModel" "act" "I") kc_mHill_2) (fun _ h9 => h9) rfl dX12_hill_173 ?_
                refine va_iast hx hb hK hP hD hS 1 0 rfl rfl (vp_in_nI (n := 5) (N := 901) (by omega) (by omega)) dX12_hill_176 (fun H locs hP hD hS => ?_)
                have hP : va_P (dC, dI) vwCl [(zo14irriiiiiirriirrrrlriiii m0 th aS aI im (nI nl) (nI p1) (nI tp) 0 0 aB aT se dn aG aO aN aD bv aY rn kd nu tv), (zaI aS cS 901 (upd (upd f1 1 (nI (nl + 1))) 5 (nI nl)))] H := hP
                have hD : va_D A [(zo14irriiiiiirriirrrrlriiii m0 th aS aI im (nI nl) (nI p1) (nI tp) 0 0 aB aT se dn aG aO aN aD bv aY rn kd nu tv), (zaI aS cS 901 (upd (upd f1 1 (nI (nl + 1))) 5 (nI nl)))] := hD
                refine lv_aload_n hx hb dX12_hill_177 rfl (lv_at hl 0 rfl) ?_
                refine va_get (D := (dC, dI)) (ci := 14) (v := .int (nI nl)) (C := RX12) (T := TX12) (N := 23) hx hb hts kc_mHill_0 hown hK hP 0 rfl rfl 4 (by decide) (hts (.fieldLink RX12 86 "MistHeapsModel" "act" "I") kc_mHill_2) (fun _ h9 => h9) rfl dX12_hill_178 ?_
                rw [hQ]
                have hP9 := hP.sub (ws' := [(zo14irriiiiiirriirrrrlriiii m0 th aS aI im (nI nl) (nI p1) (nI tp) 0 0 aB aT se dn aG aO aN aD bv aY rn kd nu tv), (zaI aS cS 901 (upd (upd f1 1 (nI (nl + 1))) 5 (nI nl)))]) [0, 1] rfl
                have hD9 := hD.sub (ws' := [(zo14irriiiiiirriirrrrlriiii m0 th aS aI im (nI nl) (nI p1) (nI tp) 0 0 aB aT se dn aG aO aN aD bv aY rn kd nu tv), (zaI aS cS 901 (upd (upd f1 1 (nI (nl + 1))) 5 (nI nl)))]) [0, 1] (by decide) rfl
                have hK9 := hK.sub (tys' := [(cS, .int)]) [0] rfl
                exact W.iret (v := nI nl) hx hb hr (fun tQ htQ hWQ => ⟨⟨(nI nl), ((upd (upd f1 1 (nI (nl + 1))) 5 (nI nl)), (nI nl), (nI p1), (nI tp), 0, 0), rfl, HQ_good (by omega) z0 hF0 hF hI, by rw [htQ]; exact hP9, va_K.moved hWQ.alike hK9, hD9⟩, hS.F htQ⟩) hS.2.2 dX12_hill_181
              · skip
                have c_40 : ¬ p1 = tp := fun q => c_40 ((nI_eq (a := p1) (b := tp) (by omega) (by omega)).mpr q)
                refine lv_bipush (v := (-10)) hx hb dX12_hill_149 (by decide) ?_
                refine lv_aload_n hx hb dX12_hill_151 rfl (lv_at hl 0 rfl) ?_
                refine va_get (D := (dC, dI)) (ci := 14) (v := .int (nI p1)) (C := RX12) (T := TX12) (N := 23) hx hb hts kc_mHill_0 hown hK hP 0 rfl rfl 5 (by decide) (hts (.fieldLink RX12 59 "MistHeapsModel" "spot" "I") kc_mHill_4) (fun _ h9 => h9) rfl dX12_hill_152 ?_
                refine lv_isub hx hb dX12_hill_155 ?_
                rw [hQ]
                have hP9 := hP.sub (ws' := [(zo14irriiiiiirriirrrrlriiii m0 th aS aI im (nI nl) (nI p1) (nI tp) 0 0 aB aT se dn aG aO aN aD bv aY rn kd nu tv), (zaI aS cS 901 f1)]) [0, 1] rfl
                have hD9 := hD.sub (ws' := [(zo14irriiiiiirriirrrrlriiii m0 th aS aI im (nI nl) (nI p1) (nI tp) 0 0 aB aT se dn aG aO aN aD bv aY rn kd nu tv), (zaI aS cS 901 f1)]) [0, 1] (by decide) rfl
                have hK9 := hK.sub (tys' := [(cS, .int)]) [0] rfl
                exact W.iret (v := (-10) - (nI p1)) hx hb hr (fun tQ htQ hWQ => ⟨⟨((-10) - (nI p1)), (f1, (nI nl), (nI p1), (nI tp), 0, 0), rfl, HQ_bad (by omega) z1 hHd z0 hF0 hF, by rw [htQ]; exact hP9, va_K.moved hWQ.alike hK9, hD9⟩, hS.F htQ⟩) hS.2.2 dX12_hill_156
            · skip
              have c_38 : ¬ 10 ≤ n1 := fun q => c_38 ((nI_leI (a := 10) (b := n1) (by omega) (by omega)).mpr q)
              refine lv_aload_n hx hb dX12_hill_102 rfl (lv_at hl 0 rfl) ?_
              have hPc := hP.sub (ws' := [(zo14irriiiiiirriirrrrlriiii m0 th aS aI im (nI nl) (nI p1) (nI tp) 0 0 aB aT se dn aG aO aN aD bv aY rn kd nu tv), (zaI aS cS 901 f1)]) [0, 1] rfl
              have hKc := hK.sub (tys' := [(cS, .int)]) [0] rfl
              refine vp_callSi (va_runV (As := []) (rest := []) ⟨hx, hb, hml, hown, hts⟩ (c_here l dC dI m0 aS aI aB aT aG aO aN aD aY th im (nI nl) (nI p1) (nI tp) 0 0 se dn rn kd nu tv bv cS f1 nl p1 tp (by omega) (by omega) (by omega)) (cwV 0 hts gX12_hill_X12_here rfl rfl rfl hd_yX12_here ⟨Nat.le_of_ble_eq_true rfl, Nat.le_of_ble_eq_true rfl⟩) ⟨fun a U g mk q => by obtain ⟨q0, qP, qK⟩ := q; exact ⟨q0, qP, va_K.moved (u := U) (U := U.calling g mk a) (Vm.Alike.refl U.vm) qK⟩, va_recv hK hP (ci := 14) (q := (RX12, TX12, 23)) (q0 := 0) rfl rfl, fun U hU hW => ⟨rfl, by rw [hU]; exact hPc, va_K.moved hW.alike hKc⟩⟩ rfl rfl hl.1 rfl (lv_room (Nat.le_of_ble_eq_true rfl)) dX12_hill_103 ⟨Nat.le_of_ble_eq_true rfl, Nat.le_of_ble_eq_true rfl⟩).run (fun r_41 hw_42 => ?_)
              refine lv_bipush (v := 59) hx hb dX12_hill_106 (by decide) ?_
              refine lv_icmp_ne (tgt := 131) hx hb dX12_hill_108 (by decide) (fun c_43 => ?_) (fun c_43 => ?_)
              · skip
                refine lv_aload_n hx hb dX12_hill_131 rfl (lv_at hl 0 rfl) ?_
                refine va_get (D := (dC, dI)) (ci := 14) (v := .int 0) (C := RX12) (T := TX12) (N := 23) hx hb hts kc_mHill_0 hown hK hP 0 rfl rfl 7 (by decide) (hts (.fieldLink RX12 65 "MistHeapsModel" "isWrong" "Z") kc_mHill_5) (fun _ h9 => h9) rfl dX12_hill_132 ?_
                refine lv_if_ne (tgt := 149) hx hb dX12_hill_135 (by decide) (fun c_44 => absurd c_44 (by decide)) (fun _ => ?_)
                refine lv_aload_n hx hb dX12_hill_138 rfl (lv_at hl 0 rfl) ?_
                refine va_get (D := (dC, dI)) (ci := 14) (v := .int (nI p1)) (C := RX12) (T := TX12) (N := 23) hx hb hts kc_mHill_0 hown hK hP 0 rfl rfl 5 (by decide) (hts (.fieldLink RX12 59 "MistHeapsModel" "spot" "I") kc_mHill_4) (fun _ h9 => h9) rfl dX12_hill_139 ?_
                refine lv_aload_n hx hb dX12_hill_142 rfl (lv_at hl 0 rfl) ?_
                refine va_get (D := (dC, dI)) (ci := 14) (v := .int (nI tp)) (C := RX12) (T := TX12) (N := 23) hx hb hts kc_mHill_0 hown hK hP 0 rfl rfl 6 (by decide) (hts (.fieldLink RX12 62 "MistHeapsModel" "end" "I") kc_mHill_3) (fun _ h9 => h9) rfl dX12_hill_143 ?_
                refine lv_icmp_eq (tgt := 157) hx hb dX12_hill_146 (by decide) (fun c_45 => ?_) (fun c_45 => ?_)
                · skip
                  have c_45 : p1 = tp := (nI_eq (a := p1) (b := tp) (by omega) (by omega)).mp c_45
                  refine lv_aload_n hx hb dX12_hill_157 rfl (lv_at hl 0 rfl) ?_
                  refine va_get (D := (dC, dI)) (ci := 14) (v := .ref aS) (C := RX12) (T := TX12) (N := 23) hx hb hts kc_mHill_0 hown hK hP 0 rfl rfl 1 (by decide) (hts (.fieldLink RX12 9 "MistHeapsModel" "s" "[I") kc_mHill_1) (fun _ h9 => h9) rfl dX12_hill_158 ?_
                  refine lv_iconst (v := 1) hx hb dX12_hill_161 (by decide) ?_
                  refine lv_dup2_11 hx hb dX12_hill_162 rfl rfl ?_
                  refine va_iald hx hb hK hP 1 0 rfl rfl (vp_in_nI (n := 1) (N := 901) (by omega) (by omega)) dX12_hill_163 ?_
                  refine qi_as (y := nI nl) ((show f1 (1 : Int32).toNatClampNeg = f1 1 from rfl).trans ((hF 1 (by omega) (by omega) (by omega)).trans ((hF0 1 (by omega) (by omega) (by omega)).trans z1))) ?_
                  refine lv_iconst (v := 1) hx hb dX12_hill_164 (by decide) ?_
                  refine lv_iadd hx hb dX12_hill_165 ?_
                  refine qi_as (y := nI (nl + 1)) (nI_add nl 1) ?_
                  refine va_iast hx hb hK hP hD hS 1 0 rfl rfl (vp_in_nI (n := 1) (N := 901) (by omega) (by omega)) dX12_hill_166 (fun H locs hP hD hS => ?_)
                  have hP : va_P (dC, dI) vwCl [(zo14irriiiiiirriirrrrlriiii m0 th aS aI im (nI nl) (nI p1) (nI tp) 0 0 aB aT se dn aG aO aN aD bv aY rn kd nu tv), (zaI aS cS 901 (upd f1 1 (nI (nl + 1))))] H := hP
                  have hD : va_D A [(zo14irriiiiiirriirrrrlriiii m0 th aS aI im (nI nl) (nI p1) (nI tp) 0 0 aB aT se dn aG aO aN aD bv aY rn kd nu tv), (zaI aS cS 901 (upd f1 1 (nI (nl + 1))))] := hD
                  refine lv_aload_n hx hb dX12_hill_167 rfl (lv_at hl 0 rfl) ?_
                  refine va_get (D := (dC, dI)) (ci := 14) (v := .ref aS) (C := RX12) (T := TX12) (N := 23) hx hb hts kc_mHill_0 hown hK hP 0 rfl rfl 1 (by decide) (hts (.fieldLink RX12 9 "MistHeapsModel" "s" "[I") kc_mHill_1) (fun _ h9 => h9) rfl dX12_hill_168 ?_
                  refine lv_iconst (v := 5) hx hb dX12_hill_171 (by decide) ?_
                  refine lv_aload_n hx hb dX12_hill_172 rfl (lv_at hl 0 rfl) ?_
                  refine va_get (D := (dC, dI)) (ci := 14) (v := .int (nI nl)) (C := RX12) (T := TX12) (N := 23) hx hb hts kc_mHill_0 hown hK hP 0 rfl rfl 4 (by decide) (hts (.fieldLink RX12 86 "MistHeapsModel" "act" "I") kc_mHill_2) (fun _ h9 => h9) rfl dX12_hill_173 ?_
                  refine va_iast hx hb hK hP hD hS 1 0 rfl rfl (vp_in_nI (n := 5) (N := 901) (by omega) (by omega)) dX12_hill_176 (fun H locs hP hD hS => ?_)
                  have hP : va_P (dC, dI) vwCl [(zo14irriiiiiirriirrrrlriiii m0 th aS aI im (nI nl) (nI p1) (nI tp) 0 0 aB aT se dn aG aO aN aD bv aY rn kd nu tv), (zaI aS cS 901 (upd (upd f1 1 (nI (nl + 1))) 5 (nI nl)))] H := hP
                  have hD : va_D A [(zo14irriiiiiirriirrrrlriiii m0 th aS aI im (nI nl) (nI p1) (nI tp) 0 0 aB aT se dn aG aO aN aD bv aY rn kd nu tv), (zaI aS cS 901 (upd (upd f1 1 (nI (nl + 1))) 5 (nI nl)))] := hD
                  refine lv_aload_n hx hb dX12_hill_177 rfl (lv_at hl 0 rfl) ?_
                  refine va_get (D := (dC, dI)) (ci := 14) (v := .int (nI nl)) (C := RX12) (T := TX12) (N := 23) hx hb hts kc_mHill_0 hown hK hP 0 rfl rfl 4 (by decide) (hts (.fieldLink RX12 86 "MistHeapsModel" "act" "I") kc_mHill_2) (fun _ h9 => h9) rfl dX12_hill_178 ?_
                  rw [hQ]
                  have hP9 := hP.sub (ws' := [(zo14irriiiiiirriirrrrlriiii m0 th aS aI im (nI nl) (nI p1) (nI tp) 0 0 aB aT se dn aG aO aN aD bv aY rn kd nu tv), (zaI aS cS 901 (upd (upd f1 1 (nI (nl + 1))) 5 (nI nl)))]) [0, 1] rfl
                  have hD9 := hD.sub (ws' := [(zo14irriiiiiirriirrrrlriiii m0 th aS aI im (nI nl) (nI p1) (nI tp) 0 0 aB aT se dn aG aO aN aD bv aY rn kd nu tv), (zaI aS cS 901 (upd (upd f1 1 (nI (nl + 1))) 5 (nI nl)))]) [0, 1] (by decide) rfl
                  have hK9 := hK.sub (tys' := [(cS, .int)]) [0] rfl
                  exact W.iret (v := nI nl) hx hb hr (fun tQ htQ hWQ => ⟨⟨(nI nl), ((upd (upd f1 1 (nI (nl + 1))) 5 (nI nl)), (nI nl), (nI p1), (nI tp), 0, 0), rfl, HQ_good (by omega) z0 hF0 hF hI, by rw [htQ]; exact hP9, va_K.moved hWQ.alike hK9, hD9⟩, hS.F htQ⟩) hS.2.2 dX12_hill_181
                · skip
                  have c_45 : ¬ p1 = tp := fun q => c_45 ((nI_eq (a := p1) (b := tp) (by omega) (by omega)).mpr q)
                  refine lv_bipush (v := (-10)) hx hb dX12_hill_149 (by decide) ?_
                  refine lv_aload_n hx hb dX12_hill_151 rfl (lv_at hl 0 rfl) ?_
                  refine va_get (D := (dC, dI)) (ci := 14) (v := .int (nI p1)) (C := RX12) (T := TX12) (N := 23) hx hb hts kc_mHill_0 hown hK hP 0 rfl rfl 5 (by decide) (hts (.fieldLink RX12 59 "MistHeapsModel" "spot" "I") kc_mHill_4) (fun _ h9 => h9) rfl dX12_hill_152 ?_
                  refine lv_isub hx hb dX12_hill_155 ?_
                  rw [hQ]
                  have hP9 := hP.sub (ws' := [(zo14irriiiiiirriirrrrlriiii m0 th aS aI im (nI nl) (nI p1) (nI tp) 0 0 aB aT se dn aG aO aN aD bv aY rn kd nu tv), (zaI aS cS 901 f1)]) [0, 1] rfl
                  have hD9 := hD.sub (ws' := [(zo14irriiiiiirriirrrrlriiii m0 th aS aI im (nI nl) (nI p1) (nI tp) 0 0 aB aT se dn aG aO aN aD bv aY rn kd nu tv), (zaI aS cS 901 f1)]) [0, 1] (by decide) rfl
                  have hK9 := hK.sub (tys' := [(cS, .int)]) [0] rfl
                  exact W.iret (v := (-10) - (nI p1)) hx hb hr (fun tQ htQ hWQ => ⟨⟨((-10) - (nI p1)), (f1, (nI nl), (nI p1), (nI tp), 0, 0), rfl, HQ_bad (by omega) z1 hHd z0 hF0 hF, by rw [htQ]; exact hP9, va_K.moved hWQ.alike hK9, hD9⟩, hS.F htQ⟩) hS.2.2 dX12_hill_156
              · skip
                have hlt : p1 < tp := hv_lt (f := f1) (by rw [← hw_42, c_43]; decide)
                refine lv_aload_n hx hb dX12_hill_111 rfl (lv_at hl 0 rfl) ?_
                refine lv_dup hx hb dX12_hill_112 rfl ?_
                refine va_get (D := (dC, dI)) (ci := 14) (v := .int (nI p1)) (C := RX12) (T := TX12) (N := 23) hx hb hts kc_mHill_0 hown hK hP 0 rfl rfl 5 (by decide) (hts (.fieldLink RX12 59 "MistHeapsModel" "spot" "I") kc_mHill_4) (fun _ h9 => h9) rfl dX12_hill_113 ?_
                refine lv_iconst (v := 1) hx hb dX12_hill_116 (by decide) ?_
                refine lv_iadd hx hb dX12_hill_117 ?_
                refine qi_as (y := nI (p1 + 1)) (nI_add p1 1) ?_
                refine va_put (D := (dC, dI)) (ci := 14) (v := .int (nI (p1 + 1))) (ty := .int) (C := RX12) (T := TX12) (N := 23) hx hb hts kc_mHill_0 tyX12 tyX12_ok nmX12 hown hK hP hD hS 0 rfl rfl 5 (by decide) (hts (.fieldLink RX12 59 "MistHeapsModel" "spot" "I") kc_mHill_4) (fun _ h9 => h9) rfl (by decide +kernel) rfl rfl (Nat.le_of_ble_eq_true rfl) dX12_hill_118 (fun H locs hP hD hS => ?_)
                have hP : va_P (dC, dI) vwCl [(zo14irriiiiiirriirrrrlriiii m0 th aS aI im (nI nl) (nI (p1 + 1)) (nI tp) 0 0 aB aT se dn aG aO aN aD bv aY rn kd nu tv), (zaI aS cS 901 f1)] H := hP
                have hD : va_D A [(zo14irriiiiiirriirrrrlriiii m0 th aS aI im (nI nl) (nI (p1 + 1)) (nI tp) 0 0 aB aT se dn aG aO aN aD bv aY rn kd nu tv), (zaI aS cS 901 f1)] := hD
                refine lv_aload_n hx hb dX12_hill_121 rfl (lv_at hl 0 rfl) ?_
                have hPc := hP.sub (ws' := [(zo14irriiiiiirriirrrrlriiii m0 th aS aI im (nI nl) (nI (p1 + 1)) (nI tp) 0 0 aB aT se dn aG aO aN aD bv aY rn kd nu tv), (zaI aS cS 901 f1)]) [0, 1] rfl
                have hDc := hD.sub (ws' := [(zo14irriiiiiirriirrrrlriiii m0 th aS aI im (nI nl) (nI (p1 + 1)) (nI tp) 0 0 aB aT se dn aG aO aN aD bv aY rn kd nu tv), (zaI aS cS 901 f1)]) [0, 1] (by decide) rfl
                have hKc := hK.sub (tys' := [(cS, .int)]) [0] rfl
                have hFc := va_free (wc := [(zo14irriiiiiirriirrrrlriiii m0 th aS aI im (nI nl) (nI (p1 + 1)) (nI tp) 0 0 aB aT se dn aG aO aN aD bv aY rn kd nu tv), (zaI aS cS 901 f1)]) hD hS hA [0, 1] rfl
                refine va_callv (va_runV (As := []) (rest := []) ⟨hx, hb, hml, hown, hts⟩ (c_clauseHere l dC dI sK sV m0 aS aI aB aT aG aO aN aD aY th im (nI nl) (nI (p1 + 1)) (nI tp) 0 0 se dn rn kd nu tv bv cS f1 nl (p1 + 1) tp k1 H.size (by omega) (by omega) (by omega) ((hI).mono (by omega) (by omega))) (cwV 0 hts gX12_hill_X12_clauseHere rfl rfl rfl hd_yX12_clauseHere ⟨Nat.le_of_ble_eq_true rfl, Nat.le_of_ble_eq_true rfl⟩) ⟨fun a U g mk q => by obtain ⟨q0, q1, qP, qK, qD, qhE⟩ := q; exact ⟨q0, q1, qP, va_K.moved (u := U) (U := U.calling g mk a) (Vm.Alike.refl U.vm) qK, qD, qhE.same rfl rfl⟩, va_recv hK hP (ci := 14) (q := (RX12, TX12, 23)) (q0 := 0) rfl rfl, fun U hU hW => ⟨rfl, by rw [hU], by rw [hU]; exact hPc, va_K.moved hW.alike hKc, hDc.weaken (fun _ _ _ _ => trivial), hE.call hS hU hW (fun q h => hFc q h)⟩⟩ rfl rfl hl.1 rfl (lv_room (Nat.le_of_ble_eq_true rfl)) dX12_hill_122 ⟨Nat.le_of_ble_eq_true rfl, Nat.le_of_ble_eq_true rfl⟩) hS (fun q _ h => hFc q h) hFc (fun u tC H1 locs htC hvm hw_47 hB hz1 hk1 hS => ?_)
                obtain ⟨fS9_48, sp9_49, wg9_50⟩ := u
                try dsimp only at hw_47 hB
                obtain ⟨hP1, hK1, hD1⟩ := hB
                rw [htC] at hP1
                have hK1 := va_K.moved hvm.symm hK1
                obtain ⟨hP, hD⟩ := va_join (wr := []) (w1 := [(zo14irriiiiiirriirrrrlriiii m0 th aS aI im (nI nl) sp9_49 (nI tp) wg9_50 0 aB aT se dn aG aO aN aD bv aY rn kd nu tv), (zaI aS cS 901 fS9_48)]) hP hD [0, 1] [] rfl rfl (by decide) (by decide) hk1 hFc hP1 hD1
                have hK := (hK.sub (tys' := []) [] rfl).app hK1
                generalize H1 = H at hP hS ⊢
                have hP : va_P (dC, dI) vwCl [(zo14irriiiiiirriirrrrlriiii m0 th aS aI im (nI nl) sp9_49 (nI tp) wg9_50 0 aB aT se dn aG aO aN aD bv aY rn kd nu tv), (zaI aS cS 901 fS9_48)] H := hP
                have hD : va_D A [(zo14irriiiiiirriirrrrlriiii m0 th aS aI im (nI nl) sp9_49 (nI tp) wg9_50 0 aB aT se dn aG aO aN aD bv aY rn kd nu tv), (zaI aS cS 901 fS9_48)] := hD
                have hK : va_K (dC, dI) vwCl [(cS, .int)] s := hK
                obtain ⟨p_51, k_52, rfl, h_53, h_54, hF_55, q9⟩ := hw_47
                rcases q9 with rfl | ⟨rfl, hI_56⟩
                · skip
                  refine lv_iinc (v := nI (n1 + 1)) (lv' := [(1, .int (nI (n1 + 1))), (0, .ref m0)]) hx hb dX12_hill_125 hl (k := 1) rfl (nI_add n1 1) (by decide) rfl (fun ls hl => ?_)
                  refine lv_goto (tgt := 89) hx hb dX12_hill_128 (by decide) ?_
                  exact ih89 (n1 + 1) (p_51) (0) (1) (fS9_48) (by omega) (by omega) (by omega) ((hF).tr hF_55) (Or.inl rfl) _ _ (hK.sub [0] rfl) (hP.sub [0, 1] rfl) (hD.sub [0, 1] (by decide) rfl) hS ls (lv_sub hl [1, 0] rfl)
                · skip
                  refine lv_iinc (v := nI (n1 + 1)) (lv' := [(1, .int (nI (n1 + 1))), (0, .ref m0)]) hx hb dX12_hill_125 hl (k := 1) rfl (nI_add n1 1) (by decide) rfl (fun ls hl => ?_)
                  refine lv_goto (tgt := 89) hx hb dX12_hill_128 (by decide) ?_
                  exact ih89 (n1 + 1) (p_51) (k_52) (0) (fS9_48) (by omega) (by omega) (by omega) ((hF).tr hF_55) (Or.inr ⟨rfl, hI_56⟩) _ _ (hK.sub [0] rfl) (hP.sub [0, 1] rfl) (hD.sub [0, 1] (by decide) rfl) hS ls (lv_sub hl [1, 0] rfl)
      exact L89 _ (1) (p_7) (k_8) (0) (fS9_4) (Nat.lt_succ_self _) (by omega) (by omega) ((PF.rf).tr hF_11) (Or.inr ⟨rfl, hI_12⟩) _ _ (hK.sub [0] rfl) (hP.sub [0, 1] rfl) (hD.sub [0, 1] (by decide) rfl) hS ls (lv_sub hl [1, 0] rfl)
  · skip
    have c_1 : nl = 5 := (nI_eq (a := nl) (b := 5) (by omega) (by omega)).mp c_1
    refine lv_bipush (v := (-4)) hx hb dX12_hill_10 (by decide) ?_
    rw [hQ]
    have hP9 := hP.sub (ws' := [(zo14irriiiiiirriirrrrlriiii m0 th aS aI im ac sp en wg op aB aT se dn aG aO aN aD bv aY rn kd nu tv), (zaI aS cS 901 fS)]) [0, 1] rfl
    have hD9 := hD.sub (ws' := [(zo14irriiiiiirriirrrrlriiii m0 th aS aI im ac sp en wg op aB aT se dn aG aO aN aD bv aY rn kd nu tv), (zaI aS cS 901 fS)]) [0, 1] (by decide) rfl
    have hK9 := hK.sub (tys' := [(cS, .int)]) [0] rfl
    exact W.iret (v := (-4)) hx hb hr (fun tQ htQ hWQ => ⟨⟨(-4), (fS, ac, sp, en, wg, op), rfl, ⟨⟨nl, h5, z1, hHd⟩, ⟨tp, ht, zt⟩, fun _ _ _ _ _ => rfl⟩, by rw [htQ]; exact hP9, va_K.moved hWQ.alike hK9, hD9⟩, hS.F htQ⟩) hS.2.2 dX12_hill_12
