theorem ggX12_hill_X12_clauseHere : GoodIn wsX12_hill wsX12_clauseHere := gga_of 1225 rfl rfl rfl
theorem gX12_hill_X12_clauseHere : GoodIn wsX12_hill (wsV RX12 134 RX12 yX12_clauseHere wsX12_clauseHere) := goodIn_app (ggh_of [1222, 1224, 21, 72] rfl rfl rfl) ggX12_hill_X12_clauseHere
theorem ggX12_hill_X12_here : GoodIn wsX12_hill wsX12_here := gga_of 1229 rfl rfl rfl
theorem gX12_hill_X12_here : GoodIn wsX12_hill (wsV RX12 69 RX12 yX12_here wsX12_here) := goodIn_app (ggh_of [1226, 1228, 22, 72] rfl rfl rfl) ggX12_hill_X12_here
noncomputable def dk13ehill_cX12_hill_0 : List (Nat × Instr × Nat) := [(0, .aload_n 0, 1), (1, .getfield 9, 3), (4, .iconst 1, 1), (5, .iaload, 1), (6, .iconst 5, 1), (7, .if_icmp .ne 6, 3), (13, .aload_n 0, 1), (14, .aload_n 0, 1), (15, .getfield 9, 3), (18, .iconst 1, 1), (19, .iaload, 1), (20, .putfield 86, 3), (23, .aload_n 0, 1), (24, .aload_n 0, 1), (25, .getfield 9, 3), (28, .iconst 4, 1), (29, .iaload, 1), (30, .putfield 62, 3), (33, .aload_n 0, 1), (34, .getfield 9, 3), (37, .iconst 4, 1), (38, .iconst 0, 1), (39, .iastore, 1), (40, .aload_n 0, 1), (41, .getfield 9, 3), (44, .sipush 191, 3), (47, .aload_n 0, 1), (48, .getfield 86, 3), (51, .iadd, 1), (52, .iconst 3, 1), (53, .iastore, 1), (54, .aload_n 0, 1), (55, .getfield 9, 3), (58, .sipush 196, 3), (61, .aload_n 0, 1), (62, .getfield 86, 3), (65, .iadd, 1), (66, .iconst 0, 1), (67, .iastore, 1), (68, .aload_n 0, 1)]
set_option maxRecDepth 100000 in
theorem dk13ehill_cX12_hill_0_a : dkA cX12_hill dk13ehill_cX12_hill_0 = true := by decide +kernel
theorem dX12_hill_0 : decode cX12_hill 0 = .ok (.aload_n 0, 1) := dkAt dk13ehill_cX12_hill_0_a 0 rfl
theorem dX12_hill_1 : decode cX12_hill 1 = .ok (.getfield 9, 3) := dkAt dk13ehill_cX12_hill_0_a 1 rfl
theorem dX12_hill_4 : decode cX12_hill 4 = .ok (.iconst 1, 1) := dkAt dk13ehill_cX12_hill_0_a 2 rfl
theorem dX12_hill_5 : decode cX12_hill 5 = .ok (.iaload, 1) := dkAt dk13ehill_cX12_hill_0_a 3 rfl
theorem dX12_hill_6 : decode cX12_hill 6 = .ok (.iconst 5, 1) := dkAt dk13ehill_cX12_hill_0_a 4 rfl
theorem dX12_hill_7 : decode cX12_hill 7 = .ok (.if_icmp .ne 6, 3) := dkAt dk13ehill_cX12_hill_0_a 5 rfl
theorem dX12_hill_13 : decode cX12_hill 13 = .ok (.aload_n 0, 1) := dkAt dk13ehill_cX12_hill_0_a 6 rfl
theorem dX12_hill_14 : decode cX12_hill 14 = .ok (.aload_n 0, 1) := dkAt dk13ehill_cX12_hill_0_a 7 rfl
theorem dX12_hill_15 : decode cX12_hill 15 = .ok (.getfield 9, 3) := dkAt dk13ehill_cX12_hill_0_a 8 rfl
theorem dX12_hill_18 : decode cX12_hill 18 = .ok (.iconst 1, 1) := dkAt dk13ehill_cX12_hill_0_a 9 rfl
theorem dX12_hill_19 : decode cX12_hill 19 = .ok (.iaload, 1) := dkAt dk13ehill_cX12_hill_0_a 10 rfl
theorem dX12_hill_20 : decode cX12_hill 20 = .ok (.putfield 86, 3) := dkAt dk13ehill_cX12_hill_0_a 11 rfl
theorem dX12_hill_23 : decode cX12_hill 23 = .ok (.aload_n 0, 1) := dkAt dk13ehill_cX12_hill_0_a 12 rfl
theorem dX12_hill_24 : decode cX12_hill 24 = .ok (.aload_n 0, 1) := dkAt dk13ehill_cX12_hill_0_a 13 rfl
theorem dX12_hill_25 : decode cX12_hill 25 = .ok (.getfield 9, 3) := dkAt dk13ehill_cX12_hill_0_a 14 rfl
theorem dX12_hill_28 : decode cX12_hill 28 = .ok (.iconst 4, 1) := dkAt dk13ehill_cX12_hill_0_a 15 rfl
theorem dX12_hill_29 : decode cX12_hill 29 = .ok (.iaload, 1) := dkAt dk13ehill_cX12_hill_0_a 16 rfl
theorem dX12_hill_30 : decode cX12_hill 30 = .ok (.putfield 62, 3) := dkAt dk13ehill_cX12_hill_0_a 17 rfl
theorem dX12_hill_33 : decode cX12_hill 33 = .ok (.aload_n 0, 1) := dkAt dk13ehill_cX12_hill_0_a 18 rfl
theorem dX12_hill_34 : decode cX12_hill 34 = .ok (.getfield 9, 3) := dkAt dk13ehill_cX12_hill_0_a 19 rfl
theorem dX12_hill_37 : decode cX12_hill 37 = .ok (.iconst 4, 1) := dkAt dk13ehill_cX12_hill_0_a 20 rfl
theorem dX12_hill_38 : decode cX12_hill 38 = .ok (.iconst 0, 1) := dkAt dk13ehill_cX12_hill_0_a 21 rfl
theorem dX12_hill_39 : decode cX12_hill 39 = .ok (.iastore, 1) := dkAt dk13ehill_cX12_hill_0_a 22 rfl
theorem dX12_hill_40 : decode cX12_hill 40 = .ok (.aload_n 0, 1) := dkAt dk13ehill_cX12_hill_0_a 23 rfl
theorem dX12_hill_41 : decode cX12_hill 41 = .ok (.getfield 9, 3) := dkAt dk13ehill_cX12_hill_0_a 24 rfl
theorem dX12_hill_44 : decode cX12_hill 44 = .ok (.sipush 191, 3) := dkAt dk13ehill_cX12_hill_0_a 25 rfl
theorem dX12_hill_47 : decode cX12_hill 47 = .ok (.aload_n 0, 1) := dkAt dk13ehill_cX12_hill_0_a 26 rfl
theorem dX12_hill_48 : decode cX12_hill 48 = .ok (.getfield 86, 3) := dkAt dk13ehill_cX12_hill_0_a 27 rfl
theorem dX12_hill_51 : decode cX12_hill 51 = .ok (.iadd, 1) := dkAt dk13ehill_cX12_hill_0_a 28 rfl
theorem dX12_hill_52 : decode cX12_hill 52 = .ok (.iconst 3, 1) := dkAt dk13ehill_cX12_hill_0_a 29 rfl
theorem dX12_hill_53 : decode cX12_hill 53 = .ok (.iastore, 1) := dkAt dk13ehill_cX12_hill_0_a 30 rfl
theorem dX12_hill_54 : decode cX12_hill 54 = .ok (.aload_n 0, 1) := dkAt dk13ehill_cX12_hill_0_a 31 rfl
theorem dX12_hill_55 : decode cX12_hill 55 = .ok (.getfield 9, 3) := dkAt dk13ehill_cX12_hill_0_a 32 rfl
theorem dX12_hill_58 : decode cX12_hill 58 = .ok (.sipush 196, 3) := dkAt dk13ehill_cX12_hill_0_a 33 rfl
theorem dX12_hill_61 : decode cX12_hill 61 = .ok (.aload_n 0, 1) := dkAt dk13ehill_cX12_hill_0_a 34 rfl
theorem dX12_hill_62 : decode cX12_hill 62 = .ok (.getfield 86, 3) := dkAt dk13ehill_cX12_hill_0_a 35 rfl
theorem dX12_hill_65 : decode cX12_hill 65 = .ok (.iadd, 1) := dkAt dk13ehill_cX12_hill_0_a 36 rfl
theorem dX12_hill_66 : decode cX12_hill 66 = .ok (.iconst 0, 1) := dkAt dk13ehill_cX12_hill_0_a 37 rfl
theorem dX12_hill_67 : decode cX12_hill 67 = .ok (.iastore, 1) := dkAt dk13ehill_cX12_hill_0_a 38 rfl
theorem dX12_hill_68 : decode cX12_hill 68 = .ok (.aload_n 0, 1) := dkAt dk13ehill_cX12_hill_0_a 39 rfl
noncomputable def dk13ehill_cX12_hill_40 : List (Nat × Instr × Nat) := [(69, .iconst 0, 1), (70, .putfield 59, 3), (73, .aload_n 0, 1), (74, .iconst 0, 1), (75, .putfield 65, 3), (78, .aload_n 0, 1), (79, .iconst 0, 1), (80, .putfield 89, 3), (83, .iconst 1, 1), (84, .istore_n 1, 1), (85, .aload_n 0, 1), (86, .invokevirtual 134, 3), (89, .aload_n 0, 1), (90, .getfield 65, 3), (93, .ifCond .ne 38, 3), (131, .aload_n 0, 1), (132, .getfield 65, 3), (135, .ifCond .ne 14, 3), (149, .bipush (-10), 2), (151, .aload_n 0, 1), (152, .getfield 59, 3), (155, .isub, 1), (156, .ireturn, 1), (96, .iload_n 1, 1), (97, .bipush 10, 2), (99, .if_icmp .ge 32, 3), (138, .aload_n 0, 1), (139, .getfield 59, 3), (142, .aload_n 0, 1), (143, .getfield 62, 3), (146, .if_icmp .eq 11, 3), (157, .aload_n 0, 1), (158, .getfield 9, 3), (161, .iconst 1, 1), (162, .dup2, 1), (163, .iaload, 1), (164, .iconst 1, 1), (165, .iadd, 1), (166, .iastore, 1), (167, .aload_n 0, 1)]
set_option maxRecDepth 100000 in
theorem dk13ehill_cX12_hill_40_a : dkA cX12_hill dk13ehill_cX12_hill_40 = true := by decide +kernel
theorem dX12_hill_69 : decode cX12_hill 69 = .ok (.iconst 0, 1) := dkAt dk13ehill_cX12_hill_40_a 0 rfl
theorem dX12_hill_70 : decode cX12_hill 70 = .ok (.putfield 59, 3) := dkAt dk13ehill_cX12_hill_40_a 1 rfl
theorem dX12_hill_73 : decode cX12_hill 73 = .ok (.aload_n 0, 1) := dkAt dk13ehill_cX12_hill_40_a 2 rfl
theorem dX12_hill_74 : decode cX12_hill 74 = .ok (.iconst 0, 1) := dkAt dk13ehill_cX12_hill_40_a 3 rfl
theorem dX12_hill_75 : decode cX12_hill 75 = .ok (.putfield 65, 3) := dkAt dk13ehill_cX12_hill_40_a 4 rfl
theorem dX12_hill_78 : decode cX12_hill 78 = .ok (.aload_n 0, 1) := dkAt dk13ehill_cX12_hill_40_a 5 rfl
theorem dX12_hill_79 : decode cX12_hill 79 = .ok (.iconst 0, 1) := dkAt dk13ehill_cX12_hill_40_a 6 rfl
theorem dX12_hill_80 : decode cX12_hill 80 = .ok (.putfield 89, 3) := dkAt dk13ehill_cX12_hill_40_a 7 rfl
theorem dX12_hill_83 : decode cX12_hill 83 = .ok (.iconst 1, 1) := dkAt dk13ehill_cX12_hill_40_a 8 rfl
theorem dX12_hill_84 : decode cX12_hill 84 = .ok (.istore_n 1, 1) := dkAt dk13ehill_cX12_hill_40_a 9 rfl
theorem dX12_hill_85 : decode cX12_hill 85 = .ok (.aload_n 0, 1) := dkAt dk13ehill_cX12_hill_40_a 10 rfl
theorem dX12_hill_86 : decode cX12_hill 86 = .ok (.invokevirtual 134, 3) := dkAt dk13ehill_cX12_hill_40_a 11 rfl
theorem dX12_hill_89 : decode cX12_hill 89 = .ok (.aload_n 0, 1) := dkAt dk13ehill_cX12_hill_40_a 12 rfl
theorem dX12_hill_90 : decode cX12_hill 90 = .ok (.getfield 65, 3) := dkAt dk13ehill_cX12_hill_40_a 13 rfl
theorem dX12_hill_93 : decode cX12_hill 93 = .ok (.ifCond .ne 38, 3) := dkAt dk13ehill_cX12_hill_40_a 14 rfl
theorem dX12_hill_131 : decode cX12_hill 131 = .ok (.aload_n 0, 1) := dkAt dk13ehill_cX12_hill_40_a 15 rfl
theorem dX12_hill_132 : decode cX12_hill 132 = .ok (.getfield 65, 3) := dkAt dk13ehill_cX12_hill_40_a 16 rfl
theorem dX12_hill_135 : decode cX12_hill 135 = .ok (.ifCond .ne 14, 3) := dkAt dk13ehill_cX12_hill_40_a 17 rfl
theorem dX12_hill_149 : decode cX12_hill 149 = .ok (.bipush (-10), 2) := dkAt dk13ehill_cX12_hill_40_a 18 rfl
theorem dX12_hill_151 : decode cX12_hill 151 = .ok (.aload_n 0, 1) := dkAt dk13ehill_cX12_hill_40_a 19 rfl
theorem dX12_hill_152 : decode cX12_hill 152 = .ok (.getfield 59, 3) := dkAt dk13ehill_cX12_hill_40_a 20 rfl
theorem dX12_hill_155 : decode cX12_hill 155 = .ok (.isub, 1) := dkAt dk13ehill_cX12_hill_40_a 21 rfl
theorem dX12_hill_156 : decode cX12_hill 156 = .ok (.ireturn, 1) := dkAt dk13ehill_cX12_hill_40_a 22 rfl
theorem dX12_hill_96 : decode cX12_hill 96 = .ok (.iload_n 1, 1) := dkAt dk13ehill_cX12_hill_40_a 23 rfl
theorem dX12_hill_97 : decode cX12_hill 97 = .ok (.bipush 10, 2) := dkAt dk13ehill_cX12_hill_40_a 24 rfl
theorem dX12_hill_99 : decode cX12_hill 99 = .ok (.if_icmp .ge 32, 3) := dkAt dk13ehill_cX12_hill_40_a 25 rfl
theorem dX12_hill_138 : decode cX12_hill 138 = .ok (.aload_n 0, 1) := dkAt dk13ehill_cX12_hill_40_a 26 rfl
theorem dX12_hill_139 : decode cX12_hill 139 = .ok (.getfield 59, 3) := dkAt dk13ehill_cX12_hill_40_a 27 rfl
theorem dX12_hill_142 : decode cX12_hill 142 = .ok (.aload_n 0, 1) := dkAt dk13ehill_cX12_hill_40_a 28 rfl
theorem dX12_hill_143 : decode cX12_hill 143 = .ok (.getfield 62, 3) := dkAt dk13ehill_cX12_hill_40_a 29 rfl
theorem dX12_hill_146 : decode cX12_hill 146 = .ok (.if_icmp .eq 11, 3) := dkAt dk13ehill_cX12_hill_40_a 30 rfl
theorem dX12_hill_157 : decode cX12_hill 157 = .ok (.aload_n 0, 1) := dkAt dk13ehill_cX12_hill_40_a 31 rfl
theorem dX12_hill_158 : decode cX12_hill 158 = .ok (.getfield 9, 3) := dkAt dk13ehill_cX12_hill_40_a 32 rfl
theorem dX12_hill_161 : decode cX12_hill 161 = .ok (.iconst 1, 1) := dkAt dk13ehill_cX12_hill_40_a 33 rfl
theorem dX12_hill_162 : decode cX12_hill 162 = .ok (.dup2, 1) := dkAt dk13ehill_cX12_hill_40_a 34 rfl
theorem dX12_hill_163 : decode cX12_hill 163 = .ok (.iaload, 1) := dkAt dk13ehill_cX12_hill_40_a 35 rfl
theorem dX12_hill_164 : decode cX12_hill 164 = .ok (.iconst 1, 1) := dkAt dk13ehill_cX12_hill_40_a 36 rfl
theorem dX12_hill_165 : decode cX12_hill 165 = .ok (.iadd, 1) := dkAt dk13ehill_cX12_hill_40_a 37 rfl
theorem dX12_hill_166 : decode cX12_hill 166 = .ok (.iastore, 1) := dkAt dk13ehill_cX12_hill_40_a 38 rfl
theorem dX12_hill_167 : decode cX12_hill 167 = .ok (.aload_n 0, 1) := dkAt dk13ehill_cX12_hill_40_a 39 rfl
noncomputable def dk13ehill_cX12_hill_80 : List (Nat × Instr × Nat) := [(168, .getfield 9, 3), (171, .iconst 5, 1), (172, .aload_n 0, 1), (173, .getfield 86, 3), (176, .iastore, 1), (177, .aload_n 0, 1), (178, .getfield 86, 3), (181, .ireturn, 1), (102, .aload_n 0, 1), (103, .invokevirtual 69, 3), (106, .bipush 59, 2), (108, .if_icmp .ne 23, 3), (111, .aload_n 0, 1), (112, .dup, 1), (113, .getfield 59, 3), (116, .iconst 1, 1), (117, .iadd, 1), (118, .putfield 59, 3), (121, .aload_n 0, 1), (122, .invokevirtual 134, 3), (125, .iinc 1 1, 3), (128, .goto (-39), 3), (10, .bipush (-4), 2), (12, .ireturn, 1)]
set_option maxRecDepth 100000 in
theorem dk13ehill_cX12_hill_80_a : dkA cX12_hill dk13ehill_cX12_hill_80 = true := by decide +kernel
theorem dX12_hill_168 : decode cX12_hill 168 = .ok (.getfield 9, 3) := dkAt dk13ehill_cX12_hill_80_a 0 rfl
theorem dX12_hill_171 : decode cX12_hill 171 = .ok (.iconst 5, 1) := dkAt dk13ehill_cX12_hill_80_a 1 rfl
theorem dX12_hill_172 : decode cX12_hill 172 = .ok (.aload_n 0, 1) := dkAt dk13ehill_cX12_hill_80_a 2 rfl
theorem dX12_hill_173 : decode cX12_hill 173 = .ok (.getfield 86, 3) := dkAt dk13ehill_cX12_hill_80_a 3 rfl
theorem dX12_hill_176 : decode cX12_hill 176 = .ok (.iastore, 1) := dkAt dk13ehill_cX12_hill_80_a 4 rfl
theorem dX12_hill_177 : decode cX12_hill 177 = .ok (.aload_n 0, 1) := dkAt dk13ehill_cX12_hill_80_a 5 rfl
theorem dX12_hill_178 : decode cX12_hill 178 = .ok (.getfield 86, 3) := dkAt dk13ehill_cX12_hill_80_a 6 rfl
theorem dX12_hill_181 : decode cX12_hill 181 = .ok (.ireturn, 1) := dkAt dk13ehill_cX12_hill_80_a 7 rfl
theorem dX12_hill_102 : decode cX12_hill 102 = .ok (.aload_n 0, 1) := dkAt dk13ehill_cX12_hill_80_a 8 rfl
theorem dX12_hill_103 : decode cX12_hill 103 = .ok (.invokevirtual 69, 3) := dkAt dk13ehill_cX12_hill_80_a 9 rfl
theorem dX12_hill_106 : decode cX12_hill 106 = .ok (.bipush 59, 2) := dkAt dk13ehill_cX12_hill_80_a 10 rfl
theorem dX12_hill_108 : decode cX12_hill 108 = .ok (.if_icmp .ne 23, 3) := dkAt dk13ehill_cX12_hill_80_a 11 rfl
theorem dX12_hill_111 : decode cX12_hill 111 = .ok (.aload_n 0, 1) := dkAt dk13ehill_cX12_hill_80_a 12 rfl
theorem dX12_hill_112 : decode cX12_hill 112 = .ok (.dup, 1) := dkAt dk13ehill_cX12_hill_80_a 13 rfl
theorem dX12_hill_113 : decode cX12_hill 113 = .ok (.getfield 59, 3) := dkAt dk13ehill_cX12_hill_80_a 14 rfl
theorem dX12_hill_116 : decode cX12_hill 116 = .ok (.iconst 1, 1) := dkAt dk13ehill_cX12_hill_80_a 15 rfl
theorem dX12_hill_117 : decode cX12_hill 117 = .ok (.iadd, 1) := dkAt dk13ehill_cX12_hill_80_a 16 rfl
theorem dX12_hill_118 : decode cX12_hill 118 = .ok (.putfield 59, 3) := dkAt dk13ehill_cX12_hill_80_a 17 rfl
theorem dX12_hill_121 : decode cX12_hill 121 = .ok (.aload_n 0, 1) := dkAt dk13ehill_cX12_hill_80_a 18 rfl
theorem dX12_hill_122 : decode cX12_hill 122 = .ok (.invokevirtual 134, 3) := dkAt dk13ehill_cX12_hill_80_a 19 rfl
theorem dX12_hill_125 : decode cX12_hill 125 = .ok (.iinc 1 1, 3) := dkAt dk13ehill_cX12_hill_80_a 20 rfl
theorem dX12_hill_128 : decode cX12_hill 128 = .ok (.goto (-39), 3) := dkAt dk13ehill_cX12_hill_80_a 21 rfl
theorem dX12_hill_10 : decode cX12_hill 10 = .ok (.bipush (-4), 2) := dkAt dk13ehill_cX12_hill_80_a 22 rfl
theorem dX12_hill_12 : decode cX12_hill 12 = .ok (.ireturn, 1) := dkAt dk13ehill_cX12_hill_80_a 23 rfl
theorem kc_mHill_0 : ∀ w ∈ wsX120, w ∈ wsX12_hill := fun w h => List.mem_cons_of_mem _ (gin_wsX120 w h)
theorem kc_mHill_1 : (.fieldLink RX12 9 "MistHeapsModel" "s" "[I" : Cond) ∈ wsX12_hill := kc_of 1141 rfl rfl rfl
theorem kc_mHill_2 : (.fieldLink RX12 86 "MistHeapsModel" "act" "I" : Cond) ∈ wsX12_hill := kc_of 1144 rfl rfl rfl
theorem kc_mHill_3 : (.fieldLink RX12 62 "MistHeapsModel" "end" "I" : Cond) ∈ wsX12_hill := kc_of 1146 rfl rfl rfl
theorem kc_mHill_4 : (.fieldLink RX12 59 "MistHeapsModel" "spot" "I" : Cond) ∈ wsX12_hill := kc_of 1145 rfl rfl rfl
theorem kc_mHill_5 : (.fieldLink RX12 65 "MistHeapsModel" "isWrong" "Z" : Cond) ∈ wsX12_hill := kc_of 1147 rfl rfl rfl
theorem kc_mHill_6 : (.fieldLink RX12 89 "MistHeapsModel" "open" "I" : Cond) ∈ wsX12_hill := kc_of 1148 rfl rfl rfl
set_option maxHeartbeats 4000000 in
set_option maxRecDepth 100000 in
theorem c_mHill (l : Launch) (dC : Nat → ClassId) (dI : Nat → Nat → Nat) (sK sV : Nat → Nat) (m0 aS aI aB aT aG aO aN aD aY : Nat) (th im ac sp en wg op se dn rn kd nu tv : Int32) (bv : Int64) (cS : ClassId) (fS : Nat → Int32) (nl tp : Nat) (ss : Nat → Nat) (sz : Nat) (z1 : fS 1 = nI nl) (h5 : nl ≤ 5) (zt : fS 4 = nI tp) (ht : tp ≤ 100) (hHd : holdH fS nl) (gT : TP fS tp ss) : Met l yX12_hill wsX12_hill ({ frames := 26, cells := 0, slots := 0, locals := 555 } : Room) (va_Pc [.ref m0] (fun U => U.heap.size = sz ∧ va_P (dC, dI) vwCl [(zo14irriiiiiirriirrrrlriiii m0 th aS aI im ac sp en wg op aB aT se dn aG aO aN aD bv aY rn kd nu tv), (zaI aS cS 901 fS)] U.heap ∧ va_K (dC, dI) vwCl [(cS, .int)] U ∧ va_D (fun _ => True) [(zo14irriiiiiirriirrrrlriiii m0 th aS aI im ac sp en wg op aB aT se dn aG aO aN aD bv aY rn kd nu tv), (zaI aS cS 901 fS)] ∧ Gs sK sV (va_A [(zo14irriiiiiirriirrrrlriiii m0 th aS aI im ac sp en wg op aB aT se dn aG aO aN aD bv aY rn kd nu tv), (zaI aS cS 901 fS)] sz) U)) (va_Qi (fun (r : Int32) (u : (Nat → Int32) × (Int32) × (Int32) × (Int32) × (Int32) × (Int32)) => match u with | (fS9, ac9, sp9, en9, wg9, op9) => (nl = 5 ∧ r = -4 ∧ fS9 = fS) ∨ (nl < 5 ∧ HQ fS fS9 ∧ fS9 4 = 0 ∧ ((∃ q : Nat, q ≤ 100 ∧ pHl ss tp = (none, q) ∧ r = -10 - nI q ∧ ∀ i, i ≠ 4 → i ≠ 191 + nl → i ≠ 196 + nl → ¬ (201 + 140 * nl ≤ i ∧ i < 201 + 140 * nl + 140) → fS9 i = fS i) ∨ (∃ (C : List pCla) (q : Nat), pHl ss tp = (some C, q) ∧ r = nI nl ∧ fS9 1 = nI (nl + 1) ∧ fS9 5 = nI nl ∧ CDh fS9 nl C)))) (fun (u : (Nat → Int32) × (Int32) × (Int32) × (Int32) × (Int32) × (Int32)) (t : State) => match u with | (fS9, ac9, sp9, en9, wg9, op9) => va_P (dC, dI) vwCl [(zo14irriiiiiirriirrrrlriiii m0 th aS aI im ac9 sp9 en9 wg9 op9 aB aT se dn aG aO aN aD bv aY rn kd nu tv), (zaI aS cS 901 fS9)] t.heap ∧ va_K (dC, dI) vwCl [(cS, .int)] t ∧ va_D (va_A [(zo14irriiiiiirriirrrrlriiii m0 th aS aI im ac sp en wg op aB aT se dn aG aO aN aD bv aY rn kd nu tv), (zaI aS cS 901 fS)] sz) [(zo14irriiiiiirriirrrrlriiii m0 th aS aI im ac9 sp9 en9 wg9 op9 aB aT se dn aG aO aN aD bv aY rn kd nu tv), (zaI aS cS 901 fS9)]) (va_A [(zo14irriiiiiirriirrrrlriiii m0 th aS aI im ac sp en wg op aB aT se dn aG aO aN aD bv aY rn kd nu tv), (zaI aS cS 901 fS)] sz)) 0 0 (va_A [(zo14irriiiiiirriirrrrlriiii m0 th aS aI im ac sp en wg op aB aT se dn aG aO aN aD bv aY rn kd nu tv), (zaI aS cS 901 fS)] sz) := by
  refine met_ofQ (cc := cX12_hill) (maxL := 2) (ret := (some .int)) (by decide) rfl ?_
  intro p e s m args below meth c s₁ Q B hml hv hQ
  obtain ⟨rfl, hsz, hP, hK, hD0, hE⟩ := hv
  have hx := B.exec
  have hb := B.bytes
  have hr := B.returns
  have hts := atoms_spec (ws := wsX12_hill) B.pre
  have hown : s.vm.findClass RX12 = some m.cls := findClass_of_methodNamed B.named
  have hlocks := B.notSynchronized
  subst hsz
  have hD := hD0.self (sz := s.heap.size)
  generalize hAe : va_A [(zo14irriiiiiirriirrrrlriiii m0 th aS aI im ac sp en wg op aB aT se dn aG aO aN aD bv aY rn kd nu tv), (zaI aS cS 901 fS)] s.heap.size = A at hD hQ hE ⊢
  have hA : ∀ q : Nat, s.heap.size ≤ q → A q := fun q h => by rw [← hAe]; exact Or.inr h
  have hS : va_S A s.heap s.heap [] := va_S.rf
  have hl := lv_entry [.ref m0] (n := 2) (Nat.le_of_ble_eq_true rfl)
  rw [lg_entry_eq]
  generalize (lg_sl [.ref m0] ++ List.replicate (2 - (lg_sl [.ref m0]).length) Slot.unset).toArray = ls at hl ⊢
  generalize hag : ([.ref m0] : List Value).toArray = args at hts hQ ⊢
  have hl : lv_has ls 2 [(0, .ref m0)] := hl
  obtain ⟨H, hH⟩ : ∃ H : Heap, H = s.heap := ⟨_, rfl⟩
  rw [← hH] at hP
  rw [← hH]
  have hS : va_S A s.heap H [] := by rw [hH]; exact hS
  obtain ⟨locs, hlo⟩ : ∃ L : List Loc, L = [] := ⟨_, rfl⟩
  rw [← hlo] at hS
  rw [← hlo]
  clear hH hlo
  refine lv_aload_n hx hb dX12_hill_0 rfl (lv_at hl 0 rfl) ?_
  refine va_get (D := (dC, dI)) (ci := 14) (v := .ref aS) (C := RX12) (T := TX12) (N := 23) hx hb hts kc_mHill_0 hown hK hP 0 rfl rfl 1 (by decide) (hts (.fieldLink RX12 9 "MistHeapsModel" "s" "[I") kc_mHill_1) (fun _ h9 => h9) rfl dX12_hill_1 ?_
  refine lv_iconst (v := 1) hx hb dX12_hill_4 (by decide) ?_
  refine va_iald hx hb hK hP 1 0 rfl rfl (vp_in_nI (n := 1) (N := 901) (by omega) (by omega)) dX12_hill_5 ?_
  refine qi_as (y := nI nl) ((show fS (1 : Int32).toNatClampNeg = fS 1 from rfl).trans (z1)) ?_
  refine lv_iconst (v := 5) hx hb dX12_hill_6 (by decide) ?_
  refine lv_icmp_ne (tgt := 13) hx hb dX12_hill_7 (by decide) (fun c_1 => ?_) (fun c_1 => ?_)
  · skip
    have c_1 : ¬ nl = 5 := fun q => c_1 ((nI_eq (a := nl) (b := 5) (by omega) (by omega)).mpr q)
    refine lv_aload_n hx hb dX12_hill_13 rfl (lv_at hl 0 rfl) ?_
    refine lv_aload_n hx hb dX12_hill_14 rfl (lv_at hl 0 rfl) ?_
    refine va_get (D := (dC, dI)) (ci := 14) (v := .ref aS) (C := RX12) (T := TX12) (N := 23) hx hb hts kc_mHill_0 hown hK hP 0 rfl rfl 1 (by decide) (hts (.fieldLink RX12 9 "MistHeapsModel" "s" "[I") kc_mHill_1) (fun _ h9 => h9) rfl dX12_hill_15 ?_
    refine lv_iconst (v := 1) hx hb dX12_hill_18 (by decide) ?_
    refine va_iald hx hb hK hP 1 0 rfl rfl (vp_in_nI (n := 1) (N := 901) (by omega) (by omega)) dX12_hill_19 ?_
    refine qi_as (y := nI nl) ((show fS (1 : Int32).toNatClampNeg = fS 1 from rfl).trans (z1)) ?_
    refine va_put (D := (dC, dI)) (ci := 14) (v := .int (nI nl)) (ty := .int) (C := RX12) (T := TX12) (N := 23) hx hb hts kc_mHill_0 tyX12 tyX12_ok nmX12 hown hK hP hD hS 0 rfl rfl 4 (by decide) (hts (.fieldLink RX12 86 "MistHeapsModel" "act" "I") kc_mHill_2) (fun _ h9 => h9) rfl (by decide +kernel) rfl rfl (Nat.le_of_ble_eq_true rfl) dX12_hill_20 (fun H locs hP hD hS => ?_)
    have hP : va_P (dC, dI) vwCl [(zo14irriiiiiirriirrrrlriiii m0 th aS aI im (nI nl) sp en wg op aB aT se dn aG aO aN aD bv aY rn kd nu tv), (zaI aS cS 901 fS)] H := hP
    have hD : va_D A [(zo14irriiiiiirriirrrrlriiii m0 th aS aI im (nI nl) sp en wg op aB aT se dn aG aO aN aD bv aY rn kd nu tv), (zaI aS cS 901 fS)] := hD
    refine lv_aload_n hx hb dX12_hill_23 rfl (lv_at hl 0 rfl) ?_
    refine lv_aload_n hx hb dX12_hill_24 rfl (lv_at hl 0 rfl) ?_
    refine va_get (D := (dC, dI)) (ci := 14) (v := .ref aS) (C := RX12) (T := TX12) (N := 23) hx hb hts kc_mHill_0 hown hK hP 0 rfl rfl 1 (by decide) (hts (.fieldLink RX12 9 "MistHeapsModel" "s" "[I") kc_mHill_1) (fun _ h9 => h9) rfl dX12_hill_25 ?_
    refine lv_iconst (v := 4) hx hb dX12_hill_28 (by decide) ?_
    refine va_iald hx hb hK hP 1 0 rfl rfl (vp_in_nI (n := 4) (N := 901) (by omega) (by omega)) dX12_hill_29 ?_
    refine qi_as (y := nI tp) ((show fS (4 : Int32).toNatClampNeg = fS 4 from rfl).trans (zt)) ?_
    refine va_put (D := (dC, dI)) (ci := 14) (v := .int (nI tp)) (ty := .int) (C := RX12) (T := TX12) (N := 23) hx hb hts kc_mHill_0 tyX12 tyX12_ok nmX12 hown hK hP hD hS 0 rfl rfl 6 (by decide) (hts (.fieldLink RX12 62 "MistHeapsModel" "end" "I") kc_mHill_3) (fun _ h9 => h9) rfl (by decide +kernel) rfl rfl (Nat.le_of_ble_eq_true rfl) dX12_hill_30 (fun H locs hP hD hS => ?_)
    have hP : va_P (dC, dI) vwCl [(zo14irriiiiiirriirrrrlriiii m0 th aS aI im (nI nl) sp (nI tp) wg op aB aT se dn aG aO aN aD bv aY rn kd nu tv), (zaI aS cS 901 fS)] H := hP
    have hD : va_D A [(zo14irriiiiiirriirrrrlriiii m0 th aS aI im (nI nl) sp (nI tp) wg op aB aT se dn aG aO aN aD bv aY rn kd nu tv), (zaI aS cS 901 fS)] := hD
    refine lv_aload_n hx hb dX12_hill_33 rfl (lv_at hl 0 rfl) ?_
    refine va_get (D := (dC, dI)) (ci := 14) (v := .ref aS) (C := RX12) (T := TX12) (N := 23) hx hb hts kc_mHill_0 hown hK hP 0 rfl rfl 1 (by decide) (hts (.fieldLink RX12 9 "MistHeapsModel" "s" "[I") kc_mHill_1) (fun _ h9 => h9) rfl dX12_hill_34 ?_
    refine lv_iconst (v := 4) hx hb dX12_hill_37 (by decide) ?_
    refine lv_iconst (v := 0) hx hb dX12_hill_38 (by decide) ?_
    refine va_iast hx hb hK hP hD hS 1 0 rfl rfl (vp_in_nI (n := 4) (N := 901) (by omega) (by omega)) dX12_hill_39 (fun H locs hP hD hS => ?_)
    have hP : va_P (dC, dI) vwCl [(zo14irriiiiiirriirrrrlriiii m0 th aS aI im (nI nl) sp (nI tp) wg op aB aT se dn aG aO aN aD bv aY rn kd nu tv), (zaI aS cS 901 (upd fS 4 0))] H := hP
    have hD : va_D A [(zo14irriiiiiirriirrrrlriiii m0 th aS aI im (nI nl) sp (nI tp) wg op aB aT se dn aG aO aN aD bv aY rn kd nu tv), (zaI aS cS 901 (upd fS 4 0))] := hD
    refine lv_aload_n hx hb dX12_hill_40 rfl (lv_at hl 0 rfl) ?_
    refine va_get (D := (dC, dI)) (ci := 14) (v := .ref aS) (C := RX12) (T := TX12) (N := 23) hx hb hts kc_mHill_0 hown hK hP 0 rfl rfl 1 (by decide) (hts (.fieldLink RX12 9 "MistHeapsModel" "s" "[I") kc_mHill_1) (fun _ h9 => h9) rfl dX12_hill_41 ?_
    refine lv_sipush (v := 191) hx hb dX12_hill_44 (by decide) ?_
    refine lv_aload_n hx hb dX12_hill_47 rfl (lv_at hl 0 rfl) ?_
    refine va_get (D := (dC, dI)) (ci := 14) (v := .int (nI nl)) (C := RX12) (T := TX12) (N := 23) hx hb hts kc_mHill_0 hown hK hP 0 rfl rfl 4 (by decide) (hts (.fieldLink RX12 86 "MistHeapsModel" "act" "I") kc_mHill_2) (fun _ h9 => h9) rfl dX12_hill_48 ?_
    refine lv_iadd hx hb dX12_hill_51 ?_
    refine qi_as (y := nI (191 + nl)) (nI_add 191 nl) ?_
    refine lv_iconst (v := 3) hx hb dX12_hill_52 (by decide) ?_
    refine va_iast hx hb hK hP hD hS 1 0 rfl rfl (vp_in_nI (n := 191 + nl) (N := 901) (by omega) (by omega)) dX12_hill_53 (fun H locs hP hD hS => ?_)
    rw [nI_clamp (n := 191 + nl) (by omega)] at hP hD
    have hP : va_P (dC, dI) vwCl [(zo14irriiiiiirriirrrrlriiii m0 th aS aI im (nI nl) sp (nI tp) wg op aB aT se dn aG aO aN aD bv aY rn kd nu tv), (zaI aS cS 901 (upd (upd fS 4 0) (191 + nl) 3))] H := hP
    have hD : va_D A [(zo14irriiiiiirriirrrrlriiii m0 th aS aI im (nI nl) sp (nI tp) wg op aB aT se dn aG aO aN aD bv aY rn kd nu tv), (zaI aS cS 901 (upd (upd fS 4 0) (191 + nl) 3))] := hD
    refine lv_aload_n hx hb dX12_hill_54 rfl (lv_at hl 0 rfl) ?_
    refine va_get (D := (dC, dI)) (ci := 14) (v := .ref aS) (C := RX12) (T := TX12) (N := 23) hx hb hts kc_mHill_0 hown hK hP 0 rfl rfl 1 (by decide) (hts (.fieldLink RX12 9 "MistHeapsModel" "s" "[I") kc_mHill_1) (fun _ h9 => h9) rfl dX12_hill_55 ?_
    refine lv_sipush (v := 196) hx hb dX12_hill_58 (by decide) ?_
    refine lv_aload_n hx hb dX12_hill_61 rfl (lv_at hl 0 rfl) ?_
    refine va_get (D := (dC, dI)) (ci := 14) (v := .int (nI nl)) (C := RX12) (T := TX12) (N := 23) hx hb hts kc_mHill_0 hown hK hP 0 rfl rfl 4 (by decide) (hts (.fieldLink RX12 86 "MistHeapsModel" "act" "I") kc_mHill_2) (fun _ h9 => h9) rfl dX12_hill_62 ?_
    refine lv_iadd hx hb dX12_hill_65 ?_
    refine qi_as (y := nI (196 + nl)) (nI_add 196 nl) ?_
    refine lv_iconst (v := 0) hx hb dX12_hill_66 (by decide) ?_
    refine va_iast hx hb hK hP hD hS 1 0 rfl rfl (vp_in_nI (n := 196 + nl) (N := 901) (by omega) (by omega)) dX12_hill_67 (fun H locs hP hD hS => ?_)
    rw [nI_clamp (n := 196 + nl) (by omega)] at hP hD
    have hP : va_P (dC, dI) vwCl [(zo14irriiiiiirriirrrrlriiii m0 th aS aI im (nI nl) sp (nI tp) wg op aB aT se dn aG aO aN aD bv aY rn kd nu tv), (zaI aS cS 901 (upd (upd (upd fS 4 0) (191 + nl) 3) (196 + nl) 0))] H := hP
    have hD : va_D A [(zo14irriiiiiirriirrrrlriiii m0 th aS aI im (nI nl) sp (nI tp) wg op aB aT se dn aG aO aN aD bv aY rn kd nu tv), (zaI aS cS 901 (upd (upd (upd fS 4 0) (191 + nl) 3) (196 + nl) 0))] := hD
    obtain ⟨f0, ef0⟩ : ∃ g : Nat → Int32, g = upd (upd (upd fS 4 0) (191 + nl) 3) (196 + nl) 0 := ⟨_, rfl⟩
    have hI0 : PI f0 nl (flC []) 0 0 tp := by rw [ef0]; exact h0_PI (by omega) ht
    have z0 : f0 4 = 0 := by rw [ef0, pk_un (by omega), pk_un (by omega)]; exact pk_us
    have zs0 : f0 (191 + nl) = nI (sgC []) := by rw [ef0, pk_un (by omega)]; exact pk_us
    have hF0 : ∀ i, i ≠ 4 → i ≠ 191 + nl → i ≠ 196 + nl → f0 i = fS i := fun i a1 a2 a3 => by rw [ef0, pk_un a3, pk_un a2, pk_un a1]
    have gT0 : TP f0 tp ss := ⟨fun p hp => (hF0 _ (by omega) (by omega) (by omega)).trans (gT.1 p hp), gT.2.1, gT.2.2⟩
    rw [show upd (upd (upd fS 4 0) (191 + nl) 3) (196 + nl) 0 = f0 from ef0.symm] at hP hD
    have hP : va_P (dC, dI) vwCl [(zo14irriiiiiirriirrrrlriiii m0 th aS aI im (nI nl) sp (nI tp) wg op aB aT se dn aG aO aN aD bv aY rn kd nu tv), (zaI aS cS 901 f0)] H := hP
    have hD : va_D A [(zo14irriiiiiirriirrrrlriiii m0 th aS aI im (nI nl) sp (nI tp) wg op aB aT se dn aG aO aN aD bv aY rn kd nu tv), (zaI aS cS 901 f0)] := hD
    refine lv_aload_n hx hb dX12_hill_68 rfl (lv_at hl 0 rfl) ?_
    refine lv_iconst (v := 0) hx hb dX12_hill_69 (by decide) ?_
    refine va_put (D := (dC, dI)) (ci := 14) (v := .int 0) (ty := .int) (C := RX12) (T := TX12) (N := 23) hx hb hts kc_mHill_0 tyX12 tyX12_ok nmX12 hown hK hP hD hS 0 rfl rfl 5 (by decide) (hts (.fieldLink RX12 59 "MistHeapsModel" "spot" "I") kc_mHill_4) (fun _ h9 => h9) rfl (by decide +kernel) rfl rfl (Nat.le_of_ble_eq_true rfl) dX12_hill_70 (fun H locs hP hD hS => ?_)
    have hP : va_P (dC, dI) vwCl [(zo14irriiiiiirriirrrrlriiii m0 th aS aI im (nI nl) 0 (nI tp) wg op aB aT se dn aG aO aN aD bv aY rn kd nu tv), (zaI aS cS 901 f0)] H := hP
    have hD : va_D A [(zo14irriiiiiirriirrrrlriiii m0 th aS aI im (nI nl) 0 (nI tp) wg op aB aT se dn aG aO aN aD bv aY rn kd nu tv), (zaI aS cS 901 f0)] := hD
    refine lv_aload_n hx hb dX12_hill_73 rfl (lv_at hl 0 rfl) ?_
    refine lv_iconst (v := 0) hx hb dX12_hill_74 (by decide) ?_
    refine va_put (D := (dC, dI)) (ci := 14) (v := .int 0) (ty := .boolean) (C := RX12) (T := TX12) (N := 23) hx hb hts kc_mHill_0 tyX12 tyX12_ok nmX12 hown hK hP hD hS 0 rfl rfl 7 (by decide) (hts (.fieldLink RX12 65 "MistHeapsModel" "isWrong" "Z") kc_mHill_5) (fun _ h9 => h9) rfl (by decide +kernel) rfl rfl (Nat.le_of_ble_eq_true rfl) dX12_hill_75 (fun H locs hP hD hS => ?_)
    have hP : va_P (dC, dI) vwCl [(zo14irriiiiiirriirrrrlriiii m0 th aS aI im (nI nl) 0 (nI tp) 0 op aB aT se dn aG aO aN aD bv aY rn kd nu tv), (zaI aS cS 901 f0)] H := hP
    have hD : va_D A [(zo14irriiiiiirriirrrrlriiii m0 th aS aI im (nI nl) 0 (nI tp) 0 op aB aT se dn aG aO aN aD bv aY rn kd nu tv), (zaI aS cS 901 f0)] := hD
    refine lv_aload_n hx hb dX12_hill_78 rfl (lv_at hl 0 rfl) ?_
    refine lv_iconst (v := 0) hx hb dX12_hill_79 (by decide) ?_
    refine va_put (D := (dC, dI)) (ci := 14) (v := .int 0) (ty := .int) (C := RX12) (T := TX12) (N := 23) hx hb hts kc_mHill_0 tyX12 tyX12_ok nmX12 hown hK hP hD hS 0 rfl rfl 8 (by decide) (hts (.fieldLink RX12 89 "MistHeapsModel" "open" "I") kc_mHill_6) (fun _ h9 => h9) rfl (by decide +kernel) rfl rfl (Nat.le_of_ble_eq_true rfl) dX12_hill_80 (fun H locs hP hD hS => ?_)
    have hP : va_P (dC, dI) vwCl [(zo14irriiiiiirriirrrrlriiii m0 th aS aI im (nI nl) 0 (nI tp) 0 0 aB aT se dn aG aO aN aD bv aY rn kd nu tv), (zaI aS cS 901 f0)] H := hP
    have hD : va_D A [(zo14irriiiiiirriirrrrlriiii m0 th aS aI im (nI nl) 0 (nI tp) 0 0 aB aT se dn aG aO aN aD bv aY rn kd nu tv), (zaI aS cS 901 f0)] := hD
    refine lv_iconst (v := 1) hx hb dX12_hill_83 (by decide) ?_
    refine lv_istore_n (lv' := [(1, .int 1), (0, .ref m0)]) hx hb dX12_hill_84 rfl hl (by decide) rfl (fun ls hl => ?_)
    refine lv_aload_n hx hb dX12_hill_85 rfl (lv_at hl 1 rfl) ?_
    have hPc := hP.sub (ws' := [(zo14irriiiiiirriirrrrlriiii m0 th aS aI im (nI nl) 0 (nI tp) 0 0 aB aT se dn aG aO aN aD bv aY rn kd nu tv), (zaI aS cS 901 f0)]) [0, 1] rfl
    have hDc := hD.sub (ws' := [(zo14irriiiiiirriirrrrlriiii m0 th aS aI im (nI nl) 0 (nI tp) 0 0 aB aT se dn aG aO aN aD bv aY rn kd nu tv), (zaI aS cS 901 f0)]) [0, 1] (by decide) rfl
    have hKc := hK.sub (tys' := [(cS, .int)]) [0] rfl
    have hFc := va_free (wc := [(zo14irriiiiiirriirrrrlriiii m0 th aS aI im (nI nl) 0 (nI tp) 0 0 aB aT se dn aG aO aN aD bv aY rn kd nu tv), (zaI aS cS 901 f0)]) hD hS hA [0, 1] rfl
    refine va_callv (va_runV (As := []) (rest := []) ⟨hx, hb, hml, hown, hts⟩ (c_clauseHere l dC dI sK sV m0 aS aI aB aT aG aO aN aD aY th im (nI nl) 0 (nI tp) 0 0 se dn rn kd nu tv bv cS f0 nl 0 tp (flC ([])) ss H.size (by omega) (by omega) (by omega) ((hI0).mono (by omega) (by omega)) (gT0)) (cwV 0 hts gX12_hill_X12_clauseHere rfl rfl rfl hd_yX12_clauseHere ⟨Nat.le_of_ble_eq_true rfl, Nat.le_of_ble_eq_true rfl⟩) ⟨fun a U g mk q => by obtain ⟨q0, q1, qP, qK, qD, qhE⟩ := q; exact ⟨q0, q1, qP, va_K.moved (u := U) (U := U.calling g mk a) (Vm.Alike.refl U.vm) qK, qD, qhE.same rfl rfl⟩, va_recv hK hP (ci := 14) (q := (RX12, TX12, 23)) (q0 := 0) rfl rfl, fun U hU hW => ⟨rfl, by rw [hU], by rw [hU]; exact hPc, va_K.moved hW.alike hKc, hDc.weaken (fun _ _ _ _ => trivial), hE.call hS hU hW (fun q h => hFc q h)⟩⟩ rfl rfl hl.1 rfl (lv_room (Nat.le_of_ble_eq_true rfl)) dX12_hill_86 ⟨Nat.le_of_ble_eq_true rfl, Nat.le_of_ble_eq_true rfl⟩) hS (fun q _ h => hFc q h) hFc (fun u tC H1 locs htC hvm hw_3 hB hz1 hk1 hS => ?_)
    obtain ⟨fS9_4, sp9_5, wg9_6⟩ := u
    try dsimp only at hw_3 hB
    obtain ⟨hP1, hK1, hD1⟩ := hB
    rw [htC] at hP1
    have hK1 := va_K.moved hvm.symm hK1
    obtain ⟨hP, hD⟩ := va_join (wr := []) (w1 := [(zo14irriiiiiirriirrrrlriiii m0 th aS aI im (nI nl) sp9_5 (nI tp) wg9_6 0 aB aT se dn aG aO aN aD bv aY rn kd nu tv), (zaI aS cS 901 fS9_4)]) hP hD [0, 1] [] rfl rfl (by decide) (by decide) hk1 hFc hP1 hD1
    have hK := (hK.sub (tys' := []) [] rfl).app hK1
    generalize H1 = H at hP hS ⊢
    have hP : va_P (dC, dI) vwCl [(zo14irriiiiiirriirrrrlriiii m0 th aS aI im (nI nl) sp9_5 (nI tp) wg9_6 0 aB aT se dn aG aO aN aD bv aY rn kd nu tv), (zaI aS cS 901 fS9_4)] H := hP
    have hD : va_D A [(zo14irriiiiiirriirrrrlriiii m0 th aS aI im (nI nl) sp9_5 (nI tp) wg9_6 0 aB aT se dn aG aO aN aD bv aY rn kd nu tv), (zaI aS cS 901 fS9_4)] := hD
    have hK : va_K (dC, dI) vwCl [(cS, .int)] s := hK
    obtain ⟨p_7, rfl, h_9, h_10, hF_11, q9⟩ := hw_3
    rcases q9 with ⟨rfl, eC_14⟩ | ⟨rfl, c_8, eC_14, hI_12, h_13⟩
    · skip
      have L89 : ∀ (nF : Nat) (n1 : Nat) (p1 : Nat) (C1 : List pCla) (w1 : Int32) (f1 : Nat → Int32), tp - p1 < nF → (1 ≤ n1 ∧ n1 ≤ 10) → (p1 ≤ tp) → (PQ nl f0 f1) → ((w1 = 1 ∧ pHl ss tp = (none, p1)) ∨ (w1 = 0 ∧ pHl ss tp = pAf ss tp (10 - n1) C1 p1 ∧ PI f1 nl (flC C1) 0 p1 tp ∧ f1 (191 + nl) = nI (sgC C1))) → ∀ (H : Heap) (locs : List Loc), va_K (dC, dI) vwCl [(cS, .int)] s → va_P (dC, dI) vwCl [(zo14irriiiiiirriirrrrlriiii m0 th aS aI im (nI nl) (nI p1) (nI tp) w1 0 aB aT se dn aG aO aN aD bv aY rn kd nu tv), (zaI aS cS 901 f1)] H → va_D A [(zo14irriiiiiirriirrrrlriiii m0 th aS aI im (nI nl) (nI p1) (nI tp) w1 0 aB aT se dn aG aO aN aD bv aY rn kd nu tv), (zaI aS cS 901 f1)] → va_S A s.heap H locs → ∀ (ls : Array Slot), lv_has ls 2 [(0, .ref m0), (1, .int (nI n1))] → W p l e ({ frames := 26, cells := 0, slots := 0, locals := 555 } : Room) s m args below meth c H locs 0 0 Q (F0 m 89 ls []) := by
        intro nF
        induction nF with
        | zero => intro n1 p1 C1 w1 f1 hm; exact absurd hm (Nat.not_lt_zero _)
        | succ nF ih89 =>
          intro n1 p1 C1 w1 f1 hm hn1 h1 hF hw1 H locs hK hP hD hS ls hl
          rcases hw1 with ⟨rfl, hE9⟩ | ⟨rfl, hE9, hI, hsg⟩
          · skip
            refine lv_aload_n hx hb dX12_hill_89 rfl (lv_at hl 0 rfl) ?_
            refine va_get (D := (dC, dI)) (ci := 14) (v := .int 1) (C := RX12) (T := TX12) (N := 23) hx hb hts kc_mHill_0 hown hK hP 0 rfl rfl 7 (by decide) (hts (.fieldLink RX12 65 "MistHeapsModel" "isWrong" "Z") kc_mHill_5) (fun _ h9 => h9) rfl dX12_hill_90 ?_
            refine lv_if_ne (tgt := 131) hx hb dX12_hill_93 (by decide) (fun _ => ?_) (fun c_15 => absurd c_15 (by decide))
            refine lv_aload_n hx hb dX12_hill_131 rfl (lv_at hl 0 rfl) ?_
            refine va_get (D := (dC, dI)) (ci := 14) (v := .int 1) (C := RX12) (T := TX12) (N := 23) hx hb hts kc_mHill_0 hown hK hP 0 rfl rfl 7 (by decide) (hts (.fieldLink RX12 65 "MistHeapsModel" "isWrong" "Z") kc_mHill_5) (fun _ h9 => h9) rfl dX12_hill_132 ?_
            refine lv_if_ne (tgt := 149) hx hb dX12_hill_135 (by decide) (fun _ => ?_) (fun c_16 => absurd c_16 (by decide))
            refine lv_bipush (v := (-10)) hx hb dX12_hill_149 (by decide) ?_
            refine lv_aload_n hx hb dX12_hill_151 rfl (lv_at hl 0 rfl) ?_
            refine va_get (D := (dC, dI)) (ci := 14) (v := .int (nI p1)) (C := RX12) (T := TX12) (N := 23) hx hb hts kc_mHill_0 hown hK hP 0 rfl rfl 5 (by decide) (hts (.fieldLink RX12 59 "MistHeapsModel" "spot" "I") kc_mHill_4) (fun _ h9 => h9) rfl dX12_hill_152 ?_
            refine lv_isub hx hb dX12_hill_155 ?_
            rw [hQ]
            have hP9 := hP.sub (ws' := [(zo14irriiiiiirriirrrrlriiii m0 th aS aI im (nI nl) (nI p1) (nI tp) 1 0 aB aT se dn aG aO aN aD bv aY rn kd nu tv), (zaI aS cS 901 f1)]) [0, 1] rfl
            have hD9 := hD.sub (ws' := [(zo14irriiiiiirriirrrrlriiii m0 th aS aI im (nI nl) (nI p1) (nI tp) 1 0 aB aT se dn aG aO aN aD bv aY rn kd nu tv), (zaI aS cS 901 f1)]) [0, 1] (by decide) rfl
            have hK9 := hK.sub (tys' := [(cS, .int)]) [0] rfl
            exact W.iret (v := (-10) - (nI p1)) hx hb hr (fun tQ htQ hWQ => ⟨⟨((-10) - (nI p1)), (f1, (nI nl), (nI p1), (nI tp), 1, 0), rfl, Or.inr ⟨by omega, HQ_bad (by omega) z1 hHd z0 hF0 hF, (hF 4 (by omega) (by omega) (by omega)).trans z0, Or.inl ⟨p1, by omega, hE9, rfl, fun i b1 b2 b3 b4 => (hF i b2 b3 b4).trans (hF0 i b1 b2 b3)⟩⟩, by rw [htQ]; exact hP9, va_K.moved hWQ.alike hK9, hD9⟩, hS.F htQ⟩) hS.2.2 dX12_hill_156
          · skip
            refine lv_aload_n hx hb dX12_hill_89 rfl (lv_at hl 0 rfl) ?_
            refine va_get (D := (dC, dI)) (ci := 14) (v := .int 0) (C := RX12) (T := TX12) (N := 23) hx hb hts kc_mHill_0 hown hK hP 0 rfl rfl 7 (by decide) (hts (.fieldLink RX12 65 "MistHeapsModel" "isWrong" "Z") kc_mHill_5) (fun _ h9 => h9) rfl dX12_hill_90 ?_
            refine lv_if_ne (tgt := 131) hx hb dX12_hill_93 (by decide) (fun c_17 => absurd c_17 (by decide)) (fun _ => ?_)
            refine lv_iload_n hx hb dX12_hill_96 rfl (lv_at hl 1 rfl) ?_
            refine lv_bipush (v := 10) hx hb dX12_hill_97 (by decide) ?_
            refine lv_icmp_ge (tgt := 131) hx hb dX12_hill_99 (by decide) (fun c_18 => ?_) (fun c_18 => ?_)
            · skip
              have c_18 : 10 ≤ n1 := (nI_leI (a := 10) (b := n1) (by omega) (by omega)).mp c_18
              refine lv_aload_n hx hb dX12_hill_131 rfl (lv_at hl 0 rfl) ?_
              refine va_get (D := (dC, dI)) (ci := 14) (v := .int 0) (C := RX12) (T := TX12) (N := 23) hx hb hts kc_mHill_0 hown hK hP 0 rfl rfl 7 (by decide) (hts (.fieldLink RX12 65 "MistHeapsModel" "isWrong" "Z") kc_mHill_5) (fun _ h9 => h9) rfl dX12_hill_132 ?_
              refine lv_if_ne (tgt := 149) hx hb dX12_hill_135 (by decide) (fun c_19 => absurd c_19 (by decide)) (fun _ => ?_)
              refine lv_aload_n hx hb dX12_hill_138 rfl (lv_at hl 0 rfl) ?_
              refine va_get (D := (dC, dI)) (ci := 14) (v := .int (nI p1)) (C := RX12) (T := TX12) (N := 23) hx hb hts kc_mHill_0 hown hK hP 0 rfl rfl 5 (by decide) (hts (.fieldLink RX12 59 "MistHeapsModel" "spot" "I") kc_mHill_4) (fun _ h9 => h9) rfl dX12_hill_139 ?_
              refine lv_aload_n hx hb dX12_hill_142 rfl (lv_at hl 0 rfl) ?_
              refine va_get (D := (dC, dI)) (ci := 14) (v := .int (nI tp)) (C := RX12) (T := TX12) (N := 23) hx hb hts kc_mHill_0 hown hK hP 0 rfl rfl 6 (by decide) (hts (.fieldLink RX12 62 "MistHeapsModel" "end" "I") kc_mHill_3) (fun _ h9 => h9) rfl dX12_hill_143 ?_
              refine lv_icmp_eq (tgt := 157) hx hb dX12_hill_146 (by decide) (fun c_20 => ?_) (fun c_20 => ?_)
              · skip
                have c_20 : p1 = tp := (nI_eq (a := p1) (b := tp) (by omega) (by omega)).mp c_20
                refine lv_aload_n hx hb dX12_hill_157 rfl (lv_at hl 0 rfl) ?_
                refine va_get (D := (dC, dI)) (ci := 14) (v := .ref aS) (C := RX12) (T := TX12) (N := 23) hx hb hts kc_mHill_0 hown hK hP 0 rfl rfl 1 (by decide) (hts (.fieldLink RX12 9 "MistHeapsModel" "s" "[I") kc_mHill_1) (fun _ h9 => h9) rfl dX12_hill_158 ?_
                refine lv_iconst (v := 1) hx hb dX12_hill_161 (by decide) ?_
                refine lv_dup2_11 hx hb dX12_hill_162 rfl rfl ?_
                refine va_iald hx hb hK hP 1 0 rfl rfl (vp_in_nI (n := 1) (N := 901) (by omega) (by omega)) dX12_hill_163 ?_
                refine qi_as (y := nI nl) ((show f1 (1 : Int32).toNatClampNeg = f1 1 from rfl).trans ((hF 1 (by omega) (by omega) (by omega)).trans ((hF0 1 (by omega) (by omega) (by omega)).trans z1))) ?_
                refine lv_iconst (v := 1) hx hb dX12_hill_164 (by decide) ?_
                refine lv_iadd hx hb dX12_hill_165 ?_
                refine qi_as (y := nI (nl + 1)) (nI_add nl 1) ?_
                refine va_iast hx hb hK hP hD hS 1 0 rfl rfl (vp_in_nI (n := 1) (N := 901) (by omega) (by omega)) dX12_hill_166 (fun H locs hP hD hS => ?_)
                have hP : va_P (dC, dI) vwCl [(zo14irriiiiiirriirrrrlriiii m0 th aS aI im (nI nl) (nI p1) (nI tp) 0 0 aB aT se dn aG aO aN aD bv aY rn kd nu tv), (zaI aS cS 901 (upd f1 1 (nI (nl + 1))))] H := hP
                have hD : va_D A [(zo14irriiiiiirriirrrrlriiii m0 th aS aI im (nI nl) (nI p1) (nI tp) 0 0 aB aT se dn aG aO aN aD bv aY rn kd nu tv), (zaI aS cS 901 (upd f1 1 (nI (nl + 1))))] := hD
                refine lv_aload_n hx hb dX12_hill_167 rfl (lv_at hl 0 rfl) ?_
                refine va_get (D := (dC, dI)) (ci := 14) (v := .ref aS) (C := RX12) (T := TX12) (N := 23) hx hb hts kc_mHill_0 hown hK hP 0 rfl rfl 1 (by decide) (hts (.fieldLink RX12 9 "MistHeapsModel" "s" "[I") kc_mHill_1) (fun _ h9 => h9) rfl dX12_hill_168 ?_
                refine lv_iconst (v := 5) hx hb dX12_hill_171 (by decide) ?_
                refine lv_aload_n hx hb dX12_hill_172 rfl (lv_at hl 0 rfl) ?_
                refine va_get (D := (dC, dI)) (ci := 14) (v := .int (nI nl)) (C := RX12) (T := TX12) (N := 23) hx hb hts kc_mHill_0 hown hK hP 0 rfl rfl 4 (by decide) (hts (.fieldLink RX12 86 "MistHeapsModel" "act" "I") kc_mHill_2) (fun _ h9 => h9) rfl dX12_hill_173 ?_
                refine va_iast hx hb hK hP hD hS 1 0 rfl rfl (vp_in_nI (n := 5) (N := 901) (by omega) (by omega)) dX12_hill_176 (fun H locs hP hD hS => ?_)
                have hP : va_P (dC, dI) vwCl [(zo14irriiiiiirriirrrrlriiii m0 th aS aI im (nI nl) (nI p1) (nI tp) 0 0 aB aT se dn aG aO aN aD bv aY rn kd nu tv), (zaI aS cS 901 (upd (upd f1 1 (nI (nl + 1))) 5 (nI nl)))] H := hP
                have hD : va_D A [(zo14irriiiiiirriirrrrlriiii m0 th aS aI im (nI nl) (nI p1) (nI tp) 0 0 aB aT se dn aG aO aN aD bv aY rn kd nu tv), (zaI aS cS 901 (upd (upd f1 1 (nI (nl + 1))) 5 (nI nl)))] := hD
                refine lv_aload_n hx hb dX12_hill_177 rfl (lv_at hl 0 rfl) ?_
                refine va_get (D := (dC, dI)) (ci := 14) (v := .int (nI nl)) (C := RX12) (T := TX12) (N := 23) hx hb hts kc_mHill_0 hown hK hP 0 rfl rfl 4 (by decide) (hts (.fieldLink RX12 86 "MistHeapsModel" "act" "I") kc_mHill_2) (fun _ h9 => h9) rfl dX12_hill_178 ?_
                rw [hQ]
                have hP9 := hP.sub (ws' := [(zo14irriiiiiirriirrrrlriiii m0 th aS aI im (nI nl) (nI p1) (nI tp) 0 0 aB aT se dn aG aO aN aD bv aY rn kd nu tv), (zaI aS cS 901 (upd (upd f1 1 (nI (nl + 1))) 5 (nI nl)))]) [0, 1] rfl
                have hD9 := hD.sub (ws' := [(zo14irriiiiiirriirrrrlriiii m0 th aS aI im (nI nl) (nI p1) (nI tp) 0 0 aB aT se dn aG aO aN aD bv aY rn kd nu tv), (zaI aS cS 901 (upd (upd f1 1 (nI (nl + 1))) 5 (nI nl)))]) [0, 1] (by decide) rfl
                have hK9 := hK.sub (tys' := [(cS, .int)]) [0] rfl
                exact W.iret (v := nI nl) hx hb hr (fun tQ htQ hWQ => ⟨⟨(nI nl), ((upd (upd f1 1 (nI (nl + 1))) 5 (nI nl)), (nI nl), (nI p1), (nI tp), 0, 0), rfl, Or.inr ⟨by omega, HQ_good (by omega) z0 hF0 hF hI, (by rw [pk_un (by omega), pk_un (by omega)]; exact (hF 4 (by omega) (by omega) (by omega)).trans z0), Or.inr ⟨C1, p1, hE9.trans (af_e (by omega)), rfl, (pk_un (by omega)).trans pk_us, pk_us, ⟨by rw [pk_un (by omega), pk_un (by omega)]; exact hI.2.2.2.1, fun i hi => by have := hI.2.2.2.2.1; rw [pk_un (by omega), pk_un (by omega)]; exact hI.2.2.2.2.2.2.2 i hi, by have := hI.2.2.2.2.1; omega, by rw [pk_un (by omega), pk_un (by omega)]; exact hsg⟩⟩⟩, by rw [htQ]; exact hP9, va_K.moved hWQ.alike hK9, hD9⟩, hS.F htQ⟩) hS.2.2 dX12_hill_181
              · skip
                have c_20 : ¬ p1 = tp := fun q => c_20 ((nI_eq (a := p1) (b := tp) (by omega) (by omega)).mpr q)
                refine lv_bipush (v := (-10)) hx hb dX12_hill_149 (by decide) ?_
                refine lv_aload_n hx hb dX12_hill_151 rfl (lv_at hl 0 rfl) ?_
                refine va_get (D := (dC, dI)) (ci := 14) (v := .int (nI p1)) (C := RX12) (T := TX12) (N := 23) hx hb hts kc_mHill_0 hown hK hP 0 rfl rfl 5 (by decide) (hts (.fieldLink RX12 59 "MistHeapsModel" "spot" "I") kc_mHill_4) (fun _ h9 => h9) rfl dX12_hill_152 ?_
                refine lv_isub hx hb dX12_hill_155 ?_
                rw [hQ]
                have hP9 := hP.sub (ws' := [(zo14irriiiiiirriirrrrlriiii m0 th aS aI im (nI nl) (nI p1) (nI tp) 0 0 aB aT se dn aG aO aN aD bv aY rn kd nu tv), (zaI aS cS 901 f1)]) [0, 1] rfl
                have hD9 := hD.sub (ws' := [(zo14irriiiiiirriirrrrlriiii m0 th aS aI im (nI nl) (nI p1) (nI tp) 0 0 aB aT se dn aG aO aN aD bv aY rn kd nu tv), (zaI aS cS 901 f1)]) [0, 1] (by decide) rfl
                have hK9 := hK.sub (tys' := [(cS, .int)]) [0] rfl
                exact W.iret (v := (-10) - (nI p1)) hx hb hr (fun tQ htQ hWQ => ⟨⟨((-10) - (nI p1)), (f1, (nI nl), (nI p1), (nI tp), 0, 0), rfl, Or.inr ⟨by omega, HQ_bad (by omega) z1 hHd z0 hF0 hF, (hF 4 (by omega) (by omega) (by omega)).trans z0, Or.inl ⟨p1, by omega, hE9.trans (by rw [show 10 - n1 = 0 by omega]; exact af_0 (by omega)), rfl, fun i b1 b2 b3 b4 => (hF i b2 b3 b4).trans (hF0 i b1 b2 b3)⟩⟩, by rw [htQ]; exact hP9, va_K.moved hWQ.alike hK9, hD9⟩, hS.F htQ⟩) hS.2.2 dX12_hill_156
            · skip
              have c_18 : ¬ 10 ≤ n1 := fun q => c_18 ((nI_leI (a := 10) (b := n1) (by omega) (by omega)).mpr q)
              refine lv_aload_n hx hb dX12_hill_102 rfl (lv_at hl 0 rfl) ?_
              have hPc := hP.sub (ws' := [(zo14irriiiiiirriirrrrlriiii m0 th aS aI im (nI nl) (nI p1) (nI tp) 0 0 aB aT se dn aG aO aN aD bv aY rn kd nu tv), (zaI aS cS 901 f1)]) [0, 1] rfl
              have hKc := hK.sub (tys' := [(cS, .int)]) [0] rfl
              refine vp_callSi (va_runV (As := []) (rest := []) ⟨hx, hb, hml, hown, hts⟩ (c_here l dC dI m0 aS aI aB aT aG aO aN aD aY th im (nI nl) (nI p1) (nI tp) 0 0 se dn rn kd nu tv bv cS f1 nl p1 tp (by omega) (by omega) (by omega)) (cwV 0 hts gX12_hill_X12_here rfl rfl rfl hd_yX12_here ⟨Nat.le_of_ble_eq_true rfl, Nat.le_of_ble_eq_true rfl⟩) ⟨fun a U g mk q => by obtain ⟨q0, qP, qK⟩ := q; exact ⟨q0, qP, va_K.moved (u := U) (U := U.calling g mk a) (Vm.Alike.refl U.vm) qK⟩, va_recv hK hP (ci := 14) (q := (RX12, TX12, 23)) (q0 := 0) rfl rfl, fun U hU hW => ⟨rfl, by rw [hU]; exact hPc, va_K.moved hW.alike hKc⟩⟩ rfl rfl hl.1 rfl (lv_room (Nat.le_of_ble_eq_true rfl)) dX12_hill_103 ⟨Nat.le_of_ble_eq_true rfl, Nat.le_of_ble_eq_true rfl⟩).run (fun r_21 hw_22 => ?_)
              refine lv_bipush (v := 59) hx hb dX12_hill_106 (by decide) ?_
              refine lv_icmp_ne (tgt := 131) hx hb dX12_hill_108 (by decide) (fun c_23 => ?_) (fun c_23 => ?_)
              · skip
                have hn9 : ¬ ss p1 = 59 := fun z => c_23 (by rw [hw_22]; exact ((TP_PQ gT0 ht hF).eq (c := 59) (by omega) (by omega)).mpr z)
                refine lv_aload_n hx hb dX12_hill_131 rfl (lv_at hl 0 rfl) ?_
                refine va_get (D := (dC, dI)) (ci := 14) (v := .int 0) (C := RX12) (T := TX12) (N := 23) hx hb hts kc_mHill_0 hown hK hP 0 rfl rfl 7 (by decide) (hts (.fieldLink RX12 65 "MistHeapsModel" "isWrong" "Z") kc_mHill_5) (fun _ h9 => h9) rfl dX12_hill_132 ?_
                refine lv_if_ne (tgt := 149) hx hb dX12_hill_135 (by decide) (fun c_24 => absurd c_24 (by decide)) (fun _ => ?_)
                refine lv_aload_n hx hb dX12_hill_138 rfl (lv_at hl 0 rfl) ?_
                refine va_get (D := (dC, dI)) (ci := 14) (v := .int (nI p1)) (C := RX12) (T := TX12) (N := 23) hx hb hts kc_mHill_0 hown hK hP 0 rfl rfl 5 (by decide) (hts (.fieldLink RX12 59 "MistHeapsModel" "spot" "I") kc_mHill_4) (fun _ h9 => h9) rfl dX12_hill_139 ?_
                refine lv_aload_n hx hb dX12_hill_142 rfl (lv_at hl 0 rfl) ?_
                refine va_get (D := (dC, dI)) (ci := 14) (v := .int (nI tp)) (C := RX12) (T := TX12) (N := 23) hx hb hts kc_mHill_0 hown hK hP 0 rfl rfl 6 (by decide) (hts (.fieldLink RX12 62 "MistHeapsModel" "end" "I") kc_mHill_3) (fun _ h9 => h9) rfl dX12_hill_143 ?_
                refine lv_icmp_eq (tgt := 157) hx hb dX12_hill_146 (by decide) (fun c_25 => ?_) (fun c_25 => ?_)
                · skip
                  have c_25 : p1 = tp := (nI_eq (a := p1) (b := tp) (by omega) (by omega)).mp c_25
                  refine lv_aload_n hx hb dX12_hill_157 rfl (lv_at hl 0 rfl) ?_
                  refine va_get (D := (dC, dI)) (ci := 14) (v := .ref aS) (C := RX12) (T := TX12) (N := 23) hx hb hts kc_mHill_0 hown hK hP 0 rfl rfl 1 (by decide) (hts (.fieldLink RX12 9 "MistHeapsModel" "s" "[I") kc_mHill_1) (fun _ h9 => h9) rfl dX12_hill_158 ?_
                  refine lv_iconst (v := 1) hx hb dX12_hill_161 (by decide) ?_
                  refine lv_dup2_11 hx hb dX12_hill_162 rfl rfl ?_
                  refine va_iald hx hb hK hP 1 0 rfl rfl (vp_in_nI (n := 1) (N := 901) (by omega) (by omega)) dX12_hill_163 ?_
                  refine qi_as (y := nI nl) ((show f1 (1 : Int32).toNatClampNeg = f1 1 from rfl).trans ((hF 1 (by omega) (by omega) (by omega)).trans ((hF0 1 (by omega) (by omega) (by omega)).trans z1))) ?_
                  refine lv_iconst (v := 1) hx hb dX12_hill_164 (by decide) ?_
                  refine lv_iadd hx hb dX12_hill_165 ?_
                  refine qi_as (y := nI (nl + 1)) (nI_add nl 1) ?_
                  refine va_iast hx hb hK hP hD hS 1 0 rfl rfl (vp_in_nI (n := 1) (N := 901) (by omega) (by omega)) dX12_hill_166 (fun H locs hP hD hS => ?_)
                  have hP : va_P (dC, dI) vwCl [(zo14irriiiiiirriirrrrlriiii m0 th aS aI im (nI nl) (nI p1) (nI tp) 0 0 aB aT se dn aG aO aN aD bv aY rn kd nu tv), (zaI aS cS 901 (upd f1 1 (nI (nl + 1))))] H := hP
                  have hD : va_D A [(zo14irriiiiiirriirrrrlriiii m0 th aS aI im (nI nl) (nI p1) (nI tp) 0 0 aB aT se dn aG aO aN aD bv aY rn kd nu tv), (zaI aS cS 901 (upd f1 1 (nI (nl + 1))))] := hD
                  refine lv_aload_n hx hb dX12_hill_167 rfl (lv_at hl 0 rfl) ?_
                  refine va_get (D := (dC, dI)) (ci := 14) (v := .ref aS) (C := RX12) (T := TX12) (N := 23) hx hb hts kc_mHill_0 hown hK hP 0 rfl rfl 1 (by decide) (hts (.fieldLink RX12 9 "MistHeapsModel" "s" "[I") kc_mHill_1) (fun _ h9 => h9) rfl dX12_hill_168 ?_
                  refine lv_iconst (v := 5) hx hb dX12_hill_171 (by decide) ?_
                  refine lv_aload_n hx hb dX12_hill_172 rfl (lv_at hl 0 rfl) ?_
                  refine va_get (D := (dC, dI)) (ci := 14) (v := .int (nI nl)) (C := RX12) (T := TX12) (N := 23) hx hb hts kc_mHill_0 hown hK hP 0 rfl rfl 4 (by decide) (hts (.fieldLink RX12 86 "MistHeapsModel" "act" "I") kc_mHill_2) (fun _ h9 => h9) rfl dX12_hill_173 ?_
                  refine va_iast hx hb hK hP hD hS 1 0 rfl rfl (vp_in_nI (n := 5) (N := 901) (by omega) (by omega)) dX12_hill_176 (fun H locs hP hD hS => ?_)
                  have hP : va_P (dC, dI) vwCl [(zo14irriiiiiirriirrrrlriiii m0 th aS aI im (nI nl) (nI p1) (nI tp) 0 0 aB aT se dn aG aO aN aD bv aY rn kd nu tv), (zaI aS cS 901 (upd (upd f1 1 (nI (nl + 1))) 5 (nI nl)))] H := hP
                  have hD : va_D A [(zo14irriiiiiirriirrrrlriiii m0 th aS aI im (nI nl) (nI p1) (nI tp) 0 0 aB aT se dn aG aO aN aD bv aY rn kd nu tv), (zaI aS cS 901 (upd (upd f1 1 (nI (nl + 1))) 5 (nI nl)))] := hD
                  refine lv_aload_n hx hb dX12_hill_177 rfl (lv_at hl 0 rfl) ?_
                  refine va_get (D := (dC, dI)) (ci := 14) (v := .int (nI nl)) (C := RX12) (T := TX12) (N := 23) hx hb hts kc_mHill_0 hown hK hP 0 rfl rfl 4 (by decide) (hts (.fieldLink RX12 86 "MistHeapsModel" "act" "I") kc_mHill_2) (fun _ h9 => h9) rfl dX12_hill_178 ?_
                  rw [hQ]
                  have hP9 := hP.sub (ws' := [(zo14irriiiiiirriirrrrlriiii m0 th aS aI im (nI nl) (nI p1) (nI tp) 0 0 aB aT se dn aG aO aN aD bv aY rn kd nu tv), (zaI aS cS 901 (upd (upd f1 1 (nI (nl + 1))) 5 (nI nl)))]) [0, 1] rfl
                  have hD9 := hD.sub (ws' := [(zo14irriiiiiirriirrrrlriiii m0 th aS aI im (nI nl) (nI p1) (nI tp) 0 0 aB aT se dn aG aO aN aD bv aY rn kd nu tv), (zaI aS cS 901 (upd (upd f1 1 (nI (nl + 1))) 5 (nI nl)))]) [0, 1] (by decide) rfl
                  have hK9 := hK.sub (tys' := [(cS, .int)]) [0] rfl
                  exact W.iret (v := nI nl) hx hb hr (fun tQ htQ hWQ => ⟨⟨(nI nl), ((upd (upd f1 1 (nI (nl + 1))) 5 (nI nl)), (nI nl), (nI p1), (nI tp), 0, 0), rfl, Or.inr ⟨by omega, HQ_good (by omega) z0 hF0 hF hI, (by rw [pk_un (by omega), pk_un (by omega)]; exact (hF 4 (by omega) (by omega) (by omega)).trans z0), Or.inr ⟨C1, p1, hE9.trans (af_e (by omega)), rfl, (pk_un (by omega)).trans pk_us, pk_us, ⟨by rw [pk_un (by omega), pk_un (by omega)]; exact hI.2.2.2.1, fun i hi => by have := hI.2.2.2.2.1; rw [pk_un (by omega), pk_un (by omega)]; exact hI.2.2.2.2.2.2.2 i hi, by have := hI.2.2.2.2.1; omega, by rw [pk_un (by omega), pk_un (by omega)]; exact hsg⟩⟩⟩, by rw [htQ]; exact hP9, va_K.moved hWQ.alike hK9, hD9⟩, hS.F htQ⟩) hS.2.2 dX12_hill_181
                · skip
                  have c_25 : ¬ p1 = tp := fun q => c_25 ((nI_eq (a := p1) (b := tp) (by omega) (by omega)).mpr q)
                  refine lv_bipush (v := (-10)) hx hb dX12_hill_149 (by decide) ?_
                  refine lv_aload_n hx hb dX12_hill_151 rfl (lv_at hl 0 rfl) ?_
                  refine va_get (D := (dC, dI)) (ci := 14) (v := .int (nI p1)) (C := RX12) (T := TX12) (N := 23) hx hb hts kc_mHill_0 hown hK hP 0 rfl rfl 5 (by decide) (hts (.fieldLink RX12 59 "MistHeapsModel" "spot" "I") kc_mHill_4) (fun _ h9 => h9) rfl dX12_hill_152 ?_
                  refine lv_isub hx hb dX12_hill_155 ?_
                  rw [hQ]
                  have hP9 := hP.sub (ws' := [(zo14irriiiiiirriirrrrlriiii m0 th aS aI im (nI nl) (nI p1) (nI tp) 0 0 aB aT se dn aG aO aN aD bv aY rn kd nu tv), (zaI aS cS 901 f1)]) [0, 1] rfl
                  have hD9 := hD.sub (ws' := [(zo14irriiiiiirriirrrrlriiii m0 th aS aI im (nI nl) (nI p1) (nI tp) 0 0 aB aT se dn aG aO aN aD bv aY rn kd nu tv), (zaI aS cS 901 f1)]) [0, 1] (by decide) rfl
                  have hK9 := hK.sub (tys' := [(cS, .int)]) [0] rfl
                  exact W.iret (v := (-10) - (nI p1)) hx hb hr (fun tQ htQ hWQ => ⟨⟨((-10) - (nI p1)), (f1, (nI nl), (nI p1), (nI tp), 0, 0), rfl, Or.inr ⟨by omega, HQ_bad (by omega) z1 hHd z0 hF0 hF, (hF 4 (by omega) (by omega) (by omega)).trans z0, Or.inl ⟨p1, by omega, hE9.trans (af_n (by omega) hn9), rfl, fun i b1 b2 b3 b4 => (hF i b2 b3 b4).trans (hF0 i b1 b2 b3)⟩⟩, by rw [htQ]; exact hP9, va_K.moved hWQ.alike hK9, hD9⟩, hS.F htQ⟩) hS.2.2 dX12_hill_156
              · skip
                have hs9 : ss p1 = 59 := ((TP_PQ gT0 ht hF).eq (c := 59) (by omega) (by omega)).mp (by rw [← hw_22, c_23]; rfl)
                have hlt : p1 < tp := Nat.lt_of_not_le (fun z => by have := gT.2.1 p1 z; omega)
                have hne : ¬ p1 = tp := by omega
                rw [show 10 - n1 = (10 - (n1 + 1)) + 1 by omega] at hE9
                refine lv_aload_n hx hb dX12_hill_111 rfl (lv_at hl 0 rfl) ?_
                refine lv_dup hx hb dX12_hill_112 rfl ?_
                refine va_get (D := (dC, dI)) (ci := 14) (v := .int (nI p1)) (C := RX12) (T := TX12) (N := 23) hx hb hts kc_mHill_0 hown hK hP 0 rfl rfl 5 (by decide) (hts (.fieldLink RX12 59 "MistHeapsModel" "spot" "I") kc_mHill_4) (fun _ h9 => h9) rfl dX12_hill_113 ?_
                refine lv_iconst (v := 1) hx hb dX12_hill_116 (by decide) ?_
                refine lv_iadd hx hb dX12_hill_117 ?_
                refine qi_as (y := nI (p1 + 1)) (nI_add p1 1) ?_
                refine va_put (D := (dC, dI)) (ci := 14) (v := .int (nI (p1 + 1))) (ty := .int) (C := RX12) (T := TX12) (N := 23) hx hb hts kc_mHill_0 tyX12 tyX12_ok nmX12 hown hK hP hD hS 0 rfl rfl 5 (by decide) (hts (.fieldLink RX12 59 "MistHeapsModel" "spot" "I") kc_mHill_4) (fun _ h9 => h9) rfl (by decide +kernel) rfl rfl (Nat.le_of_ble_eq_true rfl) dX12_hill_118 (fun H locs hP hD hS => ?_)
                have hP : va_P (dC, dI) vwCl [(zo14irriiiiiirriirrrrlriiii m0 th aS aI im (nI nl) (nI (p1 + 1)) (nI tp) 0 0 aB aT se dn aG aO aN aD bv aY rn kd nu tv), (zaI aS cS 901 f1)] H := hP
                have hD : va_D A [(zo14irriiiiiirriirrrrlriiii m0 th aS aI im (nI nl) (nI (p1 + 1)) (nI tp) 0 0 aB aT se dn aG aO aN aD bv aY rn kd nu tv), (zaI aS cS 901 f1)] := hD
                refine lv_aload_n hx hb dX12_hill_121 rfl (lv_at hl 0 rfl) ?_
                have hPc := hP.sub (ws' := [(zo14irriiiiiirriirrrrlriiii m0 th aS aI im (nI nl) (nI (p1 + 1)) (nI tp) 0 0 aB aT se dn aG aO aN aD bv aY rn kd nu tv), (zaI aS cS 901 f1)]) [0, 1] rfl
                have hDc := hD.sub (ws' := [(zo14irriiiiiirriirrrrlriiii m0 th aS aI im (nI nl) (nI (p1 + 1)) (nI tp) 0 0 aB aT se dn aG aO aN aD bv aY rn kd nu tv), (zaI aS cS 901 f1)]) [0, 1] (by decide) rfl
                have hKc := hK.sub (tys' := [(cS, .int)]) [0] rfl
                have hFc := va_free (wc := [(zo14irriiiiiirriirrrrlriiii m0 th aS aI im (nI nl) (nI (p1 + 1)) (nI tp) 0 0 aB aT se dn aG aO aN aD bv aY rn kd nu tv), (zaI aS cS 901 f1)]) hD hS hA [0, 1] rfl
                refine va_callv (va_runV (As := []) (rest := []) ⟨hx, hb, hml, hown, hts⟩ (c_clauseHere l dC dI sK sV m0 aS aI aB aT aG aO aN aD aY th im (nI nl) (nI (p1 + 1)) (nI tp) 0 0 se dn rn kd nu tv bv cS f1 nl (p1 + 1) tp (flC C1) ss H.size (by omega) (by omega) (by omega) ((hI).mono (by omega) (by omega)) ((TP_PQ gT0 ht (hF)))) (cwV 0 hts gX12_hill_X12_clauseHere rfl rfl rfl hd_yX12_clauseHere ⟨Nat.le_of_ble_eq_true rfl, Nat.le_of_ble_eq_true rfl⟩) ⟨fun a U g mk q => by obtain ⟨q0, q1, qP, qK, qD, qhE⟩ := q; exact ⟨q0, q1, qP, va_K.moved (u := U) (U := U.calling g mk a) (Vm.Alike.refl U.vm) qK, qD, qhE.same rfl rfl⟩, va_recv hK hP (ci := 14) (q := (RX12, TX12, 23)) (q0 := 0) rfl rfl, fun U hU hW => ⟨rfl, by rw [hU], by rw [hU]; exact hPc, va_K.moved hW.alike hKc, hDc.weaken (fun _ _ _ _ => trivial), hE.call hS hU hW (fun q h => hFc q h)⟩⟩ rfl rfl hl.1 rfl (lv_room (Nat.le_of_ble_eq_true rfl)) dX12_hill_122 ⟨Nat.le_of_ble_eq_true rfl, Nat.le_of_ble_eq_true rfl⟩) hS (fun q _ h => hFc q h) hFc (fun u tC H1 locs htC hvm hw_27 hB hz1 hk1 hS => ?_)
                obtain ⟨fS9_28, sp9_29, wg9_30⟩ := u
                try dsimp only at hw_27 hB
                obtain ⟨hP1, hK1, hD1⟩ := hB
                rw [htC] at hP1
                have hK1 := va_K.moved hvm.symm hK1
                obtain ⟨hP, hD⟩ := va_join (wr := []) (w1 := [(zo14irriiiiiirriirrrrlriiii m0 th aS aI im (nI nl) sp9_29 (nI tp) wg9_30 0 aB aT se dn aG aO aN aD bv aY rn kd nu tv), (zaI aS cS 901 fS9_28)]) hP hD [0, 1] [] rfl rfl (by decide) (by decide) hk1 hFc hP1 hD1
                have hK := (hK.sub (tys' := []) [] rfl).app hK1
                generalize H1 = H at hP hS ⊢
                have hP : va_P (dC, dI) vwCl [(zo14irriiiiiirriirrrrlriiii m0 th aS aI im (nI nl) sp9_29 (nI tp) wg9_30 0 aB aT se dn aG aO aN aD bv aY rn kd nu tv), (zaI aS cS 901 fS9_28)] H := hP
                have hD : va_D A [(zo14irriiiiiirriirrrrlriiii m0 th aS aI im (nI nl) sp9_29 (nI tp) wg9_30 0 aB aT se dn aG aO aN aD bv aY rn kd nu tv), (zaI aS cS 901 fS9_28)] := hD
                have hK : va_K (dC, dI) vwCl [(cS, .int)] s := hK
                obtain ⟨p_31, rfl, h_33, h_34, hF_35, q9⟩ := hw_27
                rcases q9 with ⟨rfl, eC_38⟩ | ⟨rfl, c_32, eC_38, hI_36, h_37⟩
                · skip
                  refine lv_iinc (v := nI (n1 + 1)) (lv' := [(1, .int (nI (n1 + 1))), (0, .ref m0)]) hx hb dX12_hill_125 hl (k := 1) rfl (nI_add n1 1) (by decide) rfl (fun ls hl => ?_)
                  refine lv_goto (tgt := 89) hx hb dX12_hill_128 (by decide) ?_
                  exact ih89 (n1 + 1) (p_31) ([]) (1) (fS9_28) (by omega) (by omega) (by omega) ((hF).tr hF_35) (Or.inl ⟨rfl, hE9.trans (af_b hne hs9 eC_38)⟩) _ _ (hK.sub [0] rfl) (hP.sub [0, 1] rfl) (hD.sub [0, 1] (by decide) rfl) hS ls (lv_sub hl [1, 0] rfl)
                · skip
                  refine lv_iinc (v := nI (n1 + 1)) (lv' := [(1, .int (nI (n1 + 1))), (0, .ref m0)]) hx hb dX12_hill_125 hl (k := 1) rfl (nI_add n1 1) (by decide) rfl (fun ls hl => ?_)
                  refine lv_goto (tgt := 89) hx hb dX12_hill_128 (by decide) ?_
                  exact ih89 (n1 + 1) (p_31) ((C1 ++ [c_32])) (0) (fS9_28) (by omega) (by omega) (by omega) ((hF).tr hF_35) (Or.inr ⟨rfl, hE9.trans (af_g hne hs9 eC_38), (PI.fl hI_36), (sg_stp h_37 hsg)⟩) _ _ (hK.sub [0] rfl) (hP.sub [0, 1] rfl) (hD.sub [0, 1] (by decide) rfl) hS ls (lv_sub hl [1, 0] rfl)
      exact L89 _ (1) (p_7) ([]) (1) (fS9_4) (Nat.lt_succ_self _) (by omega) (by omega) ((PQ.rf).tr hF_11) (Or.inl ⟨rfl, hl_n eC_14⟩) _ _ (hK.sub [0] rfl) (hP.sub [0, 1] rfl) (hD.sub [0, 1] (by decide) rfl) hS ls (lv_sub hl [1, 0] rfl)
    · skip
      have L89 : ∀ (nF : Nat) (n1 : Nat) (p1 : Nat) (C1 : List pCla) (w1 : Int32) (f1 : Nat → Int32), tp - p1 < nF → (1 ≤ n1 ∧ n1 ≤ 10) → (p1 ≤ tp) → (PQ nl f0 f1) → ((w1 = 1 ∧ pHl ss tp = (none, p1)) ∨ (w1 = 0 ∧ pHl ss tp = pAf ss tp (10 - n1) C1 p1 ∧ PI f1 nl (flC C1) 0 p1 tp ∧ f1 (191 + nl) = nI (sgC C1))) → ∀ (H : Heap) (locs : List Loc), va_K (dC, dI) vwCl [(cS, .int)] s → va_P (dC, dI) vwCl [(zo14irriiiiiirriirrrrlriiii m0 th aS aI im (nI nl) (nI p1) (nI tp) w1 0 aB aT se dn aG aO aN aD bv aY rn kd nu tv), (zaI aS cS 901 f1)] H → va_D A [(zo14irriiiiiirriirrrrlriiii m0 th aS aI im (nI nl) (nI p1) (nI tp) w1 0 aB aT se dn aG aO aN aD bv aY rn kd nu tv), (zaI aS cS 901 f1)] → va_S A s.heap H locs → ∀ (ls : Array Slot), lv_has ls 2 [(0, .ref m0), (1, .int (nI n1))] → W p l e ({ frames := 26, cells := 0, slots := 0, locals := 555 } : Room) s m args below meth c H locs 0 0 Q (F0 m 89 ls []) := by
        intro nF
        induction nF with
        | zero => intro n1 p1 C1 w1 f1 hm; exact absurd hm (Nat.not_lt_zero _)
        | succ nF ih89 =>
          intro n1 p1 C1 w1 f1 hm hn1 h1 hF hw1 H locs hK hP hD hS ls hl
          rcases hw1 with ⟨rfl, hE9⟩ | ⟨rfl, hE9, hI, hsg⟩
          · skip
            refine lv_aload_n hx hb dX12_hill_89 rfl (lv_at hl 0 rfl) ?_
            refine va_get (D := (dC, dI)) (ci := 14) (v := .int 1) (C := RX12) (T := TX12) (N := 23) hx hb hts kc_mHill_0 hown hK hP 0 rfl rfl 7 (by decide) (hts (.fieldLink RX12 65 "MistHeapsModel" "isWrong" "Z") kc_mHill_5) (fun _ h9 => h9) rfl dX12_hill_90 ?_
            refine lv_if_ne (tgt := 131) hx hb dX12_hill_93 (by decide) (fun _ => ?_) (fun c_39 => absurd c_39 (by decide))
            refine lv_aload_n hx hb dX12_hill_131 rfl (lv_at hl 0 rfl) ?_
            refine va_get (D := (dC, dI)) (ci := 14) (v := .int 1) (C := RX12) (T := TX12) (N := 23) hx hb hts kc_mHill_0 hown hK hP 0 rfl rfl 7 (by decide) (hts (.fieldLink RX12 65 "MistHeapsModel" "isWrong" "Z") kc_mHill_5) (fun _ h9 => h9) rfl dX12_hill_132 ?_
            refine lv_if_ne (tgt := 149) hx hb dX12_hill_135 (by decide) (fun _ => ?_) (fun c_40 => absurd c_40 (by decide))
            refine lv_bipush (v := (-10)) hx hb dX12_hill_149 (by decide) ?_
            refine lv_aload_n hx hb dX12_hill_151 rfl (lv_at hl 0 rfl) ?_
            refine va_get (D := (dC, dI)) (ci := 14) (v := .int (nI p1)) (C := RX12) (T := TX12) (N := 23) hx hb hts kc_mHill_0 hown hK hP 0 rfl rfl 5 (by decide) (hts (.fieldLink RX12 59 "MistHeapsModel" "spot" "I") kc_mHill_4) (fun _ h9 => h9) rfl dX12_hill_152 ?_
            refine lv_isub hx hb dX12_hill_155 ?_
            rw [hQ]
            have hP9 := hP.sub (ws' := [(zo14irriiiiiirriirrrrlriiii m0 th aS aI im (nI nl) (nI p1) (nI tp) 1 0 aB aT se dn aG aO aN aD bv aY rn kd nu tv), (zaI aS cS 901 f1)]) [0, 1] rfl
            have hD9 := hD.sub (ws' := [(zo14irriiiiiirriirrrrlriiii m0 th aS aI im (nI nl) (nI p1) (nI tp) 1 0 aB aT se dn aG aO aN aD bv aY rn kd nu tv), (zaI aS cS 901 f1)]) [0, 1] (by decide) rfl
            have hK9 := hK.sub (tys' := [(cS, .int)]) [0] rfl
            exact W.iret (v := (-10) - (nI p1)) hx hb hr (fun tQ htQ hWQ => ⟨⟨((-10) - (nI p1)), (f1, (nI nl), (nI p1), (nI tp), 1, 0), rfl, Or.inr ⟨by omega, HQ_bad (by omega) z1 hHd z0 hF0 hF, (hF 4 (by omega) (by omega) (by omega)).trans z0, Or.inl ⟨p1, by omega, hE9, rfl, fun i b1 b2 b3 b4 => (hF i b2 b3 b4).trans (hF0 i b1 b2 b3)⟩⟩, by rw [htQ]; exact hP9, va_K.moved hWQ.alike hK9, hD9⟩, hS.F htQ⟩) hS.2.2 dX12_hill_156
          · skip
            refine lv_aload_n hx hb dX12_hill_89 rfl (lv_at hl 0 rfl) ?_
            refine va_get (D := (dC, dI)) (ci := 14) (v := .int 0) (C := RX12) (T := TX12) (N := 23) hx hb hts kc_mHill_0 hown hK hP 0 rfl rfl 7 (by decide) (hts (.fieldLink RX12 65 "MistHeapsModel" "isWrong" "Z") kc_mHill_5) (fun _ h9 => h9) rfl dX12_hill_90 ?_
            refine lv_if_ne (tgt := 131) hx hb dX12_hill_93 (by decide) (fun c_41 => absurd c_41 (by decide)) (fun _ => ?_)
            refine lv_iload_n hx hb dX12_hill_96 rfl (lv_at hl 1 rfl) ?_
            refine lv_bipush (v := 10) hx hb dX12_hill_97 (by decide) ?_
            refine lv_icmp_ge (tgt := 131) hx hb dX12_hill_99 (by decide) (fun c_42 => ?_) (fun c_42 => ?_)
            · skip
              have c_42 : 10 ≤ n1 := (nI_leI (a := 10) (b := n1) (by omega) (by omega)).mp c_42
              refine lv_aload_n hx hb dX12_hill_131 rfl (lv_at hl 0 rfl) ?_
              refine va_get (D := (dC, dI)) (ci := 14) (v := .int 0) (C := RX12) (T := TX12) (N := 23) hx hb hts kc_mHill_0 hown hK hP 0 rfl rfl 7 (by decide) (hts (.fieldLink RX12 65 "MistHeapsModel" "isWrong" "Z") kc_mHill_5) (fun _ h9 => h9) rfl dX12_hill_132 ?_
              refine lv_if_ne (tgt := 149) hx hb dX12_hill_135 (by decide) (fun c_43 => absurd c_43 (by decide)) (fun _ => ?_)
              refine lv_aload_n hx hb dX12_hill_138 rfl (lv_at hl 0 rfl) ?_
              refine va_get (D := (dC, dI)) (ci := 14) (v := .int (nI p1)) (C := RX12) (T := TX12) (N := 23) hx hb hts kc_mHill_0 hown hK hP 0 rfl rfl 5 (by decide) (hts (.fieldLink RX12 59 "MistHeapsModel" "spot" "I") kc_mHill_4) (fun _ h9 => h9) rfl dX12_hill_139 ?_
              refine lv_aload_n hx hb dX12_hill_142 rfl (lv_at hl 0 rfl) ?_
              refine va_get (D := (dC, dI)) (ci := 14) (v := .int (nI tp)) (C := RX12) (T := TX12) (N := 23) hx hb hts kc_mHill_0 hown hK hP 0 rfl rfl 6 (by decide) (hts (.fieldLink RX12 62 "MistHeapsModel" "end" "I") kc_mHill_3) (fun _ h9 => h9) rfl dX12_hill_143 ?_
              refine lv_icmp_eq (tgt := 157) hx hb dX12_hill_146 (by decide) (fun c_44 => ?_) (fun c_44 => ?_)
              · skip
                have c_44 : p1 = tp := (nI_eq (a := p1) (b := tp) (by omega) (by omega)).mp c_44
                refine lv_aload_n hx hb dX12_hill_157 rfl (lv_at hl 0 rfl) ?_
                refine va_get (D := (dC, dI)) (ci := 14) (v := .ref aS) (C := RX12) (T := TX12) (N := 23) hx hb hts kc_mHill_0 hown hK hP 0 rfl rfl 1 (by decide) (hts (.fieldLink RX12 9 "MistHeapsModel" "s" "[I") kc_mHill_1) (fun _ h9 => h9) rfl dX12_hill_158 ?_
                refine lv_iconst (v := 1) hx hb dX12_hill_161 (by decide) ?_
                refine lv_dup2_11 hx hb dX12_hill_162 rfl rfl ?_
                refine va_iald hx hb hK hP 1 0 rfl rfl (vp_in_nI (n := 1) (N := 901) (by omega) (by omega)) dX12_hill_163 ?_
                refine qi_as (y := nI nl) ((show f1 (1 : Int32).toNatClampNeg = f1 1 from rfl).trans ((hF 1 (by omega) (by omega) (by omega)).trans ((hF0 1 (by omega) (by omega) (by omega)).trans z1))) ?_
                refine lv_iconst (v := 1) hx hb dX12_hill_164 (by decide) ?_
                refine lv_iadd hx hb dX12_hill_165 ?_
                refine qi_as (y := nI (nl + 1)) (nI_add nl 1) ?_
                refine va_iast hx hb hK hP hD hS 1 0 rfl rfl (vp_in_nI (n := 1) (N := 901) (by omega) (by omega)) dX12_hill_166 (fun H locs hP hD hS => ?_)
                have hP : va_P (dC, dI) vwCl [(zo14irriiiiiirriirrrrlriiii m0 th aS aI im (nI nl) (nI p1) (nI tp) 0 0 aB aT se dn aG aO aN aD bv aY rn kd nu tv), (zaI aS cS 901 (upd f1 1 (nI (nl + 1))))] H := hP
                have hD : va_D A [(zo14irriiiiiirriirrrrlriiii m0 th aS aI im (nI nl) (nI p1) (nI tp) 0 0 aB aT se dn aG aO aN aD bv aY rn kd nu tv), (zaI aS cS 901 (upd f1 1 (nI (nl + 1))))] := hD
                refine lv_aload_n hx hb dX12_hill_167 rfl (lv_at hl 0 rfl) ?_
                refine va_get (D := (dC, dI)) (ci := 14) (v := .ref aS) (C := RX12) (T := TX12) (N := 23) hx hb hts kc_mHill_0 hown hK hP 0 rfl rfl 1 (by decide) (hts (.fieldLink RX12 9 "MistHeapsModel" "s" "[I") kc_mHill_1) (fun _ h9 => h9) rfl dX12_hill_168 ?_
                refine lv_iconst (v := 5) hx hb dX12_hill_171 (by decide) ?_
                refine lv_aload_n hx hb dX12_hill_172 rfl (lv_at hl 0 rfl) ?_
                refine va_get (D := (dC, dI)) (ci := 14) (v := .int (nI nl)) (C := RX12) (T := TX12) (N := 23) hx hb hts kc_mHill_0 hown hK hP 0 rfl rfl 4 (by decide) (hts (.fieldLink RX12 86 "MistHeapsModel" "act" "I") kc_mHill_2) (fun _ h9 => h9) rfl dX12_hill_173 ?_
                refine va_iast hx hb hK hP hD hS 1 0 rfl rfl (vp_in_nI (n := 5) (N := 901) (by omega) (by omega)) dX12_hill_176 (fun H locs hP hD hS => ?_)
                have hP : va_P (dC, dI) vwCl [(zo14irriiiiiirriirrrrlriiii m0 th aS aI im (nI nl) (nI p1) (nI tp) 0 0 aB aT se dn aG aO aN aD bv aY rn kd nu tv), (zaI aS cS 901 (upd (upd f1 1 (nI (nl + 1))) 5 (nI nl)))] H := hP
                have hD : va_D A [(zo14irriiiiiirriirrrrlriiii m0 th aS aI im (nI nl) (nI p1) (nI tp) 0 0 aB aT se dn aG aO aN aD bv aY rn kd nu tv), (zaI aS cS 901 (upd (upd f1 1 (nI (nl + 1))) 5 (nI nl)))] := hD
                refine lv_aload_n hx hb dX12_hill_177 rfl (lv_at hl 0 rfl) ?_
                refine va_get (D := (dC, dI)) (ci := 14) (v := .int (nI nl)) (C := RX12) (T := TX12) (N := 23) hx hb hts kc_mHill_0 hown hK hP 0 rfl rfl 4 (by decide) (hts (.fieldLink RX12 86 "MistHeapsModel" "act" "I") kc_mHill_2) (fun _ h9 => h9) rfl dX12_hill_178 ?_
                rw [hQ]
                have hP9 := hP.sub (ws' := [(zo14irriiiiiirriirrrrlriiii m0 th aS aI im (nI nl) (nI p1) (nI tp) 0 0 aB aT se dn aG aO aN aD bv aY rn kd nu tv), (zaI aS cS 901 (upd (upd f1 1 (nI (nl + 1))) 5 (nI nl)))]) [0, 1] rfl
                have hD9 := hD.sub (ws' := [(zo14irriiiiiirriirrrrlriiii m0 th aS aI im (nI nl) (nI p1) (nI tp) 0 0 aB aT se dn aG aO aN aD bv aY rn kd nu tv), (zaI aS cS 901 (upd (upd f1 1 (nI (nl + 1))) 5 (nI nl)))]) [0, 1] (by decide) rfl
                have hK9 := hK.sub (tys' := [(cS, .int)]) [0] rfl
                exact W.iret (v := nI nl) hx hb hr (fun tQ htQ hWQ => ⟨⟨(nI nl), ((upd (upd f1 1 (nI (nl + 1))) 5 (nI nl)), (nI nl), (nI p1), (nI tp), 0, 0), rfl, Or.inr ⟨by omega, HQ_good (by omega) z0 hF0 hF hI, (by rw [pk_un (by omega), pk_un (by omega)]; exact (hF 4 (by omega) (by omega) (by omega)).trans z0), Or.inr ⟨C1, p1, hE9.trans (af_e (by omega)), rfl, (pk_un (by omega)).trans pk_us, pk_us, ⟨by rw [pk_un (by omega), pk_un (by omega)]; exact hI.2.2.2.1, fun i hi => by have := hI.2.2.2.2.1; rw [pk_un (by omega), pk_un (by omega)]; exact hI.2.2.2.2.2.2.2 i hi, by have := hI.2.2.2.2.1; omega, by rw [pk_un (by omega), pk_un (by omega)]; exact hsg⟩⟩⟩, by rw [htQ]; exact hP9, va_K.moved hWQ.alike hK9, hD9⟩, hS.F htQ⟩) hS.2.2 dX12_hill_181
              · skip
                have c_44 : ¬ p1 = tp := fun q => c_44 ((nI_eq (a := p1) (b := tp) (by omega) (by omega)).mpr q)
                refine lv_bipush (v := (-10)) hx hb dX12_hill_149 (by decide) ?_
                refine lv_aload_n hx hb dX12_hill_151 rfl (lv_at hl 0 rfl) ?_
                refine va_get (D := (dC, dI)) (ci := 14) (v := .int (nI p1)) (C := RX12) (T := TX12) (N := 23) hx hb hts kc_mHill_0 hown hK hP 0 rfl rfl 5 (by decide) (hts (.fieldLink RX12 59 "MistHeapsModel" "spot" "I") kc_mHill_4) (fun _ h9 => h9) rfl dX12_hill_152 ?_
                refine lv_isub hx hb dX12_hill_155 ?_
                rw [hQ]
                have hP9 := hP.sub (ws' := [(zo14irriiiiiirriirrrrlriiii m0 th aS aI im (nI nl) (nI p1) (nI tp) 0 0 aB aT se dn aG aO aN aD bv aY rn kd nu tv), (zaI aS cS 901 f1)]) [0, 1] rfl
                have hD9 := hD.sub (ws' := [(zo14irriiiiiirriirrrrlriiii m0 th aS aI im (nI nl) (nI p1) (nI tp) 0 0 aB aT se dn aG aO aN aD bv aY rn kd nu tv), (zaI aS cS 901 f1)]) [0, 1] (by decide) rfl
                have hK9 := hK.sub (tys' := [(cS, .int)]) [0] rfl
                exact W.iret (v := (-10) - (nI p1)) hx hb hr (fun tQ htQ hWQ => ⟨⟨((-10) - (nI p1)), (f1, (nI nl), (nI p1), (nI tp), 0, 0), rfl, Or.inr ⟨by omega, HQ_bad (by omega) z1 hHd z0 hF0 hF, (hF 4 (by omega) (by omega) (by omega)).trans z0, Or.inl ⟨p1, by omega, hE9.trans (by rw [show 10 - n1 = 0 by omega]; exact af_0 (by omega)), rfl, fun i b1 b2 b3 b4 => (hF i b2 b3 b4).trans (hF0 i b1 b2 b3)⟩⟩, by rw [htQ]; exact hP9, va_K.moved hWQ.alike hK9, hD9⟩, hS.F htQ⟩) hS.2.2 dX12_hill_156
            · skip
              have c_42 : ¬ 10 ≤ n1 := fun q => c_42 ((nI_leI (a := 10) (b := n1) (by omega) (by omega)).mpr q)
              refine lv_aload_n hx hb dX12_hill_102 rfl (lv_at hl 0 rfl) ?_
              have hPc := hP.sub (ws' := [(zo14irriiiiiirriirrrrlriiii m0 th aS aI im (nI nl) (nI p1) (nI tp) 0 0 aB aT se dn aG aO aN aD bv aY rn kd nu tv), (zaI aS cS 901 f1)]) [0, 1] rfl
              have hKc := hK.sub (tys' := [(cS, .int)]) [0] rfl
              refine vp_callSi (va_runV (As := []) (rest := []) ⟨hx, hb, hml, hown, hts⟩ (c_here l dC dI m0 aS aI aB aT aG aO aN aD aY th im (nI nl) (nI p1) (nI tp) 0 0 se dn rn kd nu tv bv cS f1 nl p1 tp (by omega) (by omega) (by omega)) (cwV 0 hts gX12_hill_X12_here rfl rfl rfl hd_yX12_here ⟨Nat.le_of_ble_eq_true rfl, Nat.le_of_ble_eq_true rfl⟩) ⟨fun a U g mk q => by obtain ⟨q0, qP, qK⟩ := q; exact ⟨q0, qP, va_K.moved (u := U) (U := U.calling g mk a) (Vm.Alike.refl U.vm) qK⟩, va_recv hK hP (ci := 14) (q := (RX12, TX12, 23)) (q0 := 0) rfl rfl, fun U hU hW => ⟨rfl, by rw [hU]; exact hPc, va_K.moved hW.alike hKc⟩⟩ rfl rfl hl.1 rfl (lv_room (Nat.le_of_ble_eq_true rfl)) dX12_hill_103 ⟨Nat.le_of_ble_eq_true rfl, Nat.le_of_ble_eq_true rfl⟩).run (fun r_45 hw_46 => ?_)
              refine lv_bipush (v := 59) hx hb dX12_hill_106 (by decide) ?_
              refine lv_icmp_ne (tgt := 131) hx hb dX12_hill_108 (by decide) (fun c_47 => ?_) (fun c_47 => ?_)
              · skip
                have hn9 : ¬ ss p1 = 59 := fun z => c_47 (by rw [hw_46]; exact ((TP_PQ gT0 ht hF).eq (c := 59) (by omega) (by omega)).mpr z)
                refine lv_aload_n hx hb dX12_hill_131 rfl (lv_at hl 0 rfl) ?_
                refine va_get (D := (dC, dI)) (ci := 14) (v := .int 0) (C := RX12) (T := TX12) (N := 23) hx hb hts kc_mHill_0 hown hK hP 0 rfl rfl 7 (by decide) (hts (.fieldLink RX12 65 "MistHeapsModel" "isWrong" "Z") kc_mHill_5) (fun _ h9 => h9) rfl dX12_hill_132 ?_
                refine lv_if_ne (tgt := 149) hx hb dX12_hill_135 (by decide) (fun c_48 => absurd c_48 (by decide)) (fun _ => ?_)
                refine lv_aload_n hx hb dX12_hill_138 rfl (lv_at hl 0 rfl) ?_
                refine va_get (D := (dC, dI)) (ci := 14) (v := .int (nI p1)) (C := RX12) (T := TX12) (N := 23) hx hb hts kc_mHill_0 hown hK hP 0 rfl rfl 5 (by decide) (hts (.fieldLink RX12 59 "MistHeapsModel" "spot" "I") kc_mHill_4) (fun _ h9 => h9) rfl dX12_hill_139 ?_
                refine lv_aload_n hx hb dX12_hill_142 rfl (lv_at hl 0 rfl) ?_
                refine va_get (D := (dC, dI)) (ci := 14) (v := .int (nI tp)) (C := RX12) (T := TX12) (N := 23) hx hb hts kc_mHill_0 hown hK hP 0 rfl rfl 6 (by decide) (hts (.fieldLink RX12 62 "MistHeapsModel" "end" "I") kc_mHill_3) (fun _ h9 => h9) rfl dX12_hill_143 ?_
                refine lv_icmp_eq (tgt := 157) hx hb dX12_hill_146 (by decide) (fun c_49 => ?_) (fun c_49 => ?_)
                · skip
                  have c_49 : p1 = tp := (nI_eq (a := p1) (b := tp) (by omega) (by omega)).mp c_49
                  refine lv_aload_n hx hb dX12_hill_157 rfl (lv_at hl 0 rfl) ?_
                  refine va_get (D := (dC, dI)) (ci := 14) (v := .ref aS) (C := RX12) (T := TX12) (N := 23) hx hb hts kc_mHill_0 hown hK hP 0 rfl rfl 1 (by decide) (hts (.fieldLink RX12 9 "MistHeapsModel" "s" "[I") kc_mHill_1) (fun _ h9 => h9) rfl dX12_hill_158 ?_
                  refine lv_iconst (v := 1) hx hb dX12_hill_161 (by decide) ?_
                  refine lv_dup2_11 hx hb dX12_hill_162 rfl rfl ?_
                  refine va_iald hx hb hK hP 1 0 rfl rfl (vp_in_nI (n := 1) (N := 901) (by omega) (by omega)) dX12_hill_163 ?_
                  refine qi_as (y := nI nl) ((show f1 (1 : Int32).toNatClampNeg = f1 1 from rfl).trans ((hF 1 (by omega) (by omega) (by omega)).trans ((hF0 1 (by omega) (by omega) (by omega)).trans z1))) ?_
                  refine lv_iconst (v := 1) hx hb dX12_hill_164 (by decide) ?_
                  refine lv_iadd hx hb dX12_hill_165 ?_
                  refine qi_as (y := nI (nl + 1)) (nI_add nl 1) ?_
                  refine va_iast hx hb hK hP hD hS 1 0 rfl rfl (vp_in_nI (n := 1) (N := 901) (by omega) (by omega)) dX12_hill_166 (fun H locs hP hD hS => ?_)
                  have hP : va_P (dC, dI) vwCl [(zo14irriiiiiirriirrrrlriiii m0 th aS aI im (nI nl) (nI p1) (nI tp) 0 0 aB aT se dn aG aO aN aD bv aY rn kd nu tv), (zaI aS cS 901 (upd f1 1 (nI (nl + 1))))] H := hP
                  have hD : va_D A [(zo14irriiiiiirriirrrrlriiii m0 th aS aI im (nI nl) (nI p1) (nI tp) 0 0 aB aT se dn aG aO aN aD bv aY rn kd nu tv), (zaI aS cS 901 (upd f1 1 (nI (nl + 1))))] := hD
                  refine lv_aload_n hx hb dX12_hill_167 rfl (lv_at hl 0 rfl) ?_
                  refine va_get (D := (dC, dI)) (ci := 14) (v := .ref aS) (C := RX12) (T := TX12) (N := 23) hx hb hts kc_mHill_0 hown hK hP 0 rfl rfl 1 (by decide) (hts (.fieldLink RX12 9 "MistHeapsModel" "s" "[I") kc_mHill_1) (fun _ h9 => h9) rfl dX12_hill_168 ?_
                  refine lv_iconst (v := 5) hx hb dX12_hill_171 (by decide) ?_
                  refine lv_aload_n hx hb dX12_hill_172 rfl (lv_at hl 0 rfl) ?_
                  refine va_get (D := (dC, dI)) (ci := 14) (v := .int (nI nl)) (C := RX12) (T := TX12) (N := 23) hx hb hts kc_mHill_0 hown hK hP 0 rfl rfl 4 (by decide) (hts (.fieldLink RX12 86 "MistHeapsModel" "act" "I") kc_mHill_2) (fun _ h9 => h9) rfl dX12_hill_173 ?_
                  refine va_iast hx hb hK hP hD hS 1 0 rfl rfl (vp_in_nI (n := 5) (N := 901) (by omega) (by omega)) dX12_hill_176 (fun H locs hP hD hS => ?_)
                  have hP : va_P (dC, dI) vwCl [(zo14irriiiiiirriirrrrlriiii m0 th aS aI im (nI nl) (nI p1) (nI tp) 0 0 aB aT se dn aG aO aN aD bv aY rn kd nu tv), (zaI aS cS 901 (upd (upd f1 1 (nI (nl + 1))) 5 (nI nl)))] H := hP
                  have hD : va_D A [(zo14irriiiiiirriirrrrlriiii m0 th aS aI im (nI nl) (nI p1) (nI tp) 0 0 aB aT se dn aG aO aN aD bv aY rn kd nu tv), (zaI aS cS 901 (upd (upd f1 1 (nI (nl + 1))) 5 (nI nl)))] := hD
                  refine lv_aload_n hx hb dX12_hill_177 rfl (lv_at hl 0 rfl) ?_
                  refine va_get (D := (dC, dI)) (ci := 14) (v := .int (nI nl)) (C := RX12) (T := TX12) (N := 23) hx hb hts kc_mHill_0 hown hK hP 0 rfl rfl 4 (by decide) (hts (.fieldLink RX12 86 "MistHeapsModel" "act" "I") kc_mHill_2) (fun _ h9 => h9) rfl dX12_hill_178 ?_
                  rw [hQ]
                  have hP9 := hP.sub (ws' := [(zo14irriiiiiirriirrrrlriiii m0 th aS aI im (nI nl) (nI p1) (nI tp) 0 0 aB aT se dn aG aO aN aD bv aY rn kd nu tv), (zaI aS cS 901 (upd (upd f1 1 (nI (nl + 1))) 5 (nI nl)))]) [0, 1] rfl
                  have hD9 := hD.sub (ws' := [(zo14irriiiiiirriirrrrlriiii m0 th aS aI im (nI nl) (nI p1) (nI tp) 0 0 aB aT se dn aG aO aN aD bv aY rn kd nu tv), (zaI aS cS 901 (upd (upd f1 1 (nI (nl + 1))) 5 (nI nl)))]) [0, 1] (by decide) rfl
                  have hK9 := hK.sub (tys' := [(cS, .int)]) [0] rfl
                  exact W.iret (v := nI nl) hx hb hr (fun tQ htQ hWQ => ⟨⟨(nI nl), ((upd (upd f1 1 (nI (nl + 1))) 5 (nI nl)), (nI nl), (nI p1), (nI tp), 0, 0), rfl, Or.inr ⟨by omega, HQ_good (by omega) z0 hF0 hF hI, (by rw [pk_un (by omega), pk_un (by omega)]; exact (hF 4 (by omega) (by omega) (by omega)).trans z0), Or.inr ⟨C1, p1, hE9.trans (af_e (by omega)), rfl, (pk_un (by omega)).trans pk_us, pk_us, ⟨by rw [pk_un (by omega), pk_un (by omega)]; exact hI.2.2.2.1, fun i hi => by have := hI.2.2.2.2.1; rw [pk_un (by omega), pk_un (by omega)]; exact hI.2.2.2.2.2.2.2 i hi, by have := hI.2.2.2.2.1; omega, by rw [pk_un (by omega), pk_un (by omega)]; exact hsg⟩⟩⟩, by rw [htQ]; exact hP9, va_K.moved hWQ.alike hK9, hD9⟩, hS.F htQ⟩) hS.2.2 dX12_hill_181
                · skip
                  have c_49 : ¬ p1 = tp := fun q => c_49 ((nI_eq (a := p1) (b := tp) (by omega) (by omega)).mpr q)
                  refine lv_bipush (v := (-10)) hx hb dX12_hill_149 (by decide) ?_
                  refine lv_aload_n hx hb dX12_hill_151 rfl (lv_at hl 0 rfl) ?_
                  refine va_get (D := (dC, dI)) (ci := 14) (v := .int (nI p1)) (C := RX12) (T := TX12) (N := 23) hx hb hts kc_mHill_0 hown hK hP 0 rfl rfl 5 (by decide) (hts (.fieldLink RX12 59 "MistHeapsModel" "spot" "I") kc_mHill_4) (fun _ h9 => h9) rfl dX12_hill_152 ?_
                  refine lv_isub hx hb dX12_hill_155 ?_
                  rw [hQ]
                  have hP9 := hP.sub (ws' := [(zo14irriiiiiirriirrrrlriiii m0 th aS aI im (nI nl) (nI p1) (nI tp) 0 0 aB aT se dn aG aO aN aD bv aY rn kd nu tv), (zaI aS cS 901 f1)]) [0, 1] rfl
                  have hD9 := hD.sub (ws' := [(zo14irriiiiiirriirrrrlriiii m0 th aS aI im (nI nl) (nI p1) (nI tp) 0 0 aB aT se dn aG aO aN aD bv aY rn kd nu tv), (zaI aS cS 901 f1)]) [0, 1] (by decide) rfl
                  have hK9 := hK.sub (tys' := [(cS, .int)]) [0] rfl
                  exact W.iret (v := (-10) - (nI p1)) hx hb hr (fun tQ htQ hWQ => ⟨⟨((-10) - (nI p1)), (f1, (nI nl), (nI p1), (nI tp), 0, 0), rfl, Or.inr ⟨by omega, HQ_bad (by omega) z1 hHd z0 hF0 hF, (hF 4 (by omega) (by omega) (by omega)).trans z0, Or.inl ⟨p1, by omega, hE9.trans (af_n (by omega) hn9), rfl, fun i b1 b2 b3 b4 => (hF i b2 b3 b4).trans (hF0 i b1 b2 b3)⟩⟩, by rw [htQ]; exact hP9, va_K.moved hWQ.alike hK9, hD9⟩, hS.F htQ⟩) hS.2.2 dX12_hill_156
              · skip
                have hs9 : ss p1 = 59 := ((TP_PQ gT0 ht hF).eq (c := 59) (by omega) (by omega)).mp (by rw [← hw_46, c_47]; rfl)
                have hlt : p1 < tp := Nat.lt_of_not_le (fun z => by have := gT.2.1 p1 z; omega)
                have hne : ¬ p1 = tp := by omega
                rw [show 10 - n1 = (10 - (n1 + 1)) + 1 by omega] at hE9
                refine lv_aload_n hx hb dX12_hill_111 rfl (lv_at hl 0 rfl) ?_
                refine lv_dup hx hb dX12_hill_112 rfl ?_
                refine va_get (D := (dC, dI)) (ci := 14) (v := .int (nI p1)) (C := RX12) (T := TX12) (N := 23) hx hb hts kc_mHill_0 hown hK hP 0 rfl rfl 5 (by decide) (hts (.fieldLink RX12 59 "MistHeapsModel" "spot" "I") kc_mHill_4) (fun _ h9 => h9) rfl dX12_hill_113 ?_
                refine lv_iconst (v := 1) hx hb dX12_hill_116 (by decide) ?_
                refine lv_iadd hx hb dX12_hill_117 ?_
                refine qi_as (y := nI (p1 + 1)) (nI_add p1 1) ?_
                refine va_put (D := (dC, dI)) (ci := 14) (v := .int (nI (p1 + 1))) (ty := .int) (C := RX12) (T := TX12) (N := 23) hx hb hts kc_mHill_0 tyX12 tyX12_ok nmX12 hown hK hP hD hS 0 rfl rfl 5 (by decide) (hts (.fieldLink RX12 59 "MistHeapsModel" "spot" "I") kc_mHill_4) (fun _ h9 => h9) rfl (by decide +kernel) rfl rfl (Nat.le_of_ble_eq_true rfl) dX12_hill_118 (fun H locs hP hD hS => ?_)
                have hP : va_P (dC, dI) vwCl [(zo14irriiiiiirriirrrrlriiii m0 th aS aI im (nI nl) (nI (p1 + 1)) (nI tp) 0 0 aB aT se dn aG aO aN aD bv aY rn kd nu tv), (zaI aS cS 901 f1)] H := hP
                have hD : va_D A [(zo14irriiiiiirriirrrrlriiii m0 th aS aI im (nI nl) (nI (p1 + 1)) (nI tp) 0 0 aB aT se dn aG aO aN aD bv aY rn kd nu tv), (zaI aS cS 901 f1)] := hD
                refine lv_aload_n hx hb dX12_hill_121 rfl (lv_at hl 0 rfl) ?_
                have hPc := hP.sub (ws' := [(zo14irriiiiiirriirrrrlriiii m0 th aS aI im (nI nl) (nI (p1 + 1)) (nI tp) 0 0 aB aT se dn aG aO aN aD bv aY rn kd nu tv), (zaI aS cS 901 f1)]) [0, 1] rfl
                have hDc := hD.sub (ws' := [(zo14irriiiiiirriirrrrlriiii m0 th aS aI im (nI nl) (nI (p1 + 1)) (nI tp) 0 0 aB aT se dn aG aO aN aD bv aY rn kd nu tv), (zaI aS cS 901 f1)]) [0, 1] (by decide) rfl
                have hKc := hK.sub (tys' := [(cS, .int)]) [0] rfl
                have hFc := va_free (wc := [(zo14irriiiiiirriirrrrlriiii m0 th aS aI im (nI nl) (nI (p1 + 1)) (nI tp) 0 0 aB aT se dn aG aO aN aD bv aY rn kd nu tv), (zaI aS cS 901 f1)]) hD hS hA [0, 1] rfl
                refine va_callv (va_runV (As := []) (rest := []) ⟨hx, hb, hml, hown, hts⟩ (c_clauseHere l dC dI sK sV m0 aS aI aB aT aG aO aN aD aY th im (nI nl) (nI (p1 + 1)) (nI tp) 0 0 se dn rn kd nu tv bv cS f1 nl (p1 + 1) tp (flC C1) ss H.size (by omega) (by omega) (by omega) ((hI).mono (by omega) (by omega)) ((TP_PQ gT0 ht (hF)))) (cwV 0 hts gX12_hill_X12_clauseHere rfl rfl rfl hd_yX12_clauseHere ⟨Nat.le_of_ble_eq_true rfl, Nat.le_of_ble_eq_true rfl⟩) ⟨fun a U g mk q => by obtain ⟨q0, q1, qP, qK, qD, qhE⟩ := q; exact ⟨q0, q1, qP, va_K.moved (u := U) (U := U.calling g mk a) (Vm.Alike.refl U.vm) qK, qD, qhE.same rfl rfl⟩, va_recv hK hP (ci := 14) (q := (RX12, TX12, 23)) (q0 := 0) rfl rfl, fun U hU hW => ⟨rfl, by rw [hU], by rw [hU]; exact hPc, va_K.moved hW.alike hKc, hDc.weaken (fun _ _ _ _ => trivial), hE.call hS hU hW (fun q h => hFc q h)⟩⟩ rfl rfl hl.1 rfl (lv_room (Nat.le_of_ble_eq_true rfl)) dX12_hill_122 ⟨Nat.le_of_ble_eq_true rfl, Nat.le_of_ble_eq_true rfl⟩) hS (fun q _ h => hFc q h) hFc (fun u tC H1 locs htC hvm hw_51 hB hz1 hk1 hS => ?_)
                obtain ⟨fS9_52, sp9_53, wg9_54⟩ := u
                try dsimp only at hw_51 hB
                obtain ⟨hP1, hK1, hD1⟩ := hB
                rw [htC] at hP1
                have hK1 := va_K.moved hvm.symm hK1
                obtain ⟨hP, hD⟩ := va_join (wr := []) (w1 := [(zo14irriiiiiirriirrrrlriiii m0 th aS aI im (nI nl) sp9_53 (nI tp) wg9_54 0 aB aT se dn aG aO aN aD bv aY rn kd nu tv), (zaI aS cS 901 fS9_52)]) hP hD [0, 1] [] rfl rfl (by decide) (by decide) hk1 hFc hP1 hD1
                have hK := (hK.sub (tys' := []) [] rfl).app hK1
                generalize H1 = H at hP hS ⊢
                have hP : va_P (dC, dI) vwCl [(zo14irriiiiiirriirrrrlriiii m0 th aS aI im (nI nl) sp9_53 (nI tp) wg9_54 0 aB aT se dn aG aO aN aD bv aY rn kd nu tv), (zaI aS cS 901 fS9_52)] H := hP
                have hD : va_D A [(zo14irriiiiiirriirrrrlriiii m0 th aS aI im (nI nl) sp9_53 (nI tp) wg9_54 0 aB aT se dn aG aO aN aD bv aY rn kd nu tv), (zaI aS cS 901 fS9_52)] := hD
                have hK : va_K (dC, dI) vwCl [(cS, .int)] s := hK
                obtain ⟨p_55, rfl, h_57, h_58, hF_59, q9⟩ := hw_51
                rcases q9 with ⟨rfl, eC_62⟩ | ⟨rfl, c_56, eC_62, hI_60, h_61⟩
                · skip
                  refine lv_iinc (v := nI (n1 + 1)) (lv' := [(1, .int (nI (n1 + 1))), (0, .ref m0)]) hx hb dX12_hill_125 hl (k := 1) rfl (nI_add n1 1) (by decide) rfl (fun ls hl => ?_)
                  refine lv_goto (tgt := 89) hx hb dX12_hill_128 (by decide) ?_
                  exact ih89 (n1 + 1) (p_55) ([]) (1) (fS9_52) (by omega) (by omega) (by omega) ((hF).tr hF_59) (Or.inl ⟨rfl, hE9.trans (af_b hne hs9 eC_62)⟩) _ _ (hK.sub [0] rfl) (hP.sub [0, 1] rfl) (hD.sub [0, 1] (by decide) rfl) hS ls (lv_sub hl [1, 0] rfl)
                · skip
                  refine lv_iinc (v := nI (n1 + 1)) (lv' := [(1, .int (nI (n1 + 1))), (0, .ref m0)]) hx hb dX12_hill_125 hl (k := 1) rfl (nI_add n1 1) (by decide) rfl (fun ls hl => ?_)
                  refine lv_goto (tgt := 89) hx hb dX12_hill_128 (by decide) ?_
                  exact ih89 (n1 + 1) (p_55) ((C1 ++ [c_56])) (0) (fS9_52) (by omega) (by omega) (by omega) ((hF).tr hF_59) (Or.inr ⟨rfl, hE9.trans (af_g hne hs9 eC_62), (PI.fl hI_60), (sg_stp h_61 hsg)⟩) _ _ (hK.sub [0] rfl) (hP.sub [0, 1] rfl) (hD.sub [0, 1] (by decide) rfl) hS ls (lv_sub hl [1, 0] rfl)
      exact L89 _ (1) (p_7) (([] ++ [c_8])) (0) (fS9_4) (Nat.lt_succ_self _) (by omega) (by omega) ((PQ.rf).tr hF_11) (Or.inr ⟨rfl, hl_s1 eC_14, (PI.fl hI_12), (sg_stp h_13 zs0)⟩) _ _ (hK.sub [0] rfl) (hP.sub [0, 1] rfl) (hD.sub [0, 1] (by decide) rfl) hS ls (lv_sub hl [1, 0] rfl)
  · skip
    have c_1 : nl = 5 := (nI_eq (a := nl) (b := 5) (by omega) (by omega)).mp c_1
    refine lv_bipush (v := (-4)) hx hb dX12_hill_10 (by decide) ?_
    rw [hQ]
    have hP9 := hP.sub (ws' := [(zo14irriiiiiirriirrrrlriiii m0 th aS aI im ac sp en wg op aB aT se dn aG aO aN aD bv aY rn kd nu tv), (zaI aS cS 901 fS)]) [0, 1] rfl
    have hD9 := hD.sub (ws' := [(zo14irriiiiiirriirrrrlriiii m0 th aS aI im ac sp en wg op aB aT se dn aG aO aN aD bv aY rn kd nu tv), (zaI aS cS 901 fS)]) [0, 1] (by decide) rfl
    have hK9 := hK.sub (tys' := [(cS, .int)]) [0] rfl
    exact W.iret (v := (-4)) hx hb hr (fun tQ htQ hWQ => ⟨⟨(-4), (fS, ac, sp, en, wg, op), rfl, Or.inl ⟨by omega, rfl, rfl⟩, by rw [htQ]; exact hP9, va_K.moved hWQ.alike hK9, hD9⟩, hS.F htQ⟩) hS.2.2 dX12_hill_12
