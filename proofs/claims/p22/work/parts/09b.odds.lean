theorem ggX12_odds_X12_isCell : GoodIn wsX12_odds wsX12_isCell := gga_of 1304 rfl rfl rfl
theorem gX12_odds_X12_isCell : GoodIn wsX12_odds (va_wsS RX12 149 yX12_isCell wsX12_isCell) := goodIn_app (ggh_of [1302, 1303, 72] rfl rfl rfl) ggX12_odds_X12_isCell
theorem ggX12_odds_X12_in : GoodIn wsX12_odds wsX12_in := gga_of 1217 rfl rfl rfl
theorem gX12_odds_X12_in : GoodIn wsX12_odds (va_wsS RX12 45 yX12_in wsX12_in) := goodIn_app (ggh_of [1215, 1216, 72] rfl rfl rfl) ggX12_odds_X12_in
theorem ggX12_odds_X12_looksForDrifts : GoodIn wsX12_odds wsX12_looksForDrifts := gga_of 1420 rfl rfl rfl
theorem gX12_odds_X12_looksForDrifts : GoodIn wsX12_odds (wsV RX12 209 RX12 yX12_looksForDrifts wsX12_looksForDrifts) := goodIn_app (ggh_of [1417, 1419, 48, 72] rfl rfl rfl) ggX12_odds_X12_looksForDrifts
theorem ggX12_odds_X12_begins : GoodIn wsX12_odds wsX12_begins := gga_of 1424 rfl rfl rfl
theorem gX12_odds_X12_begins : GoodIn wsX12_odds (wsV RX12 212 RX12 yX12_begins wsX12_begins) := goodIn_app (ggh_of [1421, 1423, 49, 72] rfl rfl rfl) ggX12_odds_X12_begins
theorem ggX12_odds_X12_twenties : GoodIn wsX12_odds wsX12_twenties := gga_of 1443 rfl rfl rfl
theorem gX12_odds_X12_twenties : GoodIn wsX12_odds (va_wsS RX12 226 yX12_twenties wsX12_twenties) := goodIn_app (ggh_of [1441, 1442, 72] rfl rfl rfl) ggX12_odds_X12_twenties
theorem ggX12_odds_X12_lowest : GoodIn wsX12_odds wsX12_lowest := gga_of 1446 rfl rfl rfl
theorem gX12_odds_X12_lowest : GoodIn wsX12_odds (va_wsS RX12 229 yX12_lowest wsX12_lowest) := goodIn_app (ggh_of [1444, 1445, 72] rfl rfl rfl) ggX12_odds_X12_lowest
theorem ggX12_odds_X12_over : GoodIn wsX12_odds wsX12_over := gga_of 1440 rfl rfl rfl
theorem gX12_odds_X12_over : GoodIn wsX12_odds (wsV RX12 222 RX12 yX12_over wsX12_over) := goodIn_app (ggh_of [1437, 1439, 52, 72] rfl rfl rfl) ggX12_odds_X12_over
theorem ggX12_odds_X12_goesOn : GoodIn wsX12_odds wsX12_goesOn := gga_of 1428 rfl rfl rfl
theorem gX12_odds_X12_goesOn : GoodIn wsX12_odds (wsV RX12 215 RX12 yX12_goesOn wsX12_goesOn) := goodIn_app (ggh_of [1425, 1427, 50, 72] rfl rfl rfl) ggX12_odds_X12_goesOn
theorem ggX12_odds_X12_isHeap : GoodIn wsX12_odds wsX12_isHeap := gga_of 1320 rfl rfl rfl
theorem gX12_odds_X12_isHeap : GoodIn wsX12_odds (wsV RX12 164 RX12 yX12_isHeap wsX12_isHeap) := goodIn_app (ggh_of [1317, 1319, 37, 72] rfl rfl rfl) ggX12_odds_X12_isHeap
theorem ggX12_odds_X12_seen : GoodIn wsX12_odds wsX12_seen := gga_of 1436 rfl rfl rfl
theorem gX12_odds_X12_seen : GoodIn wsX12_odds (wsV RX12 218 RX12 yX12_seen wsX12_seen) := goodIn_app (ggh_of [1433, 1435, 51, 72] rfl rfl rfl) ggX12_odds_X12_seen
noncomputable def dk09bodds_cX12_odds_0 : List (Nat × Instr × Nat) := [(0, .iload_n 2, 1), (1, .bipush 50, 2), (3, .if_icmp .lt 18, 3), (21, .iconst 0, 1), (22, .istore 4, 2), (24, .iload_n 1, 1), (25, .invokestatic 149, 3), (28, .ifCond .eq 30, 3), (31, .iload_n 2, 1), (32, .invokestatic 149, 3), (35, .ifCond .ne 14, 3), (49, .iload_n 3, 1), (50, .iconst 0, 1), (51, .iconst 1, 1), (52, .invokestatic 45, 3), (55, .ifCond .ne 7, 3), (62, .aload_n 0, 1), (63, .invokevirtual 209, 3), (66, .aload_n 0, 1), (67, .iload_n 1, 1), (68, .invokevirtual 212, 3), (71, .iconst 0, 1), (72, .istore 5, 2), (74, .iload 5, 2), (76, .aload_n 0, 1), (77, .getfield 9, 3), (80, .iconst 2, 1), (81, .iaload, 1), (82, .if_icmp .ge 23, 3), (105, .iload 4, 2), (107, .ifCond .eq 14, 3), (121, .iload_n 2, 1), (122, .bipush 40, 2), (124, .if_icmp .ne 10, 3), (134, .aload_n 0, 1), (135, .getfield 28, 3), (138, .iload_n 2, 1), (139, .laload, 1), (140, .lstore 5, 2), (142, .lload 5, 2)]
set_option maxRecDepth 100000 in
theorem dk09bodds_cX12_odds_0_a : dkA cX12_odds dk09bodds_cX12_odds_0 = true := by decide +kernel
theorem dX12_odds_0 : decode cX12_odds 0 = .ok (.iload_n 2, 1) := dkAt dk09bodds_cX12_odds_0_a 0 rfl
theorem dX12_odds_1 : decode cX12_odds 1 = .ok (.bipush 50, 2) := dkAt dk09bodds_cX12_odds_0_a 1 rfl
theorem dX12_odds_3 : decode cX12_odds 3 = .ok (.if_icmp .lt 18, 3) := dkAt dk09bodds_cX12_odds_0_a 2 rfl
theorem dX12_odds_21 : decode cX12_odds 21 = .ok (.iconst 0, 1) := dkAt dk09bodds_cX12_odds_0_a 3 rfl
theorem dX12_odds_22 : decode cX12_odds 22 = .ok (.istore 4, 2) := dkAt dk09bodds_cX12_odds_0_a 4 rfl
theorem dX12_odds_24 : decode cX12_odds 24 = .ok (.iload_n 1, 1) := dkAt dk09bodds_cX12_odds_0_a 5 rfl
theorem dX12_odds_25 : decode cX12_odds 25 = .ok (.invokestatic 149, 3) := dkAt dk09bodds_cX12_odds_0_a 6 rfl
theorem dX12_odds_28 : decode cX12_odds 28 = .ok (.ifCond .eq 30, 3) := dkAt dk09bodds_cX12_odds_0_a 7 rfl
theorem dX12_odds_31 : decode cX12_odds 31 = .ok (.iload_n 2, 1) := dkAt dk09bodds_cX12_odds_0_a 8 rfl
theorem dX12_odds_32 : decode cX12_odds 32 = .ok (.invokestatic 149, 3) := dkAt dk09bodds_cX12_odds_0_a 9 rfl
theorem dX12_odds_35 : decode cX12_odds 35 = .ok (.ifCond .ne 14, 3) := dkAt dk09bodds_cX12_odds_0_a 10 rfl
theorem dX12_odds_49 : decode cX12_odds 49 = .ok (.iload_n 3, 1) := dkAt dk09bodds_cX12_odds_0_a 11 rfl
theorem dX12_odds_50 : decode cX12_odds 50 = .ok (.iconst 0, 1) := dkAt dk09bodds_cX12_odds_0_a 12 rfl
theorem dX12_odds_51 : decode cX12_odds 51 = .ok (.iconst 1, 1) := dkAt dk09bodds_cX12_odds_0_a 13 rfl
theorem dX12_odds_52 : decode cX12_odds 52 = .ok (.invokestatic 45, 3) := dkAt dk09bodds_cX12_odds_0_a 14 rfl
theorem dX12_odds_55 : decode cX12_odds 55 = .ok (.ifCond .ne 7, 3) := dkAt dk09bodds_cX12_odds_0_a 15 rfl
theorem dX12_odds_62 : decode cX12_odds 62 = .ok (.aload_n 0, 1) := dkAt dk09bodds_cX12_odds_0_a 16 rfl
theorem dX12_odds_63 : decode cX12_odds 63 = .ok (.invokevirtual 209, 3) := dkAt dk09bodds_cX12_odds_0_a 17 rfl
theorem dX12_odds_66 : decode cX12_odds 66 = .ok (.aload_n 0, 1) := dkAt dk09bodds_cX12_odds_0_a 18 rfl
theorem dX12_odds_67 : decode cX12_odds 67 = .ok (.iload_n 1, 1) := dkAt dk09bodds_cX12_odds_0_a 19 rfl
theorem dX12_odds_68 : decode cX12_odds 68 = .ok (.invokevirtual 212, 3) := dkAt dk09bodds_cX12_odds_0_a 20 rfl
theorem dX12_odds_71 : decode cX12_odds 71 = .ok (.iconst 0, 1) := dkAt dk09bodds_cX12_odds_0_a 21 rfl
theorem dX12_odds_72 : decode cX12_odds 72 = .ok (.istore 5, 2) := dkAt dk09bodds_cX12_odds_0_a 22 rfl
theorem dX12_odds_74 : decode cX12_odds 74 = .ok (.iload 5, 2) := dkAt dk09bodds_cX12_odds_0_a 23 rfl
theorem dX12_odds_76 : decode cX12_odds 76 = .ok (.aload_n 0, 1) := dkAt dk09bodds_cX12_odds_0_a 24 rfl
theorem dX12_odds_77 : decode cX12_odds 77 = .ok (.getfield 9, 3) := dkAt dk09bodds_cX12_odds_0_a 25 rfl
theorem dX12_odds_80 : decode cX12_odds 80 = .ok (.iconst 2, 1) := dkAt dk09bodds_cX12_odds_0_a 26 rfl
theorem dX12_odds_81 : decode cX12_odds 81 = .ok (.iaload, 1) := dkAt dk09bodds_cX12_odds_0_a 27 rfl
theorem dX12_odds_82 : decode cX12_odds 82 = .ok (.if_icmp .ge 23, 3) := dkAt dk09bodds_cX12_odds_0_a 28 rfl
theorem dX12_odds_105 : decode cX12_odds 105 = .ok (.iload 4, 2) := dkAt dk09bodds_cX12_odds_0_a 29 rfl
theorem dX12_odds_107 : decode cX12_odds 107 = .ok (.ifCond .eq 14, 3) := dkAt dk09bodds_cX12_odds_0_a 30 rfl
theorem dX12_odds_121 : decode cX12_odds 121 = .ok (.iload_n 2, 1) := dkAt dk09bodds_cX12_odds_0_a 31 rfl
theorem dX12_odds_122 : decode cX12_odds 122 = .ok (.bipush 40, 2) := dkAt dk09bodds_cX12_odds_0_a 32 rfl
theorem dX12_odds_124 : decode cX12_odds 124 = .ok (.if_icmp .ne 10, 3) := dkAt dk09bodds_cX12_odds_0_a 33 rfl
theorem dX12_odds_134 : decode cX12_odds 134 = .ok (.aload_n 0, 1) := dkAt dk09bodds_cX12_odds_0_a 34 rfl
theorem dX12_odds_135 : decode cX12_odds 135 = .ok (.getfield 28, 3) := dkAt dk09bodds_cX12_odds_0_a 35 rfl
theorem dX12_odds_138 : decode cX12_odds 138 = .ok (.iload_n 2, 1) := dkAt dk09bodds_cX12_odds_0_a 36 rfl
theorem dX12_odds_139 : decode cX12_odds 139 = .ok (.laload, 1) := dkAt dk09bodds_cX12_odds_0_a 37 rfl
theorem dX12_odds_140 : decode cX12_odds 140 = .ok (.lstore 5, 2) := dkAt dk09bodds_cX12_odds_0_a 38 rfl
theorem dX12_odds_142 : decode cX12_odds 142 = .ok (.lload 5, 2) := dkAt dk09bodds_cX12_odds_0_a 39 rfl
noncomputable def dk09bodds_cX12_odds_40 : List (Nat × Instr × Nat) := [(144, .aload_n 0, 1), (145, .getfield 9, 3), (148, .iconst 2, 1), (149, .iaload, 1), (150, .invokestatic 226, 3), (153, .iload_n 3, 1), (154, .invokestatic 229, 3), (157, .lreturn, 1), (127, .aload_n 0, 1), (128, .invokevirtual 222, 3), (131, .goto 9, 3), (85, .aload_n 0, 1), (86, .aload_n 0, 1), (87, .getfield 9, 3), (90, .bipush 73, 2), (92, .iload 5, 2), (94, .iadd, 1), (95, .iaload, 1), (96, .invokevirtual 215, 3), (99, .iinc 5 1, 3), (102, .goto (-28), 3), (58, .ldc2_w 181, 3), (61, .lreturn, 1), (38, .iload_n 2, 1), (39, .bipush 40, 2), (41, .if_icmp .eq 8, 3), (44, .iload 4, 2), (46, .ifCond .eq 12, 3), (6, .aload_n 0, 1), (7, .iload_n 2, 1), (8, .bipush 50, 2), (10, .isub, 1), (11, .invokevirtual 164, 3), (14, .ifCond .eq 7, 3), (17, .iconst 1, 1), (18, .goto 4, 3), (110, .aload_n 0, 1), (111, .iload_n 2, 1), (112, .bipush 50, 2), (114, .isub, 1)]
set_option maxRecDepth 100000 in
theorem dk09bodds_cX12_odds_40_a : dkA cX12_odds dk09bodds_cX12_odds_40 = true := by decide +kernel
theorem dX12_odds_144 : decode cX12_odds 144 = .ok (.aload_n 0, 1) := dkAt dk09bodds_cX12_odds_40_a 0 rfl
theorem dX12_odds_145 : decode cX12_odds 145 = .ok (.getfield 9, 3) := dkAt dk09bodds_cX12_odds_40_a 1 rfl
theorem dX12_odds_148 : decode cX12_odds 148 = .ok (.iconst 2, 1) := dkAt dk09bodds_cX12_odds_40_a 2 rfl
theorem dX12_odds_149 : decode cX12_odds 149 = .ok (.iaload, 1) := dkAt dk09bodds_cX12_odds_40_a 3 rfl
theorem dX12_odds_150 : decode cX12_odds 150 = .ok (.invokestatic 226, 3) := dkAt dk09bodds_cX12_odds_40_a 4 rfl
theorem dX12_odds_153 : decode cX12_odds 153 = .ok (.iload_n 3, 1) := dkAt dk09bodds_cX12_odds_40_a 5 rfl
theorem dX12_odds_154 : decode cX12_odds 154 = .ok (.invokestatic 229, 3) := dkAt dk09bodds_cX12_odds_40_a 6 rfl
theorem dX12_odds_157 : decode cX12_odds 157 = .ok (.lreturn, 1) := dkAt dk09bodds_cX12_odds_40_a 7 rfl
theorem dX12_odds_127 : decode cX12_odds 127 = .ok (.aload_n 0, 1) := dkAt dk09bodds_cX12_odds_40_a 8 rfl
theorem dX12_odds_128 : decode cX12_odds 128 = .ok (.invokevirtual 222, 3) := dkAt dk09bodds_cX12_odds_40_a 9 rfl
theorem dX12_odds_131 : decode cX12_odds 131 = .ok (.goto 9, 3) := dkAt dk09bodds_cX12_odds_40_a 10 rfl
theorem dX12_odds_85 : decode cX12_odds 85 = .ok (.aload_n 0, 1) := dkAt dk09bodds_cX12_odds_40_a 11 rfl
theorem dX12_odds_86 : decode cX12_odds 86 = .ok (.aload_n 0, 1) := dkAt dk09bodds_cX12_odds_40_a 12 rfl
theorem dX12_odds_87 : decode cX12_odds 87 = .ok (.getfield 9, 3) := dkAt dk09bodds_cX12_odds_40_a 13 rfl
theorem dX12_odds_90 : decode cX12_odds 90 = .ok (.bipush 73, 2) := dkAt dk09bodds_cX12_odds_40_a 14 rfl
theorem dX12_odds_92 : decode cX12_odds 92 = .ok (.iload 5, 2) := dkAt dk09bodds_cX12_odds_40_a 15 rfl
theorem dX12_odds_94 : decode cX12_odds 94 = .ok (.iadd, 1) := dkAt dk09bodds_cX12_odds_40_a 16 rfl
theorem dX12_odds_95 : decode cX12_odds 95 = .ok (.iaload, 1) := dkAt dk09bodds_cX12_odds_40_a 17 rfl
theorem dX12_odds_96 : decode cX12_odds 96 = .ok (.invokevirtual 215, 3) := dkAt dk09bodds_cX12_odds_40_a 18 rfl
theorem dX12_odds_99 : decode cX12_odds 99 = .ok (.iinc 5 1, 3) := dkAt dk09bodds_cX12_odds_40_a 19 rfl
theorem dX12_odds_102 : decode cX12_odds 102 = .ok (.goto (-28), 3) := dkAt dk09bodds_cX12_odds_40_a 20 rfl
theorem dX12_odds_58 : decode cX12_odds 58 = .ok (.ldc2_w 181, 3) := dkAt dk09bodds_cX12_odds_40_a 21 rfl
theorem dX12_odds_61 : decode cX12_odds 61 = .ok (.lreturn, 1) := dkAt dk09bodds_cX12_odds_40_a 22 rfl
theorem dX12_odds_38 : decode cX12_odds 38 = .ok (.iload_n 2, 1) := dkAt dk09bodds_cX12_odds_40_a 23 rfl
theorem dX12_odds_39 : decode cX12_odds 39 = .ok (.bipush 40, 2) := dkAt dk09bodds_cX12_odds_40_a 24 rfl
theorem dX12_odds_41 : decode cX12_odds 41 = .ok (.if_icmp .eq 8, 3) := dkAt dk09bodds_cX12_odds_40_a 25 rfl
theorem dX12_odds_44 : decode cX12_odds 44 = .ok (.iload 4, 2) := dkAt dk09bodds_cX12_odds_40_a 26 rfl
theorem dX12_odds_46 : decode cX12_odds 46 = .ok (.ifCond .eq 12, 3) := dkAt dk09bodds_cX12_odds_40_a 27 rfl
theorem dX12_odds_6 : decode cX12_odds 6 = .ok (.aload_n 0, 1) := dkAt dk09bodds_cX12_odds_40_a 28 rfl
theorem dX12_odds_7 : decode cX12_odds 7 = .ok (.iload_n 2, 1) := dkAt dk09bodds_cX12_odds_40_a 29 rfl
theorem dX12_odds_8 : decode cX12_odds 8 = .ok (.bipush 50, 2) := dkAt dk09bodds_cX12_odds_40_a 30 rfl
theorem dX12_odds_10 : decode cX12_odds 10 = .ok (.isub, 1) := dkAt dk09bodds_cX12_odds_40_a 31 rfl
theorem dX12_odds_11 : decode cX12_odds 11 = .ok (.invokevirtual 164, 3) := dkAt dk09bodds_cX12_odds_40_a 32 rfl
theorem dX12_odds_14 : decode cX12_odds 14 = .ok (.ifCond .eq 7, 3) := dkAt dk09bodds_cX12_odds_40_a 33 rfl
theorem dX12_odds_17 : decode cX12_odds 17 = .ok (.iconst 1, 1) := dkAt dk09bodds_cX12_odds_40_a 34 rfl
theorem dX12_odds_18 : decode cX12_odds 18 = .ok (.goto 4, 3) := dkAt dk09bodds_cX12_odds_40_a 35 rfl
theorem dX12_odds_110 : decode cX12_odds 110 = .ok (.aload_n 0, 1) := dkAt dk09bodds_cX12_odds_40_a 36 rfl
theorem dX12_odds_111 : decode cX12_odds 111 = .ok (.iload_n 2, 1) := dkAt dk09bodds_cX12_odds_40_a 37 rfl
theorem dX12_odds_112 : decode cX12_odds 112 = .ok (.bipush 50, 2) := dkAt dk09bodds_cX12_odds_40_a 38 rfl
theorem dX12_odds_114 : decode cX12_odds 114 = .ok (.isub, 1) := dkAt dk09bodds_cX12_odds_40_a 39 rfl
noncomputable def dk09bodds_cX12_odds_80 : List (Nat × Instr × Nat) := [(115, .invokevirtual 218, 3), (118, .goto 22, 3)]
set_option maxRecDepth 100000 in
theorem dk09bodds_cX12_odds_80_a : dkA cX12_odds dk09bodds_cX12_odds_80 = true := by decide +kernel
theorem dX12_odds_115 : decode cX12_odds 115 = .ok (.invokevirtual 218, 3) := dkAt dk09bodds_cX12_odds_80_a 0 rfl
theorem dX12_odds_118 : decode cX12_odds 118 = .ok (.goto 22, 3) := dkAt dk09bodds_cX12_odds_80_a 1 rfl
theorem kc_mOdds_0 : ∀ w ∈ wsX120, w ∈ wsX12_odds := fun w h => List.mem_cons_of_mem _ (gin_wsX120 w h)
theorem kc_mOdds_1 : (.fieldLink RX12 9 "MistHeapsModel" "s" "[I" : Cond) ∈ wsX12_odds := kc_of 1141 rfl rfl rfl
theorem kc_mOdds_2 : (.fieldLink RX12 28 "MistHeapsModel" "often" "[J" : Cond) ∈ wsX12_odds := kc_of 1154 rfl rfl rfl
theorem kc_mOdds_3 : (.constantLong RX12 181 (-9223372036854775808) : Cond) ∈ wsX12_odds := kc_of 1351 rfl rfl rfl
set_option maxHeartbeats 4000000 in
set_option maxRecDepth 100000 in
theorem c_mOdds (l : Launch) (dC : Nat → ClassId) (dI : Nat → Nat → Nat) (m0 aS aI aB aT aG aO aN aD aY : Nat) (th im ac sp en wg op se dn rn kd nu tv : Int32) (bv : Int64) (cS cB cT cO cN cD : ClassId) (fS : Nat → Int32) (fB : Nat → Int32) (fT : Nat → Int32) (fO : Nat → Int64) (fN : Nat → Int64) (fD : Nat → Int32) (n wk : Nat) (x y z : Int32) (cz : List pCla) (sz : Nat) (zn : fS 0 = nI n) (hn : n ≤ 8) (zh : hol fS cz) (zw : fS 2 = nI wk) (hw6 : wk ≤ 6) : Met l yX12_odds wsX12_odds ({ frames := 4, cells := 0, slots := 0, locals := 101 } : Room) (va_Pc [.ref m0, .int x, .int y, .int z] (fun U => U.heap.size = sz ∧ va_P (dC, dI) vwCl [(zo14irriiiiiirriirrrrlriiii m0 th aS aI im ac sp en wg op aB aT se dn aG aO aN aD bv aY rn kd nu tv), (zaI aS cS 901 fS), (zaI aB cB 6 fB), (zaI aT cT 64 fT), (zaL aO cO 36 fO), (zaL aN cN 36 fN), (zaI aD cD 36 fD)] U.heap ∧ va_K (dC, dI) vwCl [(cS, .int), (cB, .int), (cT, .boolean), (cO, .long), (cN, .long), (cD, .int)] U ∧ va_D (fun _ => True) [(zo14irriiiiiirriirrrrlriiii m0 th aS aI im ac sp en wg op aB aT se dn aG aO aN aD bv aY rn kd nu tv), (zaI aS cS 901 fS), (zaI aB cB 6 fB), (zaI aT cT 64 fT), (zaL aO cO 36 fO), (zaL aN cN 36 fN), (zaI aD cD 36 fD)])) (va_Ql (fun (r : Int64) (u : (Nat → Int32) × (Nat → Int32) × (Int32) × (Int32) × (Nat → Int32) × (Nat → Int64) × (Nat → Int64)) => match u with | (fB9, fT9, se9, dn9, fD9, fO9, fN9) => True) (fun (u : (Nat → Int32) × (Nat → Int32) × (Int32) × (Int32) × (Nat → Int32) × (Nat → Int64) × (Nat → Int64)) (t : State) => match u with | (fB9, fT9, se9, dn9, fD9, fO9, fN9) => va_P (dC, dI) vwCl [(zo14irriiiiiirriirrrrlriiii m0 th aS aI im ac sp en wg op aB aT se9 dn9 aG aO aN aD bv aY rn kd nu tv), (zaI aS cS 901 fS), (zaI aB cB 6 fB9), (zaI aT cT 64 fT9), (zaL aO cO 36 fO9), (zaL aN cN 36 fN9), (zaI aD cD 36 fD9)] t.heap ∧ va_K (dC, dI) vwCl [(cS, .int), (cB, .int), (cT, .boolean), (cO, .long), (cN, .long), (cD, .int)] t ∧ va_D (va_A [(zo14irriiiiiirriirrrrlriiii m0 th aS aI im ac sp en wg op aB aT se dn aG aO aN aD bv aY rn kd nu tv), (zaI aS cS 901 fS), (zaI aB cB 6 fB), (zaI aT cT 64 fT), (zaL aO cO 36 fO), (zaL aN cN 36 fN), (zaI aD cD 36 fD)] sz) [(zo14irriiiiiirriirrrrlriiii m0 th aS aI im ac sp en wg op aB aT se9 dn9 aG aO aN aD bv aY rn kd nu tv), (zaI aS cS 901 fS), (zaI aB cB 6 fB9), (zaI aT cT 64 fT9), (zaL aO cO 36 fO9), (zaL aN cN 36 fN9), (zaI aD cD 36 fD9)]) (va_A [(zo14irriiiiiirriirrrrlriiii m0 th aS aI im ac sp en wg op aB aT se dn aG aO aN aD bv aY rn kd nu tv), (zaI aS cS 901 fS), (zaI aB cB 6 fB), (zaI aT cT 64 fT), (zaL aO cO 36 fO), (zaL aN cN 36 fN), (zaI aD cD 36 fD)] sz)) 0 0 (va_A [(zo14irriiiiiirriirrrrlriiii m0 th aS aI im ac sp en wg op aB aT se dn aG aO aN aD bv aY rn kd nu tv), (zaI aS cS 901 fS), (zaI aB cB 6 fB), (zaI aT cT 64 fT), (zaL aO cO 36 fO), (zaL aN cN 36 fN), (zaI aD cD 36 fD)] sz) := by
  refine met_ofQ (cc := cX12_odds) (maxL := 7) (ret := (some .long)) (by decide) rfl ?_
  intro p e s m args below meth c s₁ Q B hml hv hQ
  obtain ⟨rfl, hsz, hP, hK, hD0⟩ := hv
  have hx := B.exec
  have hb := B.bytes
  have hr := B.returns
  have hts := atoms_spec (ws := wsX12_odds) B.pre
  have hown : s.vm.findClass RX12 = some m.cls := findClass_of_methodNamed B.named
  have hlocks := B.notSynchronized
  subst hsz
  have hD := hD0.self (sz := s.heap.size)
  generalize hAe : va_A [(zo14irriiiiiirriirrrrlriiii m0 th aS aI im ac sp en wg op aB aT se dn aG aO aN aD bv aY rn kd nu tv), (zaI aS cS 901 fS), (zaI aB cB 6 fB), (zaI aT cT 64 fT), (zaL aO cO 36 fO), (zaL aN cN 36 fN), (zaI aD cD 36 fD)] s.heap.size = A at hD hQ ⊢
  have hA : ∀ q : Nat, s.heap.size ≤ q → A q := fun q h => by rw [← hAe]; exact Or.inr h
  have hS : va_S A s.heap s.heap [] := va_S.rf
  have hl := lv_entry [.ref m0, .int x, .int y, .int z] (n := 7) (Nat.le_of_ble_eq_true rfl)
  rw [lg_entry_eq]
  generalize (lg_sl [.ref m0, .int x, .int y, .int z] ++ List.replicate (7 - (lg_sl [.ref m0, .int x, .int y, .int z]).length) Slot.unset).toArray = ls at hl ⊢
  generalize hag : ([.ref m0, .int x, .int y, .int z] : List Value).toArray = args at hts hQ ⊢
  have hl : lv_has ls 7 [(0, .ref m0), (1, .int x), (2, .int y), (3, .int z)] := hl
  obtain ⟨H, hH⟩ : ∃ H : Heap, H = s.heap := ⟨_, rfl⟩
  rw [← hH] at hP
  rw [← hH]
  have hS : va_S A s.heap H [] := by rw [hH]; exact hS
  obtain ⟨locs, hlo⟩ : ∃ L : List Loc, L = [] := ⟨_, rfl⟩
  rw [← hlo] at hS
  rw [← hlo]
  clear hH hlo
  refine lv_iload_n hx hb dX12_odds_0 rfl (lv_at hl 2 rfl) ?_
  refine lv_bipush (v := 50) hx hb dX12_odds_1 (by decide) ?_
  refine lv_icmp_lt (tgt := 21) hx hb dX12_odds_3 (by decide) (fun c_1 => ?_) (fun c_1 => ?_)
  · skip
    refine lv_iconst (v := 0) hx hb dX12_odds_21 (by decide) ?_
    refine lv_istore (lv' := [(4, .int 0), (0, .ref m0), (1, .int x), (2, .int y), (3, .int z)]) hx hb dX12_odds_22 hl (by decide) rfl (fun ls hl => ?_)
    refine lv_iload_n hx hb dX12_odds_24 rfl (lv_at hl 2 rfl) ?_
    refine vp_callSi (va_runS (As := [.int x]) (rest := []) ⟨hx, hb, hml, hown, hts⟩ (c_mCell l dC dI x) (va_cwS 1 hts gX12_odds_X12_isCell rfl rfl rfl hd_yX12_isCell.2 ⟨Nat.le_of_ble_eq_true rfl, Nat.le_of_ble_eq_true rfl⟩) ⟨fun a U g mk q => ⟨q.1, trivial⟩, fun U hU hW => ⟨rfl, trivial⟩⟩ rfl rfl hl.1 rfl (lv_room (Nat.le_of_ble_eq_true rfl)) dX12_odds_25 ⟨Nat.le_of_ble_eq_true rfl, Nat.le_of_ble_eq_true rfl⟩).run (fun r_2 hw_3 => ?_)
    rcases hw_3 with ⟨rfl, h_4, h_5⟩ | ⟨rfl, h_6⟩
    · skip
      obtain ⟨j_7, hj_8, rfl⟩ := nI_of2 (n := 35) (M := 35) rfl h_4 (Int32.not_lt.mp h_5)
      refine lv_if_eq (tgt := 58) hx hb dX12_odds_28 (by decide) (fun c_9 => absurd c_9 (by decide)) (fun _ => ?_)
      refine lv_iload_n hx hb dX12_odds_31 rfl (lv_at hl 3 rfl) ?_
      refine vp_callSi (va_runS (As := [.int y]) (rest := []) ⟨hx, hb, hml, hown, hts⟩ (c_mCell l dC dI y) (va_cwS 1 hts gX12_odds_X12_isCell rfl rfl rfl hd_yX12_isCell.2 ⟨Nat.le_of_ble_eq_true rfl, Nat.le_of_ble_eq_true rfl⟩) ⟨fun a U g mk q => ⟨q.1, trivial⟩, fun U hU hW => ⟨rfl, trivial⟩⟩ rfl rfl hl.1 rfl (lv_room (Nat.le_of_ble_eq_true rfl)) dX12_odds_32 ⟨Nat.le_of_ble_eq_true rfl, Nat.le_of_ble_eq_true rfl⟩).run (fun r_10 hw_11 => ?_)
      rcases hw_11 with ⟨rfl, h_12, h_13⟩ | ⟨rfl, h_14⟩
      · skip
        obtain ⟨j_15, hj_16, rfl⟩ := nI_of2 (n := 35) (M := 35) rfl h_12 (Int32.not_lt.mp h_13)
        refine lv_if_ne (tgt := 49) hx hb dX12_odds_35 (by decide) (fun _ => ?_) (fun c_17 => absurd c_17 (by decide))
        refine lv_iload_n hx hb dX12_odds_49 rfl (lv_at hl 4 rfl) ?_
        refine lv_iconst (v := 0) hx hb dX12_odds_50 (by decide) ?_
        refine lv_iconst (v := 1) hx hb dX12_odds_51 (by decide) ?_
        refine vp_callSi (va_runS (As := [.int z, .int 0, .int 1]) (rest := []) ⟨hx, hb, hml, hown, hts⟩ (c_in l dC dI z 0 1) (va_cwS 3 hts gX12_odds_X12_in rfl rfl rfl hd_yX12_in.2 ⟨Nat.le_of_ble_eq_true rfl, Nat.le_of_ble_eq_true rfl⟩) ⟨fun a U g mk q => ⟨q.1, trivial⟩, fun U hU hW => ⟨rfl, trivial⟩⟩ rfl rfl hl.1 rfl (lv_room (Nat.le_of_ble_eq_true rfl)) dX12_odds_52 ⟨Nat.le_of_ble_eq_true rfl, Nat.le_of_ble_eq_true rfl⟩).run (fun r_18 hw_19 => ?_)
        rcases hw_19 with ⟨rfl, h_20, h_21⟩ | ⟨rfl, h_22⟩
        · skip
          obtain ⟨j_23, hj_24, rfl⟩ := nI_of2 (n := 1) (M := 1) rfl h_20 (Int32.not_lt.mp h_21)
          refine lv_if_ne (tgt := 62) hx hb dX12_odds_55 (by decide) (fun _ => ?_) (fun c_25 => absurd c_25 (by decide))
          refine lv_aload_n hx hb dX12_odds_62 rfl (lv_at hl 1 rfl) ?_
          have hPc := hP.sub (ws' := [(zo14irriiiiiirriirrrrlriiii m0 th aS aI im ac sp en wg op aB aT se dn aG aO aN aD bv aY rn kd nu tv), (zaI aS cS 901 fS), (zaI aB cB 6 fB), (zaI aT cT 64 fT), (zaI aD cD 36 fD)]) [0, 1, 2, 3, 6] rfl
          have hDc := hD.sub (ws' := [(zo14irriiiiiirriirrrrlriiii m0 th aS aI im ac sp en wg op aB aT se dn aG aO aN aD bv aY rn kd nu tv), (zaI aS cS 901 fS), (zaI aB cB 6 fB), (zaI aT cT 64 fT), (zaI aD cD 36 fD)]) [0, 1, 2, 3, 6] (by decide) rfl
          have hKc := hK.sub (tys' := [(cS, .int), (cB, .int), (cT, .boolean), (cD, .int)]) [0, 1, 2, 5] rfl
          have hFc := va_free (wc := [(zo14irriiiiiirriirrrrlriiii m0 th aS aI im ac sp en wg op aB aT se dn aG aO aN aD bv aY rn kd nu tv), (zaI aS cS 901 fS), (zaI aB cB 6 fB), (zaI aT cT 64 fT), (zaI aD cD 36 fD)]) hD hS hA [0, 1, 2, 3, 6] rfl
          refine va_callv (va_runV (As := []) (rest := []) ⟨hx, hb, hml, hown, hts⟩ (c_lookDrifts l dC dI m0 aS aI aB aT aG aO aN aD aY th im ac sp en wg op se dn rn kd nu tv bv cS cB cT cD fS fB fT fD cz H.size (zh)) (cwV 0 hts gX12_odds_X12_looksForDrifts rfl rfl rfl hd_yX12_looksForDrifts ⟨Nat.le_of_ble_eq_true rfl, Nat.le_of_ble_eq_true rfl⟩) ⟨fun a U g mk q => by obtain ⟨q0, q1, qP, qK, qD⟩ := q; exact ⟨q0, q1, qP, va_K.moved (u := U) (U := U.calling g mk a) (Vm.Alike.refl U.vm) qK, qD⟩, va_recv hK hP (ci := 14) (q := (RX12, TX12, 23)) (q0 := 0) rfl rfl, fun U hU hW => ⟨rfl, by rw [hU], by rw [hU]; exact hPc, va_K.moved hW.alike hKc, hDc.weaken (fun _ _ _ _ => trivial)⟩⟩ rfl rfl hl.1 rfl (lv_room (Nat.le_of_ble_eq_true rfl)) dX12_odds_63 ⟨Nat.le_of_ble_eq_true rfl, Nat.le_of_ble_eq_true rfl⟩) hS (fun q _ h => hFc q h) hFc (fun u tC H1 locs htC hvm hw_27 hB hz1 hk1 hS => ?_)
          obtain ⟨fB9_28, fT9_29, se9_30, dn9_31, fD9_32⟩ := u
          try dsimp only at hw_27 hB
          obtain ⟨hP1, hK1, hD1⟩ := hB
          rw [htC] at hP1
          have hK1 := va_K.moved hvm.symm hK1
          obtain ⟨hP, hD⟩ := va_join (wr := [(zaL aO cO 36 fO), (zaL aN cN 36 fN)]) (w1 := [(zo14irriiiiiirriirrrrlriiii m0 th aS aI im ac sp en wg op aB aT se9_30 dn9_31 aG aO aN aD bv aY rn kd nu tv), (zaI aS cS 901 fS), (zaI aB cB 6 fB9_28), (zaI aT cT 64 fT9_29), (zaI aD cD 36 fD9_32)]) hP hD [0, 1, 2, 3, 6] [4, 5] rfl rfl (by decide) (by decide) hk1 hFc hP1 hD1
          have hK := (hK.sub (tys' := [(cO, .long), (cN, .long)]) [3, 4] rfl).app hK1
          generalize H1 = H at hP hS ⊢
          have hP : va_P (dC, dI) vwCl [(zaL aO cO 36 fO), (zaL aN cN 36 fN), (zo14irriiiiiirriirrrrlriiii m0 th aS aI im ac sp en wg op aB aT se9_30 dn9_31 aG aO aN aD bv aY rn kd nu tv), (zaI aS cS 901 fS), (zaI aB cB 6 fB9_28), (zaI aT cT 64 fT9_29), (zaI aD cD 36 fD9_32)] H := hP
          have hD : va_D A [(zaL aO cO 36 fO), (zaL aN cN 36 fN), (zo14irriiiiiirriirrrrlriiii m0 th aS aI im ac sp en wg op aB aT se9_30 dn9_31 aG aO aN aD bv aY rn kd nu tv), (zaI aS cS 901 fS), (zaI aB cB 6 fB9_28), (zaI aT cT 64 fT9_29), (zaI aD cD 36 fD9_32)] := hD
          have hK : va_K (dC, dI) vwCl [(cO, .long), (cN, .long), (cS, .int), (cB, .int), (cT, .boolean), (cD, .int)] s := hK
          refine lv_aload_n hx hb dX12_odds_66 rfl (lv_at hl 1 rfl) ?_
          refine lv_iload_n hx hb dX12_odds_67 rfl (lv_at hl 2 rfl) ?_
          have hPc := hP.sub (ws' := [(zo14irriiiiiirriirrrrlriiii m0 th aS aI im ac sp en wg op aB aT se9_30 dn9_31 aG aO aN aD bv aY rn kd nu tv), (zaL aO cO 36 fO)]) [2, 0] rfl
          have hDc := hD.sub (ws' := [(zo14irriiiiiirriirrrrlriiii m0 th aS aI im ac sp en wg op aB aT se9_30 dn9_31 aG aO aN aD bv aY rn kd nu tv), (zaL aO cO 36 fO)]) [2, 0] (by decide) rfl
          have hKc := hK.sub (tys' := [(cO, .long)]) [0] rfl
          have hFc := va_free (wc := [(zo14irriiiiiirriirrrrlriiii m0 th aS aI im ac sp en wg op aB aT se9_30 dn9_31 aG aO aN aD bv aY rn kd nu tv), (zaL aO cO 36 fO)]) hD hS hA [2, 0] rfl
          refine va_callv (va_runV (As := [.int (nI j_7)]) (rest := []) ⟨hx, hb, hml, hown, hts⟩ (c_begins l dC dI m0 aS aI aB aT aG aO aN aD aY th im ac sp en wg op se9_30 dn9_31 rn kd nu tv bv cO fO (nI j_7) H.size) (cwV 1 hts gX12_odds_X12_begins rfl rfl rfl hd_yX12_begins ⟨Nat.le_of_ble_eq_true rfl, Nat.le_of_ble_eq_true rfl⟩) ⟨fun a U g mk q => by obtain ⟨q0, q1, qP, qK, qD⟩ := q; exact ⟨q0, q1, qP, va_K.moved (u := U) (U := U.calling g mk a) (Vm.Alike.refl U.vm) qK, qD⟩, va_recv hK hP (ci := 14) (q := (RX12, TX12, 23)) (q0 := 2) rfl rfl, fun U hU hW => ⟨rfl, by rw [hU], by rw [hU]; exact hPc, va_K.moved hW.alike hKc, hDc.weaken (fun _ _ _ _ => trivial)⟩⟩ rfl rfl hl.1 rfl (lv_room (Nat.le_of_ble_eq_true rfl)) dX12_odds_68 ⟨Nat.le_of_ble_eq_true rfl, Nat.le_of_ble_eq_true rfl⟩) hS (fun q _ h => hFc q h) hFc (fun u tC H1 locs htC hvm hw_34 hB hz1 hk1 hS => ?_)
          obtain ⟨fO9_35, rfl⟩ : ∃ z, z = u := ⟨_, rfl⟩
          try dsimp only at hw_34 hB
          obtain ⟨hP1, hK1, hD1⟩ := hB
          rw [htC] at hP1
          have hK1 := va_K.moved hvm.symm hK1
          obtain ⟨hP, hD⟩ := va_join (wr := [(zaL aN cN 36 fN), (zaI aS cS 901 fS), (zaI aB cB 6 fB9_28), (zaI aT cT 64 fT9_29), (zaI aD cD 36 fD9_32)]) (w1 := [(zo14irriiiiiirriirrrrlriiii m0 th aS aI im ac sp en wg op aB aT se9_30 dn9_31 aG aO aN aD bv aY rn kd nu tv), (zaL aO cO 36 fO9_35)]) hP hD [2, 0] [1, 3, 4, 5, 6] rfl rfl (by decide) (by decide) hk1 hFc hP1 hD1
          have hK := (hK.sub (tys' := [(cN, .long), (cS, .int), (cB, .int), (cT, .boolean), (cD, .int)]) [1, 2, 3, 4, 5] rfl).app hK1
          generalize H1 = H at hP hS ⊢
          have hP : va_P (dC, dI) vwCl [(zaL aN cN 36 fN), (zaI aS cS 901 fS), (zaI aB cB 6 fB9_28), (zaI aT cT 64 fT9_29), (zaI aD cD 36 fD9_32), (zo14irriiiiiirriirrrrlriiii m0 th aS aI im ac sp en wg op aB aT se9_30 dn9_31 aG aO aN aD bv aY rn kd nu tv), (zaL aO cO 36 fO9_35)] H := hP
          have hD : va_D A [(zaL aN cN 36 fN), (zaI aS cS 901 fS), (zaI aB cB 6 fB9_28), (zaI aT cT 64 fT9_29), (zaI aD cD 36 fD9_32), (zo14irriiiiiirriirrrrlriiii m0 th aS aI im ac sp en wg op aB aT se9_30 dn9_31 aG aO aN aD bv aY rn kd nu tv), (zaL aO cO 36 fO9_35)] := hD
          have hK : va_K (dC, dI) vwCl [(cN, .long), (cS, .int), (cB, .int), (cT, .boolean), (cD, .int), (cO, .long)] s := hK
          refine lv_iconst (v := 0) hx hb dX12_odds_71 (by decide) ?_
          refine lv_istore (lv' := [(5, .int 0), (4, .int 0), (0, .ref m0), (1, .int (nI j_7)), (2, .int (nI j_15)), (3, .int (nI j_23))]) hx hb dX12_odds_72 hl (by decide) rfl (fun ls hl => ?_)
          have L74 : ∀ (nF : Nat) (i : Nat) (fO2 : Nat → Int64) (fN2 : Nat → Int64), wk - i < nF → (i ≤ wk) → ∀ (H : Heap) (locs : List Loc), va_K (dC, dI) vwCl [(cS, .int), (cB, .int), (cT, .boolean), (cO, .long), (cN, .long), (cD, .int)] s → va_P (dC, dI) vwCl [(zo14irriiiiiirriirrrrlriiii m0 th aS aI im ac sp en wg op aB aT se9_30 dn9_31 aG aO aN aD bv aY rn kd nu tv), (zaI aS cS 901 fS), (zaI aB cB 6 fB9_28), (zaI aT cT 64 fT9_29), (zaL aO cO 36 fO2), (zaL aN cN 36 fN2), (zaI aD cD 36 fD9_32)] H → va_D A [(zo14irriiiiiirriirrrrlriiii m0 th aS aI im ac sp en wg op aB aT se9_30 dn9_31 aG aO aN aD bv aY rn kd nu tv), (zaI aS cS 901 fS), (zaI aB cB 6 fB9_28), (zaI aT cT 64 fT9_29), (zaL aO cO 36 fO2), (zaL aN cN 36 fN2), (zaI aD cD 36 fD9_32)] → va_S A s.heap H locs → ∀ (ls : Array Slot), lv_has ls 7 [(0, .ref m0), (1, .int (nI j_7)), (2, .int (nI j_15)), (3, .int (nI j_23)), (4, .int 0), (5, .int (nI i))] → W p l e ({ frames := 4, cells := 0, slots := 0, locals := 101 } : Room) s m args below meth c H locs 0 0 Q (F0 m 74 ls []) := by
            intro nF
            induction nF with
            | zero => intro i fO2 fN2 hm; exact absurd hm (Nat.not_lt_zero _)
            | succ nF ih74 =>
              intro i fO2 fN2 hm hii H locs hK hP hD hS ls hl
              refine lv_iload hx hb dX12_odds_74 (lv_at hl 5 rfl) ?_
              refine lv_aload_n hx hb dX12_odds_76 rfl (lv_at hl 0 rfl) ?_
              refine va_get (D := (dC, dI)) (ci := 14) (v := .ref aS) (C := RX12) (T := TX12) (N := 23) hx hb hts kc_mOdds_0 hown hK hP 0 rfl rfl 1 (by decide) (hts (.fieldLink RX12 9 "MistHeapsModel" "s" "[I") kc_mOdds_1) (fun _ h9 => h9) rfl dX12_odds_77 ?_
              refine lv_iconst (v := 2) hx hb dX12_odds_80 (by decide) ?_
              refine va_iald hx hb hK hP 1 0 rfl rfl (vp_in_nI (n := 2) (N := 901) (by omega) (by omega)) dX12_odds_81 ?_
              refine qi_as (y := nI wk) ((show fS (2 : Int32).toNatClampNeg = fS 2 from rfl).trans (zw)) ?_
              refine lv_icmp_ge (tgt := 105) hx hb dX12_odds_82 (by decide) (fun c_36 => ?_) (fun c_36 => ?_)
              · skip
                have c_36 : wk ≤ i := (nI_leI (a := wk) (b := i) (by omega) (by omega)).mp c_36
                refine lv_iload hx hb dX12_odds_105 (lv_at hl 4 rfl) ?_
                refine lv_if_eq (tgt := 121) hx hb dX12_odds_107 (by decide) (fun _ => ?_) (fun c_37 => absurd c_37 (by decide))
                refine lv_iload_n hx hb dX12_odds_121 rfl (lv_at hl 2 rfl) ?_
                refine lv_bipush (v := 40) hx hb dX12_odds_122 (by decide) ?_
                refine lv_icmp_ne (tgt := 134) hx hb dX12_odds_124 (by decide) (fun c_38 => ?_) (fun c_38 => ?_)
                · skip
                  have c_38 : ¬ j_15 = 40 := fun q => c_38 ((nI_eq (a := j_15) (b := 40) (by omega) (by omega)).mpr q)
                  refine lv_aload_n hx hb dX12_odds_134 rfl (lv_at hl 0 rfl) ?_
                  refine va_get (D := (dC, dI)) (ci := 14) (v := .ref aO) (C := RX12) (T := TX12) (N := 23) hx hb hts kc_mOdds_0 hown hK hP 0 rfl rfl 14 (by decide) (hts (.fieldLink RX12 28 "MistHeapsModel" "often" "[J") kc_mOdds_2) (fun _ h9 => h9) rfl dX12_odds_135 ?_
                  refine lv_iload_n hx hb dX12_odds_138 rfl (lv_at hl 2 rfl) ?_
                  refine va_lald hx hb hK hP 4 3 rfl rfl (vp_in_nI (n := j_15) (N := 36) (by omega) (by omega)) dX12_odds_139 ?_
                  refine ql_as (y := fO2 j_15) (by rw [nI_clamp (by omega)]) ?_
                  refine lv_lstore (lv' := [(5, .long (fO2 j_15)), (0, .ref m0), (1, .int (nI j_7)), (2, .int (nI j_15)), (3, .int (nI j_23)), (4, .int 0)]) hx hb dX12_odds_140 hl (by decide) rfl (fun ls hl => ?_)
                  refine lv_lload hx hb dX12_odds_142 (lv_at hl 0 rfl) ?_
                  refine lv_aload_n hx hb dX12_odds_144 rfl (lv_at hl 1 rfl) ?_
                  refine va_get (D := (dC, dI)) (ci := 14) (v := .ref aS) (C := RX12) (T := TX12) (N := 23) hx hb hts kc_mOdds_0 hown hK hP 0 rfl rfl 1 (by decide) (hts (.fieldLink RX12 9 "MistHeapsModel" "s" "[I") kc_mOdds_1) (fun _ h9 => h9) rfl dX12_odds_145 ?_
                  refine lv_iconst (v := 2) hx hb dX12_odds_148 (by decide) ?_
                  refine va_iald hx hb hK hP 1 0 rfl rfl (vp_in_nI (n := 2) (N := 901) (by omega) (by omega)) dX12_odds_149 ?_
                  refine qi_as (y := nI wk) ((show fS (2 : Int32).toNatClampNeg = fS 2 from rfl).trans (zw)) ?_
                  refine vp_callSl (va_runS (As := [.int (nI wk)]) (rest := [.long (fO2 j_15)]) ⟨hx, hb, hml, hown, hts⟩ (c_twenties l dC dI wk (by omega)) (va_cwS 1 hts gX12_odds_X12_twenties rfl rfl rfl hd_yX12_twenties.2 ⟨Nat.le_of_ble_eq_true rfl, Nat.le_of_ble_eq_true rfl⟩) ⟨fun a U g mk q => ⟨q.1, trivial⟩, fun U hU hW => ⟨rfl, trivial⟩⟩ rfl rfl hl.1 rfl (lv_room (Nat.le_of_ble_eq_true rfl)) dX12_odds_150 ⟨Nat.le_of_ble_eq_true rfl, Nat.le_of_ble_eq_true rfl⟩).run (fun r_39 hw_40 => ?_)
                  refine lv_iload_n hx hb dX12_odds_153 rfl (lv_at hl 4 rfl) ?_
                  refine vp_callSl (va_runS (As := [.long (fO2 j_15), .long r_39, .int (nI j_23)]) (rest := []) ⟨hx, hb, hml, hown, hts⟩ (c_lowest l dC dI (fO2 j_15) r_39 (nI j_23) hw_40) (va_cwS 3 hts gX12_odds_X12_lowest rfl rfl rfl hd_yX12_lowest.2 ⟨Nat.le_of_ble_eq_true rfl, Nat.le_of_ble_eq_true rfl⟩) ⟨fun a U g mk q => ⟨q.1, trivial⟩, fun U hU hW => ⟨rfl, trivial⟩⟩ rfl rfl hl.1 rfl (lv_room (Nat.le_of_ble_eq_true rfl)) dX12_odds_154 ⟨Nat.le_of_ble_eq_true rfl, Nat.le_of_ble_eq_true rfl⟩).run (fun r_41 hw_42 => ?_)
                  rw [hQ]
                  have hP9 := hP.sub (ws' := [(zo14irriiiiiirriirrrrlriiii m0 th aS aI im ac sp en wg op aB aT se9_30 dn9_31 aG aO aN aD bv aY rn kd nu tv), (zaI aS cS 901 fS), (zaI aB cB 6 fB9_28), (zaI aT cT 64 fT9_29), (zaL aO cO 36 fO2), (zaL aN cN 36 fN2), (zaI aD cD 36 fD9_32)]) [0, 1, 2, 3, 4, 5, 6] rfl
                  have hD9 := hD.sub (ws' := [(zo14irriiiiiirriirrrrlriiii m0 th aS aI im ac sp en wg op aB aT se9_30 dn9_31 aG aO aN aD bv aY rn kd nu tv), (zaI aS cS 901 fS), (zaI aB cB 6 fB9_28), (zaI aT cT 64 fT9_29), (zaL aO cO 36 fO2), (zaL aN cN 36 fN2), (zaI aD cD 36 fD9_32)]) [0, 1, 2, 3, 4, 5, 6] (by decide) rfl
                  have hK9 := hK.sub (tys' := [(cS, .int), (cB, .int), (cT, .boolean), (cO, .long), (cN, .long), (cD, .int)]) [0, 1, 2, 3, 4, 5] rfl
                  exact W.lret (v := r_41) hx hb hr (fun tQ htQ hWQ => ⟨⟨r_41, (fB9_28, fT9_29, se9_30, dn9_31, fD9_32, fO2, fN2), rfl, trivial, by rw [htQ]; exact hP9, va_K.moved hWQ.alike hK9, hD9⟩, hS.F htQ⟩) hS.2.2 dX12_odds_157
                · skip
                  have c_38 : j_15 = 40 := (nI_eq (a := j_15) (b := 40) (by omega) (by omega)).mp c_38
                  refine lv_aload_n hx hb dX12_odds_127 rfl (lv_at hl 0 rfl) ?_
                  have hPc := hP.sub (ws' := [(zo14irriiiiiirriirrrrlriiii m0 th aS aI im ac sp en wg op aB aT se9_30 dn9_31 aG aO aN aD bv aY rn kd nu tv), (zaI aS cS 901 fS), (zaL aO cO 36 fO2)]) [0, 1, 4] rfl
                  have hKc := hK.sub (tys' := [(cS, .int), (cO, .long)]) [0, 3] rfl
                  refine vp_callSl (va_runV (As := []) (rest := []) ⟨hx, hb, hml, hown, hts⟩ (c_over l dC dI m0 aS aI aB aT aG aO aN aD aY th im ac sp en wg op se9_30 dn9_31 rn kd nu tv bv cS cO fS fO2) (cwV 0 hts gX12_odds_X12_over rfl rfl rfl hd_yX12_over ⟨Nat.le_of_ble_eq_true rfl, Nat.le_of_ble_eq_true rfl⟩) ⟨fun a U g mk q => by obtain ⟨q0, qP, qK⟩ := q; exact ⟨q0, qP, va_K.moved (u := U) (U := U.calling g mk a) (Vm.Alike.refl U.vm) qK⟩, va_recv hK hP (ci := 14) (q := (RX12, TX12, 23)) (q0 := 0) rfl rfl, fun U hU hW => ⟨rfl, by rw [hU]; exact hPc, va_K.moved hW.alike hKc⟩⟩ rfl rfl hl.1 rfl (lv_room (Nat.le_of_ble_eq_true rfl)) dX12_odds_128 ⟨Nat.le_of_ble_eq_true rfl, Nat.le_of_ble_eq_true rfl⟩).run (fun r_43 hw_44 => ?_)
                  refine lv_goto (tgt := 140) hx hb dX12_odds_131 (by decide) ?_
                  refine lv_lstore (lv' := [(5, .long r_43), (0, .ref m0), (1, .int (nI j_7)), (2, .int (nI j_15)), (3, .int (nI j_23)), (4, .int 0)]) hx hb dX12_odds_140 hl (by decide) rfl (fun ls hl => ?_)
                  refine lv_lload hx hb dX12_odds_142 (lv_at hl 0 rfl) ?_
                  refine lv_aload_n hx hb dX12_odds_144 rfl (lv_at hl 1 rfl) ?_
                  refine va_get (D := (dC, dI)) (ci := 14) (v := .ref aS) (C := RX12) (T := TX12) (N := 23) hx hb hts kc_mOdds_0 hown hK hP 0 rfl rfl 1 (by decide) (hts (.fieldLink RX12 9 "MistHeapsModel" "s" "[I") kc_mOdds_1) (fun _ h9 => h9) rfl dX12_odds_145 ?_
                  refine lv_iconst (v := 2) hx hb dX12_odds_148 (by decide) ?_
                  refine va_iald hx hb hK hP 1 0 rfl rfl (vp_in_nI (n := 2) (N := 901) (by omega) (by omega)) dX12_odds_149 ?_
                  refine qi_as (y := nI wk) ((show fS (2 : Int32).toNatClampNeg = fS 2 from rfl).trans (zw)) ?_
                  refine vp_callSl (va_runS (As := [.int (nI wk)]) (rest := [.long r_43]) ⟨hx, hb, hml, hown, hts⟩ (c_twenties l dC dI wk (by omega)) (va_cwS 1 hts gX12_odds_X12_twenties rfl rfl rfl hd_yX12_twenties.2 ⟨Nat.le_of_ble_eq_true rfl, Nat.le_of_ble_eq_true rfl⟩) ⟨fun a U g mk q => ⟨q.1, trivial⟩, fun U hU hW => ⟨rfl, trivial⟩⟩ rfl rfl hl.1 rfl (lv_room (Nat.le_of_ble_eq_true rfl)) dX12_odds_150 ⟨Nat.le_of_ble_eq_true rfl, Nat.le_of_ble_eq_true rfl⟩).run (fun r_45 hw_46 => ?_)
                  refine lv_iload_n hx hb dX12_odds_153 rfl (lv_at hl 4 rfl) ?_
                  refine vp_callSl (va_runS (As := [.long r_43, .long r_45, .int (nI j_23)]) (rest := []) ⟨hx, hb, hml, hown, hts⟩ (c_lowest l dC dI r_43 r_45 (nI j_23) hw_46) (va_cwS 3 hts gX12_odds_X12_lowest rfl rfl rfl hd_yX12_lowest.2 ⟨Nat.le_of_ble_eq_true rfl, Nat.le_of_ble_eq_true rfl⟩) ⟨fun a U g mk q => ⟨q.1, trivial⟩, fun U hU hW => ⟨rfl, trivial⟩⟩ rfl rfl hl.1 rfl (lv_room (Nat.le_of_ble_eq_true rfl)) dX12_odds_154 ⟨Nat.le_of_ble_eq_true rfl, Nat.le_of_ble_eq_true rfl⟩).run (fun r_47 hw_48 => ?_)
                  rw [hQ]
                  have hP9 := hP.sub (ws' := [(zo14irriiiiiirriirrrrlriiii m0 th aS aI im ac sp en wg op aB aT se9_30 dn9_31 aG aO aN aD bv aY rn kd nu tv), (zaI aS cS 901 fS), (zaI aB cB 6 fB9_28), (zaI aT cT 64 fT9_29), (zaL aO cO 36 fO2), (zaL aN cN 36 fN2), (zaI aD cD 36 fD9_32)]) [0, 1, 2, 3, 4, 5, 6] rfl
                  have hD9 := hD.sub (ws' := [(zo14irriiiiiirriirrrrlriiii m0 th aS aI im ac sp en wg op aB aT se9_30 dn9_31 aG aO aN aD bv aY rn kd nu tv), (zaI aS cS 901 fS), (zaI aB cB 6 fB9_28), (zaI aT cT 64 fT9_29), (zaL aO cO 36 fO2), (zaL aN cN 36 fN2), (zaI aD cD 36 fD9_32)]) [0, 1, 2, 3, 4, 5, 6] (by decide) rfl
                  have hK9 := hK.sub (tys' := [(cS, .int), (cB, .int), (cT, .boolean), (cO, .long), (cN, .long), (cD, .int)]) [0, 1, 2, 3, 4, 5] rfl
                  exact W.lret (v := r_47) hx hb hr (fun tQ htQ hWQ => ⟨⟨r_47, (fB9_28, fT9_29, se9_30, dn9_31, fD9_32, fO2, fN2), rfl, trivial, by rw [htQ]; exact hP9, va_K.moved hWQ.alike hK9, hD9⟩, hS.F htQ⟩) hS.2.2 dX12_odds_157
              · skip
                have c_36 : ¬ wk ≤ i := fun q => c_36 ((nI_leI (a := wk) (b := i) (by omega) (by omega)).mpr q)
                refine lv_aload_n hx hb dX12_odds_85 rfl (lv_at hl 0 rfl) ?_
                refine lv_aload_n hx hb dX12_odds_86 rfl (lv_at hl 0 rfl) ?_
                refine va_get (D := (dC, dI)) (ci := 14) (v := .ref aS) (C := RX12) (T := TX12) (N := 23) hx hb hts kc_mOdds_0 hown hK hP 0 rfl rfl 1 (by decide) (hts (.fieldLink RX12 9 "MistHeapsModel" "s" "[I") kc_mOdds_1) (fun _ h9 => h9) rfl dX12_odds_87 ?_
                refine lv_bipush (v := 73) hx hb dX12_odds_90 (by decide) ?_
                refine lv_iload hx hb dX12_odds_92 (lv_at hl 5 rfl) ?_
                refine lv_iadd hx hb dX12_odds_94 ?_
                refine qi_as (y := nI (73 + i)) (nI_add 73 i) ?_
                refine va_iald hx hb hK hP 1 0 rfl rfl (vp_in_nI (n := 73 + i) (N := 901) (by omega) (by omega)) dX12_odds_95 ?_
                refine qi_as (y := fS (73 + i)) (by rw [nI_clamp (by omega)]) ?_
                have hPc := hP.sub (ws' := [(zo14irriiiiiirriirrrrlriiii m0 th aS aI im ac sp en wg op aB aT se9_30 dn9_31 aG aO aN aD bv aY rn kd nu tv), (zaI aS cS 901 fS), (zaL aO cO 36 fO2), (zaL aN cN 36 fN2), (zaI aD cD 36 fD9_32)]) [0, 1, 4, 5, 6] rfl
                have hDc := hD.sub (ws' := [(zo14irriiiiiirriirrrrlriiii m0 th aS aI im ac sp en wg op aB aT se9_30 dn9_31 aG aO aN aD bv aY rn kd nu tv), (zaI aS cS 901 fS), (zaL aO cO 36 fO2), (zaL aN cN 36 fN2), (zaI aD cD 36 fD9_32)]) [0, 1, 4, 5, 6] (by decide) rfl
                have hKc := hK.sub (tys' := [(cS, .int), (cO, .long), (cN, .long), (cD, .int)]) [0, 3, 4, 5] rfl
                have hFc := va_free (wc := [(zo14irriiiiiirriirrrrlriiii m0 th aS aI im ac sp en wg op aB aT se9_30 dn9_31 aG aO aN aD bv aY rn kd nu tv), (zaI aS cS 901 fS), (zaL aO cO 36 fO2), (zaL aN cN 36 fN2), (zaI aD cD 36 fD9_32)]) hD hS hA [0, 1, 4, 5, 6] rfl
                refine va_callv (va_runV (As := [.int (fS (73 + i))]) (rest := []) ⟨hx, hb, hml, hown, hts⟩ (c_goesOn l dC dI m0 aS aI aB aT aG aO aN aD aY th im ac sp en wg op se9_30 dn9_31 rn kd nu tv bv cS cO cN cD fS fO2 fN2 fD9_32 (fS (73 + i)) H.size) (cwV 1 hts gX12_odds_X12_goesOn rfl rfl rfl hd_yX12_goesOn ⟨Nat.le_of_ble_eq_true rfl, Nat.le_of_ble_eq_true rfl⟩) ⟨fun a U g mk q => by obtain ⟨q0, q1, qP, qK, qD⟩ := q; exact ⟨q0, q1, qP, va_K.moved (u := U) (U := U.calling g mk a) (Vm.Alike.refl U.vm) qK, qD⟩, va_recv hK hP (ci := 14) (q := (RX12, TX12, 23)) (q0 := 0) rfl rfl, fun U hU hW => ⟨rfl, by rw [hU], by rw [hU]; exact hPc, va_K.moved hW.alike hKc, hDc.weaken (fun _ _ _ _ => trivial)⟩⟩ rfl rfl hl.1 rfl (lv_room (Nat.le_of_ble_eq_true rfl)) dX12_odds_96 ⟨Nat.le_of_ble_eq_true rfl, Nat.le_of_ble_eq_true rfl⟩) hS (fun q _ h => hFc q h) hFc (fun u tC H1 locs htC hvm hw_50 hB hz1 hk1 hS => ?_)
                obtain ⟨fO9_51, fN9_52⟩ := u
                try dsimp only at hw_50 hB
                obtain ⟨hP1, hK1, hD1⟩ := hB
                rw [htC] at hP1
                have hK1 := va_K.moved hvm.symm hK1
                obtain ⟨hP, hD⟩ := va_join (wr := [(zaI aB cB 6 fB9_28), (zaI aT cT 64 fT9_29)]) (w1 := [(zo14irriiiiiirriirrrrlriiii m0 th aS aI im ac sp en wg op aB aT se9_30 dn9_31 aG aO aN aD bv aY rn kd nu tv), (zaI aS cS 901 fS), (zaL aO cO 36 fO9_51), (zaL aN cN 36 fN9_52), (zaI aD cD 36 fD9_32)]) hP hD [0, 1, 4, 5, 6] [2, 3] rfl rfl (by decide) (by decide) hk1 hFc hP1 hD1
                have hK := (hK.sub (tys' := [(cB, .int), (cT, .boolean)]) [1, 2] rfl).app hK1
                generalize H1 = H at hP hS ⊢
                have hP : va_P (dC, dI) vwCl [(zaI aB cB 6 fB9_28), (zaI aT cT 64 fT9_29), (zo14irriiiiiirriirrrrlriiii m0 th aS aI im ac sp en wg op aB aT se9_30 dn9_31 aG aO aN aD bv aY rn kd nu tv), (zaI aS cS 901 fS), (zaL aO cO 36 fO9_51), (zaL aN cN 36 fN9_52), (zaI aD cD 36 fD9_32)] H := hP
                have hD : va_D A [(zaI aB cB 6 fB9_28), (zaI aT cT 64 fT9_29), (zo14irriiiiiirriirrrrlriiii m0 th aS aI im ac sp en wg op aB aT se9_30 dn9_31 aG aO aN aD bv aY rn kd nu tv), (zaI aS cS 901 fS), (zaL aO cO 36 fO9_51), (zaL aN cN 36 fN9_52), (zaI aD cD 36 fD9_32)] := hD
                have hK : va_K (dC, dI) vwCl [(cB, .int), (cT, .boolean), (cS, .int), (cO, .long), (cN, .long), (cD, .int)] s := hK
                refine lv_iinc (v := nI (i + 1)) (lv' := [(5, .int (nI (i + 1))), (0, .ref m0), (1, .int (nI j_7)), (2, .int (nI j_15)), (3, .int (nI j_23)), (4, .int 0)]) hx hb dX12_odds_99 hl (k := 5) rfl (nI_add i 1) (by decide) rfl (fun ls hl => ?_)
                refine lv_goto (tgt := 74) hx hb dX12_odds_102 (by decide) ?_
                exact ih74 (i + 1) _ _ (by omega) (by omega) _ _ (hK.sub [2, 0, 1, 3, 4, 5] rfl) (hP.sub [2, 3, 0, 1, 4, 5, 6] rfl) (hD.sub [2, 3, 0, 1, 4, 5, 6] (by decide) rfl) hS ls (lv_sub hl [1, 2, 3, 4, 5, 0] rfl)
          exact L74 _ (0) _ _ (Nat.lt_succ_self _) (by omega) _ _ (hK.sub [1, 2, 3, 5, 0, 4] rfl) (hP.sub [5, 1, 2, 3, 6, 0, 4] rfl) (hD.sub [5, 1, 2, 3, 6, 0, 4] (by decide) rfl) hS ls (lv_sub hl [2, 3, 4, 5, 1, 0] rfl)
        · skip
          refine lv_if_ne (tgt := 62) hx hb dX12_odds_55 (by decide) (fun c_53 => absurd c_53 (by decide)) (fun _ => ?_)
          refine lv_ldc2 (v := (-9223372036854775808)) hx hb hown (hts (.constantLong RX12 181 (-9223372036854775808)) kc_mOdds_3) dX12_odds_58 ?_
          rw [hQ]
          have hP9 := hP.sub (ws' := [(zo14irriiiiiirriirrrrlriiii m0 th aS aI im ac sp en wg op aB aT se dn aG aO aN aD bv aY rn kd nu tv), (zaI aS cS 901 fS), (zaI aB cB 6 fB), (zaI aT cT 64 fT), (zaL aO cO 36 fO), (zaL aN cN 36 fN), (zaI aD cD 36 fD)]) [0, 1, 2, 3, 4, 5, 6] rfl
          have hD9 := hD.sub (ws' := [(zo14irriiiiiirriirrrrlriiii m0 th aS aI im ac sp en wg op aB aT se dn aG aO aN aD bv aY rn kd nu tv), (zaI aS cS 901 fS), (zaI aB cB 6 fB), (zaI aT cT 64 fT), (zaL aO cO 36 fO), (zaL aN cN 36 fN), (zaI aD cD 36 fD)]) [0, 1, 2, 3, 4, 5, 6] (by decide) rfl
          have hK9 := hK.sub (tys' := [(cS, .int), (cB, .int), (cT, .boolean), (cO, .long), (cN, .long), (cD, .int)]) [0, 1, 2, 3, 4, 5] rfl
          exact W.lret (v := (-9223372036854775808)) hx hb hr (fun tQ htQ hWQ => ⟨⟨(-9223372036854775808), (fB, fT, se, dn, fD, fO, fN), rfl, trivial, by rw [htQ]; exact hP9, va_K.moved hWQ.alike hK9, hD9⟩, hS.F htQ⟩) hS.2.2 dX12_odds_61
      · skip
        refine lv_if_ne (tgt := 49) hx hb dX12_odds_35 (by decide) (fun c_54 => absurd c_54 (by decide)) (fun _ => ?_)
        refine lv_iload_n hx hb dX12_odds_38 rfl (lv_at hl 3 rfl) ?_
        refine lv_bipush (v := 40) hx hb dX12_odds_39 (by decide) ?_
        refine lv_icmp_eq (tgt := 49) hx hb dX12_odds_41 (by decide) (fun c_55 => ?_) (fun c_55 => ?_)
        · skip
          refine lv_iload_n hx hb dX12_odds_49 rfl (lv_at hl 4 rfl) ?_
          refine lv_iconst (v := 0) hx hb dX12_odds_50 (by decide) ?_
          refine lv_iconst (v := 1) hx hb dX12_odds_51 (by decide) ?_
          refine vp_callSi (va_runS (As := [.int z, .int 0, .int 1]) (rest := []) ⟨hx, hb, hml, hown, hts⟩ (c_in l dC dI z 0 1) (va_cwS 3 hts gX12_odds_X12_in rfl rfl rfl hd_yX12_in.2 ⟨Nat.le_of_ble_eq_true rfl, Nat.le_of_ble_eq_true rfl⟩) ⟨fun a U g mk q => ⟨q.1, trivial⟩, fun U hU hW => ⟨rfl, trivial⟩⟩ rfl rfl hl.1 rfl (lv_room (Nat.le_of_ble_eq_true rfl)) dX12_odds_52 ⟨Nat.le_of_ble_eq_true rfl, Nat.le_of_ble_eq_true rfl⟩).run (fun r_56 hw_57 => ?_)
          rcases hw_57 with ⟨rfl, h_58, h_59⟩ | ⟨rfl, h_60⟩
          · skip
            obtain ⟨j_61, hj_62, rfl⟩ := nI_of2 (n := 1) (M := 1) rfl h_58 (Int32.not_lt.mp h_59)
            refine lv_if_ne (tgt := 62) hx hb dX12_odds_55 (by decide) (fun _ => ?_) (fun c_63 => absurd c_63 (by decide))
            refine lv_aload_n hx hb dX12_odds_62 rfl (lv_at hl 1 rfl) ?_
            have hPc := hP.sub (ws' := [(zo14irriiiiiirriirrrrlriiii m0 th aS aI im ac sp en wg op aB aT se dn aG aO aN aD bv aY rn kd nu tv), (zaI aS cS 901 fS), (zaI aB cB 6 fB), (zaI aT cT 64 fT), (zaI aD cD 36 fD)]) [0, 1, 2, 3, 6] rfl
            have hDc := hD.sub (ws' := [(zo14irriiiiiirriirrrrlriiii m0 th aS aI im ac sp en wg op aB aT se dn aG aO aN aD bv aY rn kd nu tv), (zaI aS cS 901 fS), (zaI aB cB 6 fB), (zaI aT cT 64 fT), (zaI aD cD 36 fD)]) [0, 1, 2, 3, 6] (by decide) rfl
            have hKc := hK.sub (tys' := [(cS, .int), (cB, .int), (cT, .boolean), (cD, .int)]) [0, 1, 2, 5] rfl
            have hFc := va_free (wc := [(zo14irriiiiiirriirrrrlriiii m0 th aS aI im ac sp en wg op aB aT se dn aG aO aN aD bv aY rn kd nu tv), (zaI aS cS 901 fS), (zaI aB cB 6 fB), (zaI aT cT 64 fT), (zaI aD cD 36 fD)]) hD hS hA [0, 1, 2, 3, 6] rfl
            refine va_callv (va_runV (As := []) (rest := []) ⟨hx, hb, hml, hown, hts⟩ (c_lookDrifts l dC dI m0 aS aI aB aT aG aO aN aD aY th im ac sp en wg op se dn rn kd nu tv bv cS cB cT cD fS fB fT fD cz H.size (zh)) (cwV 0 hts gX12_odds_X12_looksForDrifts rfl rfl rfl hd_yX12_looksForDrifts ⟨Nat.le_of_ble_eq_true rfl, Nat.le_of_ble_eq_true rfl⟩) ⟨fun a U g mk q => by obtain ⟨q0, q1, qP, qK, qD⟩ := q; exact ⟨q0, q1, qP, va_K.moved (u := U) (U := U.calling g mk a) (Vm.Alike.refl U.vm) qK, qD⟩, va_recv hK hP (ci := 14) (q := (RX12, TX12, 23)) (q0 := 0) rfl rfl, fun U hU hW => ⟨rfl, by rw [hU], by rw [hU]; exact hPc, va_K.moved hW.alike hKc, hDc.weaken (fun _ _ _ _ => trivial)⟩⟩ rfl rfl hl.1 rfl (lv_room (Nat.le_of_ble_eq_true rfl)) dX12_odds_63 ⟨Nat.le_of_ble_eq_true rfl, Nat.le_of_ble_eq_true rfl⟩) hS (fun q _ h => hFc q h) hFc (fun u tC H1 locs htC hvm hw_65 hB hz1 hk1 hS => ?_)
            obtain ⟨fB9_66, fT9_67, se9_68, dn9_69, fD9_70⟩ := u
            try dsimp only at hw_65 hB
            obtain ⟨hP1, hK1, hD1⟩ := hB
            rw [htC] at hP1
            have hK1 := va_K.moved hvm.symm hK1
            obtain ⟨hP, hD⟩ := va_join (wr := [(zaL aO cO 36 fO), (zaL aN cN 36 fN)]) (w1 := [(zo14irriiiiiirriirrrrlriiii m0 th aS aI im ac sp en wg op aB aT se9_68 dn9_69 aG aO aN aD bv aY rn kd nu tv), (zaI aS cS 901 fS), (zaI aB cB 6 fB9_66), (zaI aT cT 64 fT9_67), (zaI aD cD 36 fD9_70)]) hP hD [0, 1, 2, 3, 6] [4, 5] rfl rfl (by decide) (by decide) hk1 hFc hP1 hD1
            have hK := (hK.sub (tys' := [(cO, .long), (cN, .long)]) [3, 4] rfl).app hK1
            generalize H1 = H at hP hS ⊢
            have hP : va_P (dC, dI) vwCl [(zaL aO cO 36 fO), (zaL aN cN 36 fN), (zo14irriiiiiirriirrrrlriiii m0 th aS aI im ac sp en wg op aB aT se9_68 dn9_69 aG aO aN aD bv aY rn kd nu tv), (zaI aS cS 901 fS), (zaI aB cB 6 fB9_66), (zaI aT cT 64 fT9_67), (zaI aD cD 36 fD9_70)] H := hP
            have hD : va_D A [(zaL aO cO 36 fO), (zaL aN cN 36 fN), (zo14irriiiiiirriirrrrlriiii m0 th aS aI im ac sp en wg op aB aT se9_68 dn9_69 aG aO aN aD bv aY rn kd nu tv), (zaI aS cS 901 fS), (zaI aB cB 6 fB9_66), (zaI aT cT 64 fT9_67), (zaI aD cD 36 fD9_70)] := hD
            have hK : va_K (dC, dI) vwCl [(cO, .long), (cN, .long), (cS, .int), (cB, .int), (cT, .boolean), (cD, .int)] s := hK
            refine lv_aload_n hx hb dX12_odds_66 rfl (lv_at hl 1 rfl) ?_
            refine lv_iload_n hx hb dX12_odds_67 rfl (lv_at hl 2 rfl) ?_
            have hPc := hP.sub (ws' := [(zo14irriiiiiirriirrrrlriiii m0 th aS aI im ac sp en wg op aB aT se9_68 dn9_69 aG aO aN aD bv aY rn kd nu tv), (zaL aO cO 36 fO)]) [2, 0] rfl
            have hDc := hD.sub (ws' := [(zo14irriiiiiirriirrrrlriiii m0 th aS aI im ac sp en wg op aB aT se9_68 dn9_69 aG aO aN aD bv aY rn kd nu tv), (zaL aO cO 36 fO)]) [2, 0] (by decide) rfl
            have hKc := hK.sub (tys' := [(cO, .long)]) [0] rfl
            have hFc := va_free (wc := [(zo14irriiiiiirriirrrrlriiii m0 th aS aI im ac sp en wg op aB aT se9_68 dn9_69 aG aO aN aD bv aY rn kd nu tv), (zaL aO cO 36 fO)]) hD hS hA [2, 0] rfl
            refine va_callv (va_runV (As := [.int (nI j_7)]) (rest := []) ⟨hx, hb, hml, hown, hts⟩ (c_begins l dC dI m0 aS aI aB aT aG aO aN aD aY th im ac sp en wg op se9_68 dn9_69 rn kd nu tv bv cO fO (nI j_7) H.size) (cwV 1 hts gX12_odds_X12_begins rfl rfl rfl hd_yX12_begins ⟨Nat.le_of_ble_eq_true rfl, Nat.le_of_ble_eq_true rfl⟩) ⟨fun a U g mk q => by obtain ⟨q0, q1, qP, qK, qD⟩ := q; exact ⟨q0, q1, qP, va_K.moved (u := U) (U := U.calling g mk a) (Vm.Alike.refl U.vm) qK, qD⟩, va_recv hK hP (ci := 14) (q := (RX12, TX12, 23)) (q0 := 2) rfl rfl, fun U hU hW => ⟨rfl, by rw [hU], by rw [hU]; exact hPc, va_K.moved hW.alike hKc, hDc.weaken (fun _ _ _ _ => trivial)⟩⟩ rfl rfl hl.1 rfl (lv_room (Nat.le_of_ble_eq_true rfl)) dX12_odds_68 ⟨Nat.le_of_ble_eq_true rfl, Nat.le_of_ble_eq_true rfl⟩) hS (fun q _ h => hFc q h) hFc (fun u tC H1 locs htC hvm hw_72 hB hz1 hk1 hS => ?_)
            obtain ⟨fO9_73, rfl⟩ : ∃ z, z = u := ⟨_, rfl⟩
            try dsimp only at hw_72 hB
            obtain ⟨hP1, hK1, hD1⟩ := hB
            rw [htC] at hP1
            have hK1 := va_K.moved hvm.symm hK1
            obtain ⟨hP, hD⟩ := va_join (wr := [(zaL aN cN 36 fN), (zaI aS cS 901 fS), (zaI aB cB 6 fB9_66), (zaI aT cT 64 fT9_67), (zaI aD cD 36 fD9_70)]) (w1 := [(zo14irriiiiiirriirrrrlriiii m0 th aS aI im ac sp en wg op aB aT se9_68 dn9_69 aG aO aN aD bv aY rn kd nu tv), (zaL aO cO 36 fO9_73)]) hP hD [2, 0] [1, 3, 4, 5, 6] rfl rfl (by decide) (by decide) hk1 hFc hP1 hD1
            have hK := (hK.sub (tys' := [(cN, .long), (cS, .int), (cB, .int), (cT, .boolean), (cD, .int)]) [1, 2, 3, 4, 5] rfl).app hK1
            generalize H1 = H at hP hS ⊢
            have hP : va_P (dC, dI) vwCl [(zaL aN cN 36 fN), (zaI aS cS 901 fS), (zaI aB cB 6 fB9_66), (zaI aT cT 64 fT9_67), (zaI aD cD 36 fD9_70), (zo14irriiiiiirriirrrrlriiii m0 th aS aI im ac sp en wg op aB aT se9_68 dn9_69 aG aO aN aD bv aY rn kd nu tv), (zaL aO cO 36 fO9_73)] H := hP
            have hD : va_D A [(zaL aN cN 36 fN), (zaI aS cS 901 fS), (zaI aB cB 6 fB9_66), (zaI aT cT 64 fT9_67), (zaI aD cD 36 fD9_70), (zo14irriiiiiirriirrrrlriiii m0 th aS aI im ac sp en wg op aB aT se9_68 dn9_69 aG aO aN aD bv aY rn kd nu tv), (zaL aO cO 36 fO9_73)] := hD
            have hK : va_K (dC, dI) vwCl [(cN, .long), (cS, .int), (cB, .int), (cT, .boolean), (cD, .int), (cO, .long)] s := hK
            refine lv_iconst (v := 0) hx hb dX12_odds_71 (by decide) ?_
            refine lv_istore (lv' := [(5, .int 0), (4, .int 0), (0, .ref m0), (1, .int (nI j_7)), (2, .int y), (3, .int (nI j_61))]) hx hb dX12_odds_72 hl (by decide) rfl (fun ls hl => ?_)
            have L74 : ∀ (nF : Nat) (i : Nat) (fO2 : Nat → Int64) (fN2 : Nat → Int64), wk - i < nF → (i ≤ wk) → ∀ (H : Heap) (locs : List Loc), va_K (dC, dI) vwCl [(cS, .int), (cB, .int), (cT, .boolean), (cO, .long), (cN, .long), (cD, .int)] s → va_P (dC, dI) vwCl [(zo14irriiiiiirriirrrrlriiii m0 th aS aI im ac sp en wg op aB aT se9_68 dn9_69 aG aO aN aD bv aY rn kd nu tv), (zaI aS cS 901 fS), (zaI aB cB 6 fB9_66), (zaI aT cT 64 fT9_67), (zaL aO cO 36 fO2), (zaL aN cN 36 fN2), (zaI aD cD 36 fD9_70)] H → va_D A [(zo14irriiiiiirriirrrrlriiii m0 th aS aI im ac sp en wg op aB aT se9_68 dn9_69 aG aO aN aD bv aY rn kd nu tv), (zaI aS cS 901 fS), (zaI aB cB 6 fB9_66), (zaI aT cT 64 fT9_67), (zaL aO cO 36 fO2), (zaL aN cN 36 fN2), (zaI aD cD 36 fD9_70)] → va_S A s.heap H locs → ∀ (ls : Array Slot), lv_has ls 7 [(0, .ref m0), (1, .int (nI j_7)), (2, .int y), (3, .int (nI j_61)), (4, .int 0), (5, .int (nI i))] → W p l e ({ frames := 4, cells := 0, slots := 0, locals := 101 } : Room) s m args below meth c H locs 0 0 Q (F0 m 74 ls []) := by
              intro nF
              induction nF with
              | zero => intro i fO2 fN2 hm; exact absurd hm (Nat.not_lt_zero _)
              | succ nF ih74 =>
                intro i fO2 fN2 hm hii H locs hK hP hD hS ls hl
                refine lv_iload hx hb dX12_odds_74 (lv_at hl 5 rfl) ?_
                refine lv_aload_n hx hb dX12_odds_76 rfl (lv_at hl 0 rfl) ?_
                refine va_get (D := (dC, dI)) (ci := 14) (v := .ref aS) (C := RX12) (T := TX12) (N := 23) hx hb hts kc_mOdds_0 hown hK hP 0 rfl rfl 1 (by decide) (hts (.fieldLink RX12 9 "MistHeapsModel" "s" "[I") kc_mOdds_1) (fun _ h9 => h9) rfl dX12_odds_77 ?_
                refine lv_iconst (v := 2) hx hb dX12_odds_80 (by decide) ?_
                refine va_iald hx hb hK hP 1 0 rfl rfl (vp_in_nI (n := 2) (N := 901) (by omega) (by omega)) dX12_odds_81 ?_
                refine qi_as (y := nI wk) ((show fS (2 : Int32).toNatClampNeg = fS 2 from rfl).trans (zw)) ?_
                refine lv_icmp_ge (tgt := 105) hx hb dX12_odds_82 (by decide) (fun c_74 => ?_) (fun c_74 => ?_)
                · skip
                  have c_74 : wk ≤ i := (nI_leI (a := wk) (b := i) (by omega) (by omega)).mp c_74
                  refine lv_iload hx hb dX12_odds_105 (lv_at hl 4 rfl) ?_
                  refine lv_if_eq (tgt := 121) hx hb dX12_odds_107 (by decide) (fun _ => ?_) (fun c_75 => absurd c_75 (by decide))
                  refine lv_iload_n hx hb dX12_odds_121 rfl (lv_at hl 2 rfl) ?_
                  refine lv_bipush (v := 40) hx hb dX12_odds_122 (by decide) ?_
                  refine lv_icmp_ne (tgt := 134) hx hb dX12_odds_124 (by decide) (fun c_76 => ?_) (fun c_76 => ?_)
                  · skip
                    exact absurd c_55 c_76
                  · skip
                    refine lv_aload_n hx hb dX12_odds_127 rfl (lv_at hl 0 rfl) ?_
                    have hPc := hP.sub (ws' := [(zo14irriiiiiirriirrrrlriiii m0 th aS aI im ac sp en wg op aB aT se9_68 dn9_69 aG aO aN aD bv aY rn kd nu tv), (zaI aS cS 901 fS), (zaL aO cO 36 fO2)]) [0, 1, 4] rfl
                    have hKc := hK.sub (tys' := [(cS, .int), (cO, .long)]) [0, 3] rfl
                    refine vp_callSl (va_runV (As := []) (rest := []) ⟨hx, hb, hml, hown, hts⟩ (c_over l dC dI m0 aS aI aB aT aG aO aN aD aY th im ac sp en wg op se9_68 dn9_69 rn kd nu tv bv cS cO fS fO2) (cwV 0 hts gX12_odds_X12_over rfl rfl rfl hd_yX12_over ⟨Nat.le_of_ble_eq_true rfl, Nat.le_of_ble_eq_true rfl⟩) ⟨fun a U g mk q => by obtain ⟨q0, qP, qK⟩ := q; exact ⟨q0, qP, va_K.moved (u := U) (U := U.calling g mk a) (Vm.Alike.refl U.vm) qK⟩, va_recv hK hP (ci := 14) (q := (RX12, TX12, 23)) (q0 := 0) rfl rfl, fun U hU hW => ⟨rfl, by rw [hU]; exact hPc, va_K.moved hW.alike hKc⟩⟩ rfl rfl hl.1 rfl (lv_room (Nat.le_of_ble_eq_true rfl)) dX12_odds_128 ⟨Nat.le_of_ble_eq_true rfl, Nat.le_of_ble_eq_true rfl⟩).run (fun r_77 hw_78 => ?_)
                    refine lv_goto (tgt := 140) hx hb dX12_odds_131 (by decide) ?_
                    refine lv_lstore (lv' := [(5, .long r_77), (0, .ref m0), (1, .int (nI j_7)), (2, .int y), (3, .int (nI j_61)), (4, .int 0)]) hx hb dX12_odds_140 hl (by decide) rfl (fun ls hl => ?_)
                    refine lv_lload hx hb dX12_odds_142 (lv_at hl 0 rfl) ?_
                    refine lv_aload_n hx hb dX12_odds_144 rfl (lv_at hl 1 rfl) ?_
                    refine va_get (D := (dC, dI)) (ci := 14) (v := .ref aS) (C := RX12) (T := TX12) (N := 23) hx hb hts kc_mOdds_0 hown hK hP 0 rfl rfl 1 (by decide) (hts (.fieldLink RX12 9 "MistHeapsModel" "s" "[I") kc_mOdds_1) (fun _ h9 => h9) rfl dX12_odds_145 ?_
                    refine lv_iconst (v := 2) hx hb dX12_odds_148 (by decide) ?_
                    refine va_iald hx hb hK hP 1 0 rfl rfl (vp_in_nI (n := 2) (N := 901) (by omega) (by omega)) dX12_odds_149 ?_
                    refine qi_as (y := nI wk) ((show fS (2 : Int32).toNatClampNeg = fS 2 from rfl).trans (zw)) ?_
                    refine vp_callSl (va_runS (As := [.int (nI wk)]) (rest := [.long r_77]) ⟨hx, hb, hml, hown, hts⟩ (c_twenties l dC dI wk (by omega)) (va_cwS 1 hts gX12_odds_X12_twenties rfl rfl rfl hd_yX12_twenties.2 ⟨Nat.le_of_ble_eq_true rfl, Nat.le_of_ble_eq_true rfl⟩) ⟨fun a U g mk q => ⟨q.1, trivial⟩, fun U hU hW => ⟨rfl, trivial⟩⟩ rfl rfl hl.1 rfl (lv_room (Nat.le_of_ble_eq_true rfl)) dX12_odds_150 ⟨Nat.le_of_ble_eq_true rfl, Nat.le_of_ble_eq_true rfl⟩).run (fun r_79 hw_80 => ?_)
                    refine lv_iload_n hx hb dX12_odds_153 rfl (lv_at hl 4 rfl) ?_
                    refine vp_callSl (va_runS (As := [.long r_77, .long r_79, .int (nI j_61)]) (rest := []) ⟨hx, hb, hml, hown, hts⟩ (c_lowest l dC dI r_77 r_79 (nI j_61) hw_80) (va_cwS 3 hts gX12_odds_X12_lowest rfl rfl rfl hd_yX12_lowest.2 ⟨Nat.le_of_ble_eq_true rfl, Nat.le_of_ble_eq_true rfl⟩) ⟨fun a U g mk q => ⟨q.1, trivial⟩, fun U hU hW => ⟨rfl, trivial⟩⟩ rfl rfl hl.1 rfl (lv_room (Nat.le_of_ble_eq_true rfl)) dX12_odds_154 ⟨Nat.le_of_ble_eq_true rfl, Nat.le_of_ble_eq_true rfl⟩).run (fun r_81 hw_82 => ?_)
                    rw [hQ]
                    have hP9 := hP.sub (ws' := [(zo14irriiiiiirriirrrrlriiii m0 th aS aI im ac sp en wg op aB aT se9_68 dn9_69 aG aO aN aD bv aY rn kd nu tv), (zaI aS cS 901 fS), (zaI aB cB 6 fB9_66), (zaI aT cT 64 fT9_67), (zaL aO cO 36 fO2), (zaL aN cN 36 fN2), (zaI aD cD 36 fD9_70)]) [0, 1, 2, 3, 4, 5, 6] rfl
                    have hD9 := hD.sub (ws' := [(zo14irriiiiiirriirrrrlriiii m0 th aS aI im ac sp en wg op aB aT se9_68 dn9_69 aG aO aN aD bv aY rn kd nu tv), (zaI aS cS 901 fS), (zaI aB cB 6 fB9_66), (zaI aT cT 64 fT9_67), (zaL aO cO 36 fO2), (zaL aN cN 36 fN2), (zaI aD cD 36 fD9_70)]) [0, 1, 2, 3, 4, 5, 6] (by decide) rfl
                    have hK9 := hK.sub (tys' := [(cS, .int), (cB, .int), (cT, .boolean), (cO, .long), (cN, .long), (cD, .int)]) [0, 1, 2, 3, 4, 5] rfl
                    exact W.lret (v := r_81) hx hb hr (fun tQ htQ hWQ => ⟨⟨r_81, (fB9_66, fT9_67, se9_68, dn9_69, fD9_70, fO2, fN2), rfl, trivial, by rw [htQ]; exact hP9, va_K.moved hWQ.alike hK9, hD9⟩, hS.F htQ⟩) hS.2.2 dX12_odds_157
                · skip
                  have c_74 : ¬ wk ≤ i := fun q => c_74 ((nI_leI (a := wk) (b := i) (by omega) (by omega)).mpr q)
                  refine lv_aload_n hx hb dX12_odds_85 rfl (lv_at hl 0 rfl) ?_
                  refine lv_aload_n hx hb dX12_odds_86 rfl (lv_at hl 0 rfl) ?_
                  refine va_get (D := (dC, dI)) (ci := 14) (v := .ref aS) (C := RX12) (T := TX12) (N := 23) hx hb hts kc_mOdds_0 hown hK hP 0 rfl rfl 1 (by decide) (hts (.fieldLink RX12 9 "MistHeapsModel" "s" "[I") kc_mOdds_1) (fun _ h9 => h9) rfl dX12_odds_87 ?_
                  refine lv_bipush (v := 73) hx hb dX12_odds_90 (by decide) ?_
                  refine lv_iload hx hb dX12_odds_92 (lv_at hl 5 rfl) ?_
                  refine lv_iadd hx hb dX12_odds_94 ?_
                  refine qi_as (y := nI (73 + i)) (nI_add 73 i) ?_
                  refine va_iald hx hb hK hP 1 0 rfl rfl (vp_in_nI (n := 73 + i) (N := 901) (by omega) (by omega)) dX12_odds_95 ?_
                  refine qi_as (y := fS (73 + i)) (by rw [nI_clamp (by omega)]) ?_
                  have hPc := hP.sub (ws' := [(zo14irriiiiiirriirrrrlriiii m0 th aS aI im ac sp en wg op aB aT se9_68 dn9_69 aG aO aN aD bv aY rn kd nu tv), (zaI aS cS 901 fS), (zaL aO cO 36 fO2), (zaL aN cN 36 fN2), (zaI aD cD 36 fD9_70)]) [0, 1, 4, 5, 6] rfl
                  have hDc := hD.sub (ws' := [(zo14irriiiiiirriirrrrlriiii m0 th aS aI im ac sp en wg op aB aT se9_68 dn9_69 aG aO aN aD bv aY rn kd nu tv), (zaI aS cS 901 fS), (zaL aO cO 36 fO2), (zaL aN cN 36 fN2), (zaI aD cD 36 fD9_70)]) [0, 1, 4, 5, 6] (by decide) rfl
                  have hKc := hK.sub (tys' := [(cS, .int), (cO, .long), (cN, .long), (cD, .int)]) [0, 3, 4, 5] rfl
                  have hFc := va_free (wc := [(zo14irriiiiiirriirrrrlriiii m0 th aS aI im ac sp en wg op aB aT se9_68 dn9_69 aG aO aN aD bv aY rn kd nu tv), (zaI aS cS 901 fS), (zaL aO cO 36 fO2), (zaL aN cN 36 fN2), (zaI aD cD 36 fD9_70)]) hD hS hA [0, 1, 4, 5, 6] rfl
                  refine va_callv (va_runV (As := [.int (fS (73 + i))]) (rest := []) ⟨hx, hb, hml, hown, hts⟩ (c_goesOn l dC dI m0 aS aI aB aT aG aO aN aD aY th im ac sp en wg op se9_68 dn9_69 rn kd nu tv bv cS cO cN cD fS fO2 fN2 fD9_70 (fS (73 + i)) H.size) (cwV 1 hts gX12_odds_X12_goesOn rfl rfl rfl hd_yX12_goesOn ⟨Nat.le_of_ble_eq_true rfl, Nat.le_of_ble_eq_true rfl⟩) ⟨fun a U g mk q => by obtain ⟨q0, q1, qP, qK, qD⟩ := q; exact ⟨q0, q1, qP, va_K.moved (u := U) (U := U.calling g mk a) (Vm.Alike.refl U.vm) qK, qD⟩, va_recv hK hP (ci := 14) (q := (RX12, TX12, 23)) (q0 := 0) rfl rfl, fun U hU hW => ⟨rfl, by rw [hU], by rw [hU]; exact hPc, va_K.moved hW.alike hKc, hDc.weaken (fun _ _ _ _ => trivial)⟩⟩ rfl rfl hl.1 rfl (lv_room (Nat.le_of_ble_eq_true rfl)) dX12_odds_96 ⟨Nat.le_of_ble_eq_true rfl, Nat.le_of_ble_eq_true rfl⟩) hS (fun q _ h => hFc q h) hFc (fun u tC H1 locs htC hvm hw_84 hB hz1 hk1 hS => ?_)
                  obtain ⟨fO9_85, fN9_86⟩ := u
                  try dsimp only at hw_84 hB
                  obtain ⟨hP1, hK1, hD1⟩ := hB
                  rw [htC] at hP1
                  have hK1 := va_K.moved hvm.symm hK1
                  obtain ⟨hP, hD⟩ := va_join (wr := [(zaI aB cB 6 fB9_66), (zaI aT cT 64 fT9_67)]) (w1 := [(zo14irriiiiiirriirrrrlriiii m0 th aS aI im ac sp en wg op aB aT se9_68 dn9_69 aG aO aN aD bv aY rn kd nu tv), (zaI aS cS 901 fS), (zaL aO cO 36 fO9_85), (zaL aN cN 36 fN9_86), (zaI aD cD 36 fD9_70)]) hP hD [0, 1, 4, 5, 6] [2, 3] rfl rfl (by decide) (by decide) hk1 hFc hP1 hD1
                  have hK := (hK.sub (tys' := [(cB, .int), (cT, .boolean)]) [1, 2] rfl).app hK1
                  generalize H1 = H at hP hS ⊢
                  have hP : va_P (dC, dI) vwCl [(zaI aB cB 6 fB9_66), (zaI aT cT 64 fT9_67), (zo14irriiiiiirriirrrrlriiii m0 th aS aI im ac sp en wg op aB aT se9_68 dn9_69 aG aO aN aD bv aY rn kd nu tv), (zaI aS cS 901 fS), (zaL aO cO 36 fO9_85), (zaL aN cN 36 fN9_86), (zaI aD cD 36 fD9_70)] H := hP
                  have hD : va_D A [(zaI aB cB 6 fB9_66), (zaI aT cT 64 fT9_67), (zo14irriiiiiirriirrrrlriiii m0 th aS aI im ac sp en wg op aB aT se9_68 dn9_69 aG aO aN aD bv aY rn kd nu tv), (zaI aS cS 901 fS), (zaL aO cO 36 fO9_85), (zaL aN cN 36 fN9_86), (zaI aD cD 36 fD9_70)] := hD
                  have hK : va_K (dC, dI) vwCl [(cB, .int), (cT, .boolean), (cS, .int), (cO, .long), (cN, .long), (cD, .int)] s := hK
                  refine lv_iinc (v := nI (i + 1)) (lv' := [(5, .int (nI (i + 1))), (0, .ref m0), (1, .int (nI j_7)), (2, .int y), (3, .int (nI j_61)), (4, .int 0)]) hx hb dX12_odds_99 hl (k := 5) rfl (nI_add i 1) (by decide) rfl (fun ls hl => ?_)
                  refine lv_goto (tgt := 74) hx hb dX12_odds_102 (by decide) ?_
                  exact ih74 (i + 1) _ _ (by omega) (by omega) _ _ (hK.sub [2, 0, 1, 3, 4, 5] rfl) (hP.sub [2, 3, 0, 1, 4, 5, 6] rfl) (hD.sub [2, 3, 0, 1, 4, 5, 6] (by decide) rfl) hS ls (lv_sub hl [1, 2, 3, 4, 5, 0] rfl)
            exact L74 _ (0) _ _ (Nat.lt_succ_self _) (by omega) _ _ (hK.sub [1, 2, 3, 5, 0, 4] rfl) (hP.sub [5, 1, 2, 3, 6, 0, 4] rfl) (hD.sub [5, 1, 2, 3, 6, 0, 4] (by decide) rfl) hS ls (lv_sub hl [2, 3, 4, 5, 1, 0] rfl)
          · skip
            refine lv_if_ne (tgt := 62) hx hb dX12_odds_55 (by decide) (fun c_87 => absurd c_87 (by decide)) (fun _ => ?_)
            refine lv_ldc2 (v := (-9223372036854775808)) hx hb hown (hts (.constantLong RX12 181 (-9223372036854775808)) kc_mOdds_3) dX12_odds_58 ?_
            rw [hQ]
            have hP9 := hP.sub (ws' := [(zo14irriiiiiirriirrrrlriiii m0 th aS aI im ac sp en wg op aB aT se dn aG aO aN aD bv aY rn kd nu tv), (zaI aS cS 901 fS), (zaI aB cB 6 fB), (zaI aT cT 64 fT), (zaL aO cO 36 fO), (zaL aN cN 36 fN), (zaI aD cD 36 fD)]) [0, 1, 2, 3, 4, 5, 6] rfl
            have hD9 := hD.sub (ws' := [(zo14irriiiiiirriirrrrlriiii m0 th aS aI im ac sp en wg op aB aT se dn aG aO aN aD bv aY rn kd nu tv), (zaI aS cS 901 fS), (zaI aB cB 6 fB), (zaI aT cT 64 fT), (zaL aO cO 36 fO), (zaL aN cN 36 fN), (zaI aD cD 36 fD)]) [0, 1, 2, 3, 4, 5, 6] (by decide) rfl
            have hK9 := hK.sub (tys' := [(cS, .int), (cB, .int), (cT, .boolean), (cO, .long), (cN, .long), (cD, .int)]) [0, 1, 2, 3, 4, 5] rfl
            exact W.lret (v := (-9223372036854775808)) hx hb hr (fun tQ htQ hWQ => ⟨⟨(-9223372036854775808), (fB, fT, se, dn, fD, fO, fN), rfl, trivial, by rw [htQ]; exact hP9, va_K.moved hWQ.alike hK9, hD9⟩, hS.F htQ⟩) hS.2.2 dX12_odds_61
        · skip
          refine lv_iload hx hb dX12_odds_44 (lv_at hl 0 rfl) ?_
          refine lv_if_eq (tgt := 58) hx hb dX12_odds_46 (by decide) (fun _ => ?_) (fun c_88 => absurd c_88 (by decide))
          refine lv_ldc2 (v := (-9223372036854775808)) hx hb hown (hts (.constantLong RX12 181 (-9223372036854775808)) kc_mOdds_3) dX12_odds_58 ?_
          rw [hQ]
          have hP9 := hP.sub (ws' := [(zo14irriiiiiirriirrrrlriiii m0 th aS aI im ac sp en wg op aB aT se dn aG aO aN aD bv aY rn kd nu tv), (zaI aS cS 901 fS), (zaI aB cB 6 fB), (zaI aT cT 64 fT), (zaL aO cO 36 fO), (zaL aN cN 36 fN), (zaI aD cD 36 fD)]) [0, 1, 2, 3, 4, 5, 6] rfl
          have hD9 := hD.sub (ws' := [(zo14irriiiiiirriirrrrlriiii m0 th aS aI im ac sp en wg op aB aT se dn aG aO aN aD bv aY rn kd nu tv), (zaI aS cS 901 fS), (zaI aB cB 6 fB), (zaI aT cT 64 fT), (zaL aO cO 36 fO), (zaL aN cN 36 fN), (zaI aD cD 36 fD)]) [0, 1, 2, 3, 4, 5, 6] (by decide) rfl
          have hK9 := hK.sub (tys' := [(cS, .int), (cB, .int), (cT, .boolean), (cO, .long), (cN, .long), (cD, .int)]) [0, 1, 2, 3, 4, 5] rfl
          exact W.lret (v := (-9223372036854775808)) hx hb hr (fun tQ htQ hWQ => ⟨⟨(-9223372036854775808), (fB, fT, se, dn, fD, fO, fN), rfl, trivial, by rw [htQ]; exact hP9, va_K.moved hWQ.alike hK9, hD9⟩, hS.F htQ⟩) hS.2.2 dX12_odds_61
    · skip
      refine lv_if_eq (tgt := 58) hx hb dX12_odds_28 (by decide) (fun _ => ?_) (fun c_89 => absurd c_89 (by decide))
      refine lv_ldc2 (v := (-9223372036854775808)) hx hb hown (hts (.constantLong RX12 181 (-9223372036854775808)) kc_mOdds_3) dX12_odds_58 ?_
      rw [hQ]
      have hP9 := hP.sub (ws' := [(zo14irriiiiiirriirrrrlriiii m0 th aS aI im ac sp en wg op aB aT se dn aG aO aN aD bv aY rn kd nu tv), (zaI aS cS 901 fS), (zaI aB cB 6 fB), (zaI aT cT 64 fT), (zaL aO cO 36 fO), (zaL aN cN 36 fN), (zaI aD cD 36 fD)]) [0, 1, 2, 3, 4, 5, 6] rfl
      have hD9 := hD.sub (ws' := [(zo14irriiiiiirriirrrrlriiii m0 th aS aI im ac sp en wg op aB aT se dn aG aO aN aD bv aY rn kd nu tv), (zaI aS cS 901 fS), (zaI aB cB 6 fB), (zaI aT cT 64 fT), (zaL aO cO 36 fO), (zaL aN cN 36 fN), (zaI aD cD 36 fD)]) [0, 1, 2, 3, 4, 5, 6] (by decide) rfl
      have hK9 := hK.sub (tys' := [(cS, .int), (cB, .int), (cT, .boolean), (cO, .long), (cN, .long), (cD, .int)]) [0, 1, 2, 3, 4, 5] rfl
      exact W.lret (v := (-9223372036854775808)) hx hb hr (fun tQ htQ hWQ => ⟨⟨(-9223372036854775808), (fB, fT, se, dn, fD, fO, fN), rfl, trivial, by rw [htQ]; exact hP9, va_K.moved hWQ.alike hK9, hD9⟩, hS.F htQ⟩) hS.2.2 dX12_odds_61
  · skip
    refine lv_aload_n hx hb dX12_odds_6 rfl (lv_at hl 0 rfl) ?_
    refine lv_iload_n hx hb dX12_odds_7 rfl (lv_at hl 2 rfl) ?_
    refine lv_bipush (v := 50) hx hb dX12_odds_8 (by decide) ?_
    refine lv_isub hx hb dX12_odds_10 ?_
    have hPc := hP.sub (ws' := [(zo14irriiiiiirriirrrrlriiii m0 th aS aI im ac sp en wg op aB aT se dn aG aO aN aD bv aY rn kd nu tv), (zaI aS cS 901 fS)]) [0, 1] rfl
    have hKc := hK.sub (tys' := [(cS, .int)]) [0] rfl
    refine vp_callSi (va_runV (As := [.int (y - 50)]) (rest := []) ⟨hx, hb, hml, hown, hts⟩ (c_isHeap l dC dI m0 aS aI aB aT aG aO aN aD aY th im ac sp en wg op se dn rn kd nu tv bv cS fS n (y - 50) (zn) (hn)) (cwV 1 hts gX12_odds_X12_isHeap rfl rfl rfl hd_yX12_isHeap ⟨Nat.le_of_ble_eq_true rfl, Nat.le_of_ble_eq_true rfl⟩) ⟨fun a U g mk q => by obtain ⟨q0, qP, qK⟩ := q; exact ⟨q0, qP, va_K.moved (u := U) (U := U.calling g mk a) (Vm.Alike.refl U.vm) qK⟩, va_recv hK hP (ci := 14) (q := (RX12, TX12, 23)) (q0 := 0) rfl rfl, fun U hU hW => ⟨rfl, by rw [hU]; exact hPc, va_K.moved hW.alike hKc⟩⟩ rfl rfl hl.1 rfl (lv_room (Nat.le_of_ble_eq_true rfl)) dX12_odds_11 ⟨Nat.le_of_ble_eq_true rfl, Nat.le_of_ble_eq_true rfl⟩).run (fun r_90 hw_91 => ?_)
    rcases hw_91 with ⟨rfl, j_92, hj_93, ej_94⟩ | ⟨rfl, h_95⟩
    · skip
      refine lv_if_eq (tgt := 21) hx hb dX12_odds_14 (by decide) (fun c_96 => absurd c_96 (by decide)) (fun _ => ?_)
      refine lv_iconst (v := 1) hx hb dX12_odds_17 (by decide) ?_
      refine lv_goto (tgt := 22) hx hb dX12_odds_18 (by decide) ?_
      refine lv_istore (lv' := [(4, .int 1), (0, .ref m0), (1, .int x), (2, .int y), (3, .int z)]) hx hb dX12_odds_22 hl (by decide) rfl (fun ls hl => ?_)
      refine lv_iload_n hx hb dX12_odds_24 rfl (lv_at hl 2 rfl) ?_
      refine vp_callSi (va_runS (As := [.int x]) (rest := []) ⟨hx, hb, hml, hown, hts⟩ (c_mCell l dC dI x) (va_cwS 1 hts gX12_odds_X12_isCell rfl rfl rfl hd_yX12_isCell.2 ⟨Nat.le_of_ble_eq_true rfl, Nat.le_of_ble_eq_true rfl⟩) ⟨fun a U g mk q => ⟨q.1, trivial⟩, fun U hU hW => ⟨rfl, trivial⟩⟩ rfl rfl hl.1 rfl (lv_room (Nat.le_of_ble_eq_true rfl)) dX12_odds_25 ⟨Nat.le_of_ble_eq_true rfl, Nat.le_of_ble_eq_true rfl⟩).run (fun r_97 hw_98 => ?_)
      rcases hw_98 with ⟨rfl, h_99, h_100⟩ | ⟨rfl, h_101⟩
      · skip
        obtain ⟨j_102, hj_103, rfl⟩ := nI_of2 (n := 35) (M := 35) rfl h_99 (Int32.not_lt.mp h_100)
        refine lv_if_eq (tgt := 58) hx hb dX12_odds_28 (by decide) (fun c_104 => absurd c_104 (by decide)) (fun _ => ?_)
        refine lv_iload_n hx hb dX12_odds_31 rfl (lv_at hl 3 rfl) ?_
        refine vp_callSi (va_runS (As := [.int y]) (rest := []) ⟨hx, hb, hml, hown, hts⟩ (c_mCell l dC dI y) (va_cwS 1 hts gX12_odds_X12_isCell rfl rfl rfl hd_yX12_isCell.2 ⟨Nat.le_of_ble_eq_true rfl, Nat.le_of_ble_eq_true rfl⟩) ⟨fun a U g mk q => ⟨q.1, trivial⟩, fun U hU hW => ⟨rfl, trivial⟩⟩ rfl rfl hl.1 rfl (lv_room (Nat.le_of_ble_eq_true rfl)) dX12_odds_32 ⟨Nat.le_of_ble_eq_true rfl, Nat.le_of_ble_eq_true rfl⟩).run (fun r_105 hw_106 => ?_)
        rcases hw_106 with ⟨rfl, h_107, h_108⟩ | ⟨rfl, h_109⟩
        · skip
          obtain ⟨j_110, hj_111, rfl⟩ := nI_of2 (n := 35) (M := 35) rfl h_107 (Int32.not_lt.mp h_108)
          refine lv_if_ne (tgt := 49) hx hb dX12_odds_35 (by decide) (fun _ => ?_) (fun c_112 => absurd c_112 (by decide))
          refine lv_iload_n hx hb dX12_odds_49 rfl (lv_at hl 4 rfl) ?_
          refine lv_iconst (v := 0) hx hb dX12_odds_50 (by decide) ?_
          refine lv_iconst (v := 1) hx hb dX12_odds_51 (by decide) ?_
          refine vp_callSi (va_runS (As := [.int z, .int 0, .int 1]) (rest := []) ⟨hx, hb, hml, hown, hts⟩ (c_in l dC dI z 0 1) (va_cwS 3 hts gX12_odds_X12_in rfl rfl rfl hd_yX12_in.2 ⟨Nat.le_of_ble_eq_true rfl, Nat.le_of_ble_eq_true rfl⟩) ⟨fun a U g mk q => ⟨q.1, trivial⟩, fun U hU hW => ⟨rfl, trivial⟩⟩ rfl rfl hl.1 rfl (lv_room (Nat.le_of_ble_eq_true rfl)) dX12_odds_52 ⟨Nat.le_of_ble_eq_true rfl, Nat.le_of_ble_eq_true rfl⟩).run (fun r_113 hw_114 => ?_)
          rcases hw_114 with ⟨rfl, h_115, h_116⟩ | ⟨rfl, h_117⟩
          · skip
            obtain ⟨j_118, hj_119, rfl⟩ := nI_of2 (n := 1) (M := 1) rfl h_115 (Int32.not_lt.mp h_116)
            refine lv_if_ne (tgt := 62) hx hb dX12_odds_55 (by decide) (fun _ => ?_) (fun c_120 => absurd c_120 (by decide))
            refine lv_aload_n hx hb dX12_odds_62 rfl (lv_at hl 1 rfl) ?_
            have hPc := hP.sub (ws' := [(zo14irriiiiiirriirrrrlriiii m0 th aS aI im ac sp en wg op aB aT se dn aG aO aN aD bv aY rn kd nu tv), (zaI aS cS 901 fS), (zaI aB cB 6 fB), (zaI aT cT 64 fT), (zaI aD cD 36 fD)]) [0, 1, 2, 3, 6] rfl
            have hDc := hD.sub (ws' := [(zo14irriiiiiirriirrrrlriiii m0 th aS aI im ac sp en wg op aB aT se dn aG aO aN aD bv aY rn kd nu tv), (zaI aS cS 901 fS), (zaI aB cB 6 fB), (zaI aT cT 64 fT), (zaI aD cD 36 fD)]) [0, 1, 2, 3, 6] (by decide) rfl
            have hKc := hK.sub (tys' := [(cS, .int), (cB, .int), (cT, .boolean), (cD, .int)]) [0, 1, 2, 5] rfl
            have hFc := va_free (wc := [(zo14irriiiiiirriirrrrlriiii m0 th aS aI im ac sp en wg op aB aT se dn aG aO aN aD bv aY rn kd nu tv), (zaI aS cS 901 fS), (zaI aB cB 6 fB), (zaI aT cT 64 fT), (zaI aD cD 36 fD)]) hD hS hA [0, 1, 2, 3, 6] rfl
            refine va_callv (va_runV (As := []) (rest := []) ⟨hx, hb, hml, hown, hts⟩ (c_lookDrifts l dC dI m0 aS aI aB aT aG aO aN aD aY th im ac sp en wg op se dn rn kd nu tv bv cS cB cT cD fS fB fT fD cz H.size (zh)) (cwV 0 hts gX12_odds_X12_looksForDrifts rfl rfl rfl hd_yX12_looksForDrifts ⟨Nat.le_of_ble_eq_true rfl, Nat.le_of_ble_eq_true rfl⟩) ⟨fun a U g mk q => by obtain ⟨q0, q1, qP, qK, qD⟩ := q; exact ⟨q0, q1, qP, va_K.moved (u := U) (U := U.calling g mk a) (Vm.Alike.refl U.vm) qK, qD⟩, va_recv hK hP (ci := 14) (q := (RX12, TX12, 23)) (q0 := 0) rfl rfl, fun U hU hW => ⟨rfl, by rw [hU], by rw [hU]; exact hPc, va_K.moved hW.alike hKc, hDc.weaken (fun _ _ _ _ => trivial)⟩⟩ rfl rfl hl.1 rfl (lv_room (Nat.le_of_ble_eq_true rfl)) dX12_odds_63 ⟨Nat.le_of_ble_eq_true rfl, Nat.le_of_ble_eq_true rfl⟩) hS (fun q _ h => hFc q h) hFc (fun u tC H1 locs htC hvm hw_122 hB hz1 hk1 hS => ?_)
            obtain ⟨fB9_123, fT9_124, se9_125, dn9_126, fD9_127⟩ := u
            try dsimp only at hw_122 hB
            obtain ⟨hP1, hK1, hD1⟩ := hB
            rw [htC] at hP1
            have hK1 := va_K.moved hvm.symm hK1
            obtain ⟨hP, hD⟩ := va_join (wr := [(zaL aO cO 36 fO), (zaL aN cN 36 fN)]) (w1 := [(zo14irriiiiiirriirrrrlriiii m0 th aS aI im ac sp en wg op aB aT se9_125 dn9_126 aG aO aN aD bv aY rn kd nu tv), (zaI aS cS 901 fS), (zaI aB cB 6 fB9_123), (zaI aT cT 64 fT9_124), (zaI aD cD 36 fD9_127)]) hP hD [0, 1, 2, 3, 6] [4, 5] rfl rfl (by decide) (by decide) hk1 hFc hP1 hD1
            have hK := (hK.sub (tys' := [(cO, .long), (cN, .long)]) [3, 4] rfl).app hK1
            generalize H1 = H at hP hS ⊢
            have hP : va_P (dC, dI) vwCl [(zaL aO cO 36 fO), (zaL aN cN 36 fN), (zo14irriiiiiirriirrrrlriiii m0 th aS aI im ac sp en wg op aB aT se9_125 dn9_126 aG aO aN aD bv aY rn kd nu tv), (zaI aS cS 901 fS), (zaI aB cB 6 fB9_123), (zaI aT cT 64 fT9_124), (zaI aD cD 36 fD9_127)] H := hP
            have hD : va_D A [(zaL aO cO 36 fO), (zaL aN cN 36 fN), (zo14irriiiiiirriirrrrlriiii m0 th aS aI im ac sp en wg op aB aT se9_125 dn9_126 aG aO aN aD bv aY rn kd nu tv), (zaI aS cS 901 fS), (zaI aB cB 6 fB9_123), (zaI aT cT 64 fT9_124), (zaI aD cD 36 fD9_127)] := hD
            have hK : va_K (dC, dI) vwCl [(cO, .long), (cN, .long), (cS, .int), (cB, .int), (cT, .boolean), (cD, .int)] s := hK
            refine lv_aload_n hx hb dX12_odds_66 rfl (lv_at hl 1 rfl) ?_
            refine lv_iload_n hx hb dX12_odds_67 rfl (lv_at hl 2 rfl) ?_
            have hPc := hP.sub (ws' := [(zo14irriiiiiirriirrrrlriiii m0 th aS aI im ac sp en wg op aB aT se9_125 dn9_126 aG aO aN aD bv aY rn kd nu tv), (zaL aO cO 36 fO)]) [2, 0] rfl
            have hDc := hD.sub (ws' := [(zo14irriiiiiirriirrrrlriiii m0 th aS aI im ac sp en wg op aB aT se9_125 dn9_126 aG aO aN aD bv aY rn kd nu tv), (zaL aO cO 36 fO)]) [2, 0] (by decide) rfl
            have hKc := hK.sub (tys' := [(cO, .long)]) [0] rfl
            have hFc := va_free (wc := [(zo14irriiiiiirriirrrrlriiii m0 th aS aI im ac sp en wg op aB aT se9_125 dn9_126 aG aO aN aD bv aY rn kd nu tv), (zaL aO cO 36 fO)]) hD hS hA [2, 0] rfl
            refine va_callv (va_runV (As := [.int (nI j_102)]) (rest := []) ⟨hx, hb, hml, hown, hts⟩ (c_begins l dC dI m0 aS aI aB aT aG aO aN aD aY th im ac sp en wg op se9_125 dn9_126 rn kd nu tv bv cO fO (nI j_102) H.size) (cwV 1 hts gX12_odds_X12_begins rfl rfl rfl hd_yX12_begins ⟨Nat.le_of_ble_eq_true rfl, Nat.le_of_ble_eq_true rfl⟩) ⟨fun a U g mk q => by obtain ⟨q0, q1, qP, qK, qD⟩ := q; exact ⟨q0, q1, qP, va_K.moved (u := U) (U := U.calling g mk a) (Vm.Alike.refl U.vm) qK, qD⟩, va_recv hK hP (ci := 14) (q := (RX12, TX12, 23)) (q0 := 2) rfl rfl, fun U hU hW => ⟨rfl, by rw [hU], by rw [hU]; exact hPc, va_K.moved hW.alike hKc, hDc.weaken (fun _ _ _ _ => trivial)⟩⟩ rfl rfl hl.1 rfl (lv_room (Nat.le_of_ble_eq_true rfl)) dX12_odds_68 ⟨Nat.le_of_ble_eq_true rfl, Nat.le_of_ble_eq_true rfl⟩) hS (fun q _ h => hFc q h) hFc (fun u tC H1 locs htC hvm hw_129 hB hz1 hk1 hS => ?_)
            obtain ⟨fO9_130, rfl⟩ : ∃ z, z = u := ⟨_, rfl⟩
            try dsimp only at hw_129 hB
            obtain ⟨hP1, hK1, hD1⟩ := hB
            rw [htC] at hP1
            have hK1 := va_K.moved hvm.symm hK1
            obtain ⟨hP, hD⟩ := va_join (wr := [(zaL aN cN 36 fN), (zaI aS cS 901 fS), (zaI aB cB 6 fB9_123), (zaI aT cT 64 fT9_124), (zaI aD cD 36 fD9_127)]) (w1 := [(zo14irriiiiiirriirrrrlriiii m0 th aS aI im ac sp en wg op aB aT se9_125 dn9_126 aG aO aN aD bv aY rn kd nu tv), (zaL aO cO 36 fO9_130)]) hP hD [2, 0] [1, 3, 4, 5, 6] rfl rfl (by decide) (by decide) hk1 hFc hP1 hD1
            have hK := (hK.sub (tys' := [(cN, .long), (cS, .int), (cB, .int), (cT, .boolean), (cD, .int)]) [1, 2, 3, 4, 5] rfl).app hK1
            generalize H1 = H at hP hS ⊢
            have hP : va_P (dC, dI) vwCl [(zaL aN cN 36 fN), (zaI aS cS 901 fS), (zaI aB cB 6 fB9_123), (zaI aT cT 64 fT9_124), (zaI aD cD 36 fD9_127), (zo14irriiiiiirriirrrrlriiii m0 th aS aI im ac sp en wg op aB aT se9_125 dn9_126 aG aO aN aD bv aY rn kd nu tv), (zaL aO cO 36 fO9_130)] H := hP
            have hD : va_D A [(zaL aN cN 36 fN), (zaI aS cS 901 fS), (zaI aB cB 6 fB9_123), (zaI aT cT 64 fT9_124), (zaI aD cD 36 fD9_127), (zo14irriiiiiirriirrrrlriiii m0 th aS aI im ac sp en wg op aB aT se9_125 dn9_126 aG aO aN aD bv aY rn kd nu tv), (zaL aO cO 36 fO9_130)] := hD
            have hK : va_K (dC, dI) vwCl [(cN, .long), (cS, .int), (cB, .int), (cT, .boolean), (cD, .int), (cO, .long)] s := hK
            refine lv_iconst (v := 0) hx hb dX12_odds_71 (by decide) ?_
            refine lv_istore (lv' := [(5, .int 0), (4, .int 1), (0, .ref m0), (1, .int (nI j_102)), (2, .int (nI j_110)), (3, .int (nI j_118))]) hx hb dX12_odds_72 hl (by decide) rfl (fun ls hl => ?_)
            have L74 : ∀ (nF : Nat) (i : Nat) (fO2 : Nat → Int64) (fN2 : Nat → Int64), wk - i < nF → (i ≤ wk) → ∀ (H : Heap) (locs : List Loc), va_K (dC, dI) vwCl [(cS, .int), (cB, .int), (cT, .boolean), (cO, .long), (cN, .long), (cD, .int)] s → va_P (dC, dI) vwCl [(zo14irriiiiiirriirrrrlriiii m0 th aS aI im ac sp en wg op aB aT se9_125 dn9_126 aG aO aN aD bv aY rn kd nu tv), (zaI aS cS 901 fS), (zaI aB cB 6 fB9_123), (zaI aT cT 64 fT9_124), (zaL aO cO 36 fO2), (zaL aN cN 36 fN2), (zaI aD cD 36 fD9_127)] H → va_D A [(zo14irriiiiiirriirrrrlriiii m0 th aS aI im ac sp en wg op aB aT se9_125 dn9_126 aG aO aN aD bv aY rn kd nu tv), (zaI aS cS 901 fS), (zaI aB cB 6 fB9_123), (zaI aT cT 64 fT9_124), (zaL aO cO 36 fO2), (zaL aN cN 36 fN2), (zaI aD cD 36 fD9_127)] → va_S A s.heap H locs → ∀ (ls : Array Slot), lv_has ls 7 [(0, .ref m0), (1, .int (nI j_102)), (2, .int (nI j_110)), (3, .int (nI j_118)), (4, .int 1), (5, .int (nI i))] → W p l e ({ frames := 4, cells := 0, slots := 0, locals := 101 } : Room) s m args below meth c H locs 0 0 Q (F0 m 74 ls []) := by
              intro nF
              induction nF with
              | zero => intro i fO2 fN2 hm; exact absurd hm (Nat.not_lt_zero _)
              | succ nF ih74 =>
                intro i fO2 fN2 hm hii H locs hK hP hD hS ls hl
                refine lv_iload hx hb dX12_odds_74 (lv_at hl 5 rfl) ?_
                refine lv_aload_n hx hb dX12_odds_76 rfl (lv_at hl 0 rfl) ?_
                refine va_get (D := (dC, dI)) (ci := 14) (v := .ref aS) (C := RX12) (T := TX12) (N := 23) hx hb hts kc_mOdds_0 hown hK hP 0 rfl rfl 1 (by decide) (hts (.fieldLink RX12 9 "MistHeapsModel" "s" "[I") kc_mOdds_1) (fun _ h9 => h9) rfl dX12_odds_77 ?_
                refine lv_iconst (v := 2) hx hb dX12_odds_80 (by decide) ?_
                refine va_iald hx hb hK hP 1 0 rfl rfl (vp_in_nI (n := 2) (N := 901) (by omega) (by omega)) dX12_odds_81 ?_
                refine qi_as (y := nI wk) ((show fS (2 : Int32).toNatClampNeg = fS 2 from rfl).trans (zw)) ?_
                refine lv_icmp_ge (tgt := 105) hx hb dX12_odds_82 (by decide) (fun c_131 => ?_) (fun c_131 => ?_)
                · skip
                  have c_131 : wk ≤ i := (nI_leI (a := wk) (b := i) (by omega) (by omega)).mp c_131
                  refine lv_iload hx hb dX12_odds_105 (lv_at hl 4 rfl) ?_
                  refine lv_if_eq (tgt := 121) hx hb dX12_odds_107 (by decide) (fun c_132 => absurd c_132 (by decide)) (fun _ => ?_)
                  refine lv_aload_n hx hb dX12_odds_110 rfl (lv_at hl 0 rfl) ?_
                  refine lv_iload_n hx hb dX12_odds_111 rfl (lv_at hl 2 rfl) ?_
                  refine lv_bipush (v := 50) hx hb dX12_odds_112 (by decide) ?_
                  refine lv_isub hx hb dX12_odds_114 ?_
                  refine qi_as (y := nI j_92) (ej_94) ?_
                  have hPc := hP.sub (ws' := [(zo14irriiiiiirriirrrrlriiii m0 th aS aI im ac sp en wg op aB aT se9_125 dn9_126 aG aO aN aD bv aY rn kd nu tv), (zaI aS cS 901 fS), (zaI aB cB 6 fB9_123), (zaI aT cT 64 fT9_124), (zaL aO cO 36 fO2)]) [0, 1, 2, 3, 4] rfl
                  have hDc := hD.sub (ws' := [(zo14irriiiiiirriirrrrlriiii m0 th aS aI im ac sp en wg op aB aT se9_125 dn9_126 aG aO aN aD bv aY rn kd nu tv), (zaI aS cS 901 fS), (zaI aB cB 6 fB9_123), (zaI aT cT 64 fT9_124), (zaL aO cO 36 fO2)]) [0, 1, 2, 3, 4] (by decide) rfl
                  have hKc := hK.sub (tys' := [(cS, .int), (cB, .int), (cT, .boolean), (cO, .long)]) [0, 1, 2, 3] rfl
                  have hFc := va_free (wc := [(zo14irriiiiiirriirrrrlriiii m0 th aS aI im ac sp en wg op aB aT se9_125 dn9_126 aG aO aN aD bv aY rn kd nu tv), (zaI aS cS 901 fS), (zaI aB cB 6 fB9_123), (zaI aT cT 64 fT9_124), (zaL aO cO 36 fO2)]) hD hS hA [0, 1, 2, 3, 4] rfl
                  refine va_calll (va_runV (As := [.int (nI j_92)]) (rest := []) ⟨hx, hb, hml, hown, hts⟩ (c_seen l dC dI m0 aS aI aB aT aG aO aN aD aY th im ac sp en wg op se9_125 dn9_126 rn kd nu tv bv cS cB cT cO fS fB9_123 fT9_124 fO2 j_92 cz H.size (by omega) (zh)) (cwV 1 hts gX12_odds_X12_seen rfl rfl rfl hd_yX12_seen ⟨Nat.le_of_ble_eq_true rfl, Nat.le_of_ble_eq_true rfl⟩) ⟨fun a U g mk q => by obtain ⟨q0, q1, qP, qK, qD⟩ := q; exact ⟨q0, q1, qP, va_K.moved (u := U) (U := U.calling g mk a) (Vm.Alike.refl U.vm) qK, qD⟩, va_recv hK hP (ci := 14) (q := (RX12, TX12, 23)) (q0 := 0) rfl rfl, fun U hU hW => ⟨rfl, by rw [hU], by rw [hU]; exact hPc, va_K.moved hW.alike hKc, hDc.weaken (fun _ _ _ _ => trivial)⟩⟩ rfl rfl hl.1 rfl (lv_room (Nat.le_of_ble_eq_true rfl)) dX12_odds_115 ⟨Nat.le_of_ble_eq_true rfl, Nat.le_of_ble_eq_true rfl⟩) hS (fun q _ h => hFc q h) hFc (fun r_133 u tC H1 locs htC hvm hw_134 hB hz1 hk1 hS => ?_)
                  obtain ⟨fB9_135, fT9_136, se9_137, dn9_138⟩ := u
                  try dsimp only at hw_134 hB
                  obtain ⟨hP1, hK1, hD1⟩ := hB
                  rw [htC] at hP1
                  have hK1 := va_K.moved hvm.symm hK1
                  obtain ⟨hP, hD⟩ := va_join (wr := [(zaL aN cN 36 fN2), (zaI aD cD 36 fD9_127)]) (w1 := [(zo14irriiiiiirriirrrrlriiii m0 th aS aI im ac sp en wg op aB aT se9_137 dn9_138 aG aO aN aD bv aY rn kd nu tv), (zaI aS cS 901 fS), (zaI aB cB 6 fB9_135), (zaI aT cT 64 fT9_136), (zaL aO cO 36 fO2)]) hP hD [0, 1, 2, 3, 4] [5, 6] rfl rfl (by decide) (by decide) hk1 hFc hP1 hD1
                  have hK := (hK.sub (tys' := [(cN, .long), (cD, .int)]) [4, 5] rfl).app hK1
                  generalize H1 = H at hP hS ⊢
                  have hP : va_P (dC, dI) vwCl [(zaL aN cN 36 fN2), (zaI aD cD 36 fD9_127), (zo14irriiiiiirriirrrrlriiii m0 th aS aI im ac sp en wg op aB aT se9_137 dn9_138 aG aO aN aD bv aY rn kd nu tv), (zaI aS cS 901 fS), (zaI aB cB 6 fB9_135), (zaI aT cT 64 fT9_136), (zaL aO cO 36 fO2)] H := hP
                  have hD : va_D A [(zaL aN cN 36 fN2), (zaI aD cD 36 fD9_127), (zo14irriiiiiirriirrrrlriiii m0 th aS aI im ac sp en wg op aB aT se9_137 dn9_138 aG aO aN aD bv aY rn kd nu tv), (zaI aS cS 901 fS), (zaI aB cB 6 fB9_135), (zaI aT cT 64 fT9_136), (zaL aO cO 36 fO2)] := hD
                  have hK : va_K (dC, dI) vwCl [(cN, .long), (cD, .int), (cS, .int), (cB, .int), (cT, .boolean), (cO, .long)] s := hK
                  refine lv_goto (tgt := 140) hx hb dX12_odds_118 (by decide) ?_
                  refine lv_lstore (lv' := [(5, .long r_133), (0, .ref m0), (1, .int (nI j_102)), (2, .int (nI j_110)), (3, .int (nI j_118)), (4, .int 1)]) hx hb dX12_odds_140 hl (by decide) rfl (fun ls hl => ?_)
                  refine lv_lload hx hb dX12_odds_142 (lv_at hl 0 rfl) ?_
                  refine lv_aload_n hx hb dX12_odds_144 rfl (lv_at hl 1 rfl) ?_
                  refine va_get (D := (dC, dI)) (ci := 14) (v := .ref aS) (C := RX12) (T := TX12) (N := 23) hx hb hts kc_mOdds_0 hown hK hP 2 rfl rfl 1 (by decide) (hts (.fieldLink RX12 9 "MistHeapsModel" "s" "[I") kc_mOdds_1) (fun _ h9 => h9) rfl dX12_odds_145 ?_
                  refine lv_iconst (v := 2) hx hb dX12_odds_148 (by decide) ?_
                  refine va_iald hx hb hK hP 3 2 rfl rfl (vp_in_nI (n := 2) (N := 901) (by omega) (by omega)) dX12_odds_149 ?_
                  refine qi_as (y := nI wk) ((show fS (2 : Int32).toNatClampNeg = fS 2 from rfl).trans (zw)) ?_
                  refine vp_callSl (va_runS (As := [.int (nI wk)]) (rest := [.long r_133]) ⟨hx, hb, hml, hown, hts⟩ (c_twenties l dC dI wk (by omega)) (va_cwS 1 hts gX12_odds_X12_twenties rfl rfl rfl hd_yX12_twenties.2 ⟨Nat.le_of_ble_eq_true rfl, Nat.le_of_ble_eq_true rfl⟩) ⟨fun a U g mk q => ⟨q.1, trivial⟩, fun U hU hW => ⟨rfl, trivial⟩⟩ rfl rfl hl.1 rfl (lv_room (Nat.le_of_ble_eq_true rfl)) dX12_odds_150 ⟨Nat.le_of_ble_eq_true rfl, Nat.le_of_ble_eq_true rfl⟩).run (fun r_139 hw_140 => ?_)
                  refine lv_iload_n hx hb dX12_odds_153 rfl (lv_at hl 4 rfl) ?_
                  refine vp_callSl (va_runS (As := [.long r_133, .long r_139, .int (nI j_118)]) (rest := []) ⟨hx, hb, hml, hown, hts⟩ (c_lowest l dC dI r_133 r_139 (nI j_118) hw_140) (va_cwS 3 hts gX12_odds_X12_lowest rfl rfl rfl hd_yX12_lowest.2 ⟨Nat.le_of_ble_eq_true rfl, Nat.le_of_ble_eq_true rfl⟩) ⟨fun a U g mk q => ⟨q.1, trivial⟩, fun U hU hW => ⟨rfl, trivial⟩⟩ rfl rfl hl.1 rfl (lv_room (Nat.le_of_ble_eq_true rfl)) dX12_odds_154 ⟨Nat.le_of_ble_eq_true rfl, Nat.le_of_ble_eq_true rfl⟩).run (fun r_141 hw_142 => ?_)
                  rw [hQ]
                  have hP9 := hP.sub (ws' := [(zo14irriiiiiirriirrrrlriiii m0 th aS aI im ac sp en wg op aB aT se9_137 dn9_138 aG aO aN aD bv aY rn kd nu tv), (zaI aS cS 901 fS), (zaI aB cB 6 fB9_135), (zaI aT cT 64 fT9_136), (zaL aO cO 36 fO2), (zaL aN cN 36 fN2), (zaI aD cD 36 fD9_127)]) [2, 3, 4, 5, 6, 0, 1] rfl
                  have hD9 := hD.sub (ws' := [(zo14irriiiiiirriirrrrlriiii m0 th aS aI im ac sp en wg op aB aT se9_137 dn9_138 aG aO aN aD bv aY rn kd nu tv), (zaI aS cS 901 fS), (zaI aB cB 6 fB9_135), (zaI aT cT 64 fT9_136), (zaL aO cO 36 fO2), (zaL aN cN 36 fN2), (zaI aD cD 36 fD9_127)]) [2, 3, 4, 5, 6, 0, 1] (by decide) rfl
                  have hK9 := hK.sub (tys' := [(cS, .int), (cB, .int), (cT, .boolean), (cO, .long), (cN, .long), (cD, .int)]) [2, 3, 4, 5, 0, 1] rfl
                  exact W.lret (v := r_141) hx hb hr (fun tQ htQ hWQ => ⟨⟨r_141, (fB9_135, fT9_136, se9_137, dn9_138, fD9_127, fO2, fN2), rfl, trivial, by rw [htQ]; exact hP9, va_K.moved hWQ.alike hK9, hD9⟩, hS.F htQ⟩) hS.2.2 dX12_odds_157
                · skip
                  have c_131 : ¬ wk ≤ i := fun q => c_131 ((nI_leI (a := wk) (b := i) (by omega) (by omega)).mpr q)
                  refine lv_aload_n hx hb dX12_odds_85 rfl (lv_at hl 0 rfl) ?_
                  refine lv_aload_n hx hb dX12_odds_86 rfl (lv_at hl 0 rfl) ?_
                  refine va_get (D := (dC, dI)) (ci := 14) (v := .ref aS) (C := RX12) (T := TX12) (N := 23) hx hb hts kc_mOdds_0 hown hK hP 0 rfl rfl 1 (by decide) (hts (.fieldLink RX12 9 "MistHeapsModel" "s" "[I") kc_mOdds_1) (fun _ h9 => h9) rfl dX12_odds_87 ?_
                  refine lv_bipush (v := 73) hx hb dX12_odds_90 (by decide) ?_
                  refine lv_iload hx hb dX12_odds_92 (lv_at hl 5 rfl) ?_
                  refine lv_iadd hx hb dX12_odds_94 ?_
                  refine qi_as (y := nI (73 + i)) (nI_add 73 i) ?_
                  refine va_iald hx hb hK hP 1 0 rfl rfl (vp_in_nI (n := 73 + i) (N := 901) (by omega) (by omega)) dX12_odds_95 ?_
                  refine qi_as (y := fS (73 + i)) (by rw [nI_clamp (by omega)]) ?_
                  have hPc := hP.sub (ws' := [(zo14irriiiiiirriirrrrlriiii m0 th aS aI im ac sp en wg op aB aT se9_125 dn9_126 aG aO aN aD bv aY rn kd nu tv), (zaI aS cS 901 fS), (zaL aO cO 36 fO2), (zaL aN cN 36 fN2), (zaI aD cD 36 fD9_127)]) [0, 1, 4, 5, 6] rfl
                  have hDc := hD.sub (ws' := [(zo14irriiiiiirriirrrrlriiii m0 th aS aI im ac sp en wg op aB aT se9_125 dn9_126 aG aO aN aD bv aY rn kd nu tv), (zaI aS cS 901 fS), (zaL aO cO 36 fO2), (zaL aN cN 36 fN2), (zaI aD cD 36 fD9_127)]) [0, 1, 4, 5, 6] (by decide) rfl
                  have hKc := hK.sub (tys' := [(cS, .int), (cO, .long), (cN, .long), (cD, .int)]) [0, 3, 4, 5] rfl
                  have hFc := va_free (wc := [(zo14irriiiiiirriirrrrlriiii m0 th aS aI im ac sp en wg op aB aT se9_125 dn9_126 aG aO aN aD bv aY rn kd nu tv), (zaI aS cS 901 fS), (zaL aO cO 36 fO2), (zaL aN cN 36 fN2), (zaI aD cD 36 fD9_127)]) hD hS hA [0, 1, 4, 5, 6] rfl
                  refine va_callv (va_runV (As := [.int (fS (73 + i))]) (rest := []) ⟨hx, hb, hml, hown, hts⟩ (c_goesOn l dC dI m0 aS aI aB aT aG aO aN aD aY th im ac sp en wg op se9_125 dn9_126 rn kd nu tv bv cS cO cN cD fS fO2 fN2 fD9_127 (fS (73 + i)) H.size) (cwV 1 hts gX12_odds_X12_goesOn rfl rfl rfl hd_yX12_goesOn ⟨Nat.le_of_ble_eq_true rfl, Nat.le_of_ble_eq_true rfl⟩) ⟨fun a U g mk q => by obtain ⟨q0, q1, qP, qK, qD⟩ := q; exact ⟨q0, q1, qP, va_K.moved (u := U) (U := U.calling g mk a) (Vm.Alike.refl U.vm) qK, qD⟩, va_recv hK hP (ci := 14) (q := (RX12, TX12, 23)) (q0 := 0) rfl rfl, fun U hU hW => ⟨rfl, by rw [hU], by rw [hU]; exact hPc, va_K.moved hW.alike hKc, hDc.weaken (fun _ _ _ _ => trivial)⟩⟩ rfl rfl hl.1 rfl (lv_room (Nat.le_of_ble_eq_true rfl)) dX12_odds_96 ⟨Nat.le_of_ble_eq_true rfl, Nat.le_of_ble_eq_true rfl⟩) hS (fun q _ h => hFc q h) hFc (fun u tC H1 locs htC hvm hw_144 hB hz1 hk1 hS => ?_)
                  obtain ⟨fO9_145, fN9_146⟩ := u
                  try dsimp only at hw_144 hB
                  obtain ⟨hP1, hK1, hD1⟩ := hB
                  rw [htC] at hP1
                  have hK1 := va_K.moved hvm.symm hK1
                  obtain ⟨hP, hD⟩ := va_join (wr := [(zaI aB cB 6 fB9_123), (zaI aT cT 64 fT9_124)]) (w1 := [(zo14irriiiiiirriirrrrlriiii m0 th aS aI im ac sp en wg op aB aT se9_125 dn9_126 aG aO aN aD bv aY rn kd nu tv), (zaI aS cS 901 fS), (zaL aO cO 36 fO9_145), (zaL aN cN 36 fN9_146), (zaI aD cD 36 fD9_127)]) hP hD [0, 1, 4, 5, 6] [2, 3] rfl rfl (by decide) (by decide) hk1 hFc hP1 hD1
                  have hK := (hK.sub (tys' := [(cB, .int), (cT, .boolean)]) [1, 2] rfl).app hK1
                  generalize H1 = H at hP hS ⊢
                  have hP : va_P (dC, dI) vwCl [(zaI aB cB 6 fB9_123), (zaI aT cT 64 fT9_124), (zo14irriiiiiirriirrrrlriiii m0 th aS aI im ac sp en wg op aB aT se9_125 dn9_126 aG aO aN aD bv aY rn kd nu tv), (zaI aS cS 901 fS), (zaL aO cO 36 fO9_145), (zaL aN cN 36 fN9_146), (zaI aD cD 36 fD9_127)] H := hP
                  have hD : va_D A [(zaI aB cB 6 fB9_123), (zaI aT cT 64 fT9_124), (zo14irriiiiiirriirrrrlriiii m0 th aS aI im ac sp en wg op aB aT se9_125 dn9_126 aG aO aN aD bv aY rn kd nu tv), (zaI aS cS 901 fS), (zaL aO cO 36 fO9_145), (zaL aN cN 36 fN9_146), (zaI aD cD 36 fD9_127)] := hD
                  have hK : va_K (dC, dI) vwCl [(cB, .int), (cT, .boolean), (cS, .int), (cO, .long), (cN, .long), (cD, .int)] s := hK
                  refine lv_iinc (v := nI (i + 1)) (lv' := [(5, .int (nI (i + 1))), (0, .ref m0), (1, .int (nI j_102)), (2, .int (nI j_110)), (3, .int (nI j_118)), (4, .int 1)]) hx hb dX12_odds_99 hl (k := 5) rfl (nI_add i 1) (by decide) rfl (fun ls hl => ?_)
                  refine lv_goto (tgt := 74) hx hb dX12_odds_102 (by decide) ?_
                  exact ih74 (i + 1) _ _ (by omega) (by omega) _ _ (hK.sub [2, 0, 1, 3, 4, 5] rfl) (hP.sub [2, 3, 0, 1, 4, 5, 6] rfl) (hD.sub [2, 3, 0, 1, 4, 5, 6] (by decide) rfl) hS ls (lv_sub hl [1, 2, 3, 4, 5, 0] rfl)
            exact L74 _ (0) _ _ (Nat.lt_succ_self _) (by omega) _ _ (hK.sub [1, 2, 3, 5, 0, 4] rfl) (hP.sub [5, 1, 2, 3, 6, 0, 4] rfl) (hD.sub [5, 1, 2, 3, 6, 0, 4] (by decide) rfl) hS ls (lv_sub hl [2, 3, 4, 5, 1, 0] rfl)
          · skip
            refine lv_if_ne (tgt := 62) hx hb dX12_odds_55 (by decide) (fun c_147 => absurd c_147 (by decide)) (fun _ => ?_)
            refine lv_ldc2 (v := (-9223372036854775808)) hx hb hown (hts (.constantLong RX12 181 (-9223372036854775808)) kc_mOdds_3) dX12_odds_58 ?_
            rw [hQ]
            have hP9 := hP.sub (ws' := [(zo14irriiiiiirriirrrrlriiii m0 th aS aI im ac sp en wg op aB aT se dn aG aO aN aD bv aY rn kd nu tv), (zaI aS cS 901 fS), (zaI aB cB 6 fB), (zaI aT cT 64 fT), (zaL aO cO 36 fO), (zaL aN cN 36 fN), (zaI aD cD 36 fD)]) [0, 1, 2, 3, 4, 5, 6] rfl
            have hD9 := hD.sub (ws' := [(zo14irriiiiiirriirrrrlriiii m0 th aS aI im ac sp en wg op aB aT se dn aG aO aN aD bv aY rn kd nu tv), (zaI aS cS 901 fS), (zaI aB cB 6 fB), (zaI aT cT 64 fT), (zaL aO cO 36 fO), (zaL aN cN 36 fN), (zaI aD cD 36 fD)]) [0, 1, 2, 3, 4, 5, 6] (by decide) rfl
            have hK9 := hK.sub (tys' := [(cS, .int), (cB, .int), (cT, .boolean), (cO, .long), (cN, .long), (cD, .int)]) [0, 1, 2, 3, 4, 5] rfl
            exact W.lret (v := (-9223372036854775808)) hx hb hr (fun tQ htQ hWQ => ⟨⟨(-9223372036854775808), (fB, fT, se, dn, fD, fO, fN), rfl, trivial, by rw [htQ]; exact hP9, va_K.moved hWQ.alike hK9, hD9⟩, hS.F htQ⟩) hS.2.2 dX12_odds_61
        · skip
          refine lv_if_ne (tgt := 49) hx hb dX12_odds_35 (by decide) (fun c_148 => absurd c_148 (by decide)) (fun _ => ?_)
          refine lv_iload_n hx hb dX12_odds_38 rfl (lv_at hl 3 rfl) ?_
          refine lv_bipush (v := 40) hx hb dX12_odds_39 (by decide) ?_
          refine lv_icmp_eq (tgt := 49) hx hb dX12_odds_41 (by decide) (fun c_149 => ?_) (fun c_149 => ?_)
          · skip
            refine lv_iload_n hx hb dX12_odds_49 rfl (lv_at hl 4 rfl) ?_
            refine lv_iconst (v := 0) hx hb dX12_odds_50 (by decide) ?_
            refine lv_iconst (v := 1) hx hb dX12_odds_51 (by decide) ?_
            refine vp_callSi (va_runS (As := [.int z, .int 0, .int 1]) (rest := []) ⟨hx, hb, hml, hown, hts⟩ (c_in l dC dI z 0 1) (va_cwS 3 hts gX12_odds_X12_in rfl rfl rfl hd_yX12_in.2 ⟨Nat.le_of_ble_eq_true rfl, Nat.le_of_ble_eq_true rfl⟩) ⟨fun a U g mk q => ⟨q.1, trivial⟩, fun U hU hW => ⟨rfl, trivial⟩⟩ rfl rfl hl.1 rfl (lv_room (Nat.le_of_ble_eq_true rfl)) dX12_odds_52 ⟨Nat.le_of_ble_eq_true rfl, Nat.le_of_ble_eq_true rfl⟩).run (fun r_150 hw_151 => ?_)
            rcases hw_151 with ⟨rfl, h_152, h_153⟩ | ⟨rfl, h_154⟩
            · skip
              obtain ⟨j_155, hj_156, rfl⟩ := nI_of2 (n := 1) (M := 1) rfl h_152 (Int32.not_lt.mp h_153)
              refine lv_if_ne (tgt := 62) hx hb dX12_odds_55 (by decide) (fun _ => ?_) (fun c_157 => absurd c_157 (by decide))
              refine lv_aload_n hx hb dX12_odds_62 rfl (lv_at hl 1 rfl) ?_
              have hPc := hP.sub (ws' := [(zo14irriiiiiirriirrrrlriiii m0 th aS aI im ac sp en wg op aB aT se dn aG aO aN aD bv aY rn kd nu tv), (zaI aS cS 901 fS), (zaI aB cB 6 fB), (zaI aT cT 64 fT), (zaI aD cD 36 fD)]) [0, 1, 2, 3, 6] rfl
              have hDc := hD.sub (ws' := [(zo14irriiiiiirriirrrrlriiii m0 th aS aI im ac sp en wg op aB aT se dn aG aO aN aD bv aY rn kd nu tv), (zaI aS cS 901 fS), (zaI aB cB 6 fB), (zaI aT cT 64 fT), (zaI aD cD 36 fD)]) [0, 1, 2, 3, 6] (by decide) rfl
              have hKc := hK.sub (tys' := [(cS, .int), (cB, .int), (cT, .boolean), (cD, .int)]) [0, 1, 2, 5] rfl
              have hFc := va_free (wc := [(zo14irriiiiiirriirrrrlriiii m0 th aS aI im ac sp en wg op aB aT se dn aG aO aN aD bv aY rn kd nu tv), (zaI aS cS 901 fS), (zaI aB cB 6 fB), (zaI aT cT 64 fT), (zaI aD cD 36 fD)]) hD hS hA [0, 1, 2, 3, 6] rfl
              refine va_callv (va_runV (As := []) (rest := []) ⟨hx, hb, hml, hown, hts⟩ (c_lookDrifts l dC dI m0 aS aI aB aT aG aO aN aD aY th im ac sp en wg op se dn rn kd nu tv bv cS cB cT cD fS fB fT fD cz H.size (zh)) (cwV 0 hts gX12_odds_X12_looksForDrifts rfl rfl rfl hd_yX12_looksForDrifts ⟨Nat.le_of_ble_eq_true rfl, Nat.le_of_ble_eq_true rfl⟩) ⟨fun a U g mk q => by obtain ⟨q0, q1, qP, qK, qD⟩ := q; exact ⟨q0, q1, qP, va_K.moved (u := U) (U := U.calling g mk a) (Vm.Alike.refl U.vm) qK, qD⟩, va_recv hK hP (ci := 14) (q := (RX12, TX12, 23)) (q0 := 0) rfl rfl, fun U hU hW => ⟨rfl, by rw [hU], by rw [hU]; exact hPc, va_K.moved hW.alike hKc, hDc.weaken (fun _ _ _ _ => trivial)⟩⟩ rfl rfl hl.1 rfl (lv_room (Nat.le_of_ble_eq_true rfl)) dX12_odds_63 ⟨Nat.le_of_ble_eq_true rfl, Nat.le_of_ble_eq_true rfl⟩) hS (fun q _ h => hFc q h) hFc (fun u tC H1 locs htC hvm hw_159 hB hz1 hk1 hS => ?_)
              obtain ⟨fB9_160, fT9_161, se9_162, dn9_163, fD9_164⟩ := u
              try dsimp only at hw_159 hB
              obtain ⟨hP1, hK1, hD1⟩ := hB
              rw [htC] at hP1
              have hK1 := va_K.moved hvm.symm hK1
              obtain ⟨hP, hD⟩ := va_join (wr := [(zaL aO cO 36 fO), (zaL aN cN 36 fN)]) (w1 := [(zo14irriiiiiirriirrrrlriiii m0 th aS aI im ac sp en wg op aB aT se9_162 dn9_163 aG aO aN aD bv aY rn kd nu tv), (zaI aS cS 901 fS), (zaI aB cB 6 fB9_160), (zaI aT cT 64 fT9_161), (zaI aD cD 36 fD9_164)]) hP hD [0, 1, 2, 3, 6] [4, 5] rfl rfl (by decide) (by decide) hk1 hFc hP1 hD1
              have hK := (hK.sub (tys' := [(cO, .long), (cN, .long)]) [3, 4] rfl).app hK1
              generalize H1 = H at hP hS ⊢
              have hP : va_P (dC, dI) vwCl [(zaL aO cO 36 fO), (zaL aN cN 36 fN), (zo14irriiiiiirriirrrrlriiii m0 th aS aI im ac sp en wg op aB aT se9_162 dn9_163 aG aO aN aD bv aY rn kd nu tv), (zaI aS cS 901 fS), (zaI aB cB 6 fB9_160), (zaI aT cT 64 fT9_161), (zaI aD cD 36 fD9_164)] H := hP
              have hD : va_D A [(zaL aO cO 36 fO), (zaL aN cN 36 fN), (zo14irriiiiiirriirrrrlriiii m0 th aS aI im ac sp en wg op aB aT se9_162 dn9_163 aG aO aN aD bv aY rn kd nu tv), (zaI aS cS 901 fS), (zaI aB cB 6 fB9_160), (zaI aT cT 64 fT9_161), (zaI aD cD 36 fD9_164)] := hD
              have hK : va_K (dC, dI) vwCl [(cO, .long), (cN, .long), (cS, .int), (cB, .int), (cT, .boolean), (cD, .int)] s := hK
              refine lv_aload_n hx hb dX12_odds_66 rfl (lv_at hl 1 rfl) ?_
              refine lv_iload_n hx hb dX12_odds_67 rfl (lv_at hl 2 rfl) ?_
              have hPc := hP.sub (ws' := [(zo14irriiiiiirriirrrrlriiii m0 th aS aI im ac sp en wg op aB aT se9_162 dn9_163 aG aO aN aD bv aY rn kd nu tv), (zaL aO cO 36 fO)]) [2, 0] rfl
              have hDc := hD.sub (ws' := [(zo14irriiiiiirriirrrrlriiii m0 th aS aI im ac sp en wg op aB aT se9_162 dn9_163 aG aO aN aD bv aY rn kd nu tv), (zaL aO cO 36 fO)]) [2, 0] (by decide) rfl
              have hKc := hK.sub (tys' := [(cO, .long)]) [0] rfl
              have hFc := va_free (wc := [(zo14irriiiiiirriirrrrlriiii m0 th aS aI im ac sp en wg op aB aT se9_162 dn9_163 aG aO aN aD bv aY rn kd nu tv), (zaL aO cO 36 fO)]) hD hS hA [2, 0] rfl
              refine va_callv (va_runV (As := [.int (nI j_102)]) (rest := []) ⟨hx, hb, hml, hown, hts⟩ (c_begins l dC dI m0 aS aI aB aT aG aO aN aD aY th im ac sp en wg op se9_162 dn9_163 rn kd nu tv bv cO fO (nI j_102) H.size) (cwV 1 hts gX12_odds_X12_begins rfl rfl rfl hd_yX12_begins ⟨Nat.le_of_ble_eq_true rfl, Nat.le_of_ble_eq_true rfl⟩) ⟨fun a U g mk q => by obtain ⟨q0, q1, qP, qK, qD⟩ := q; exact ⟨q0, q1, qP, va_K.moved (u := U) (U := U.calling g mk a) (Vm.Alike.refl U.vm) qK, qD⟩, va_recv hK hP (ci := 14) (q := (RX12, TX12, 23)) (q0 := 2) rfl rfl, fun U hU hW => ⟨rfl, by rw [hU], by rw [hU]; exact hPc, va_K.moved hW.alike hKc, hDc.weaken (fun _ _ _ _ => trivial)⟩⟩ rfl rfl hl.1 rfl (lv_room (Nat.le_of_ble_eq_true rfl)) dX12_odds_68 ⟨Nat.le_of_ble_eq_true rfl, Nat.le_of_ble_eq_true rfl⟩) hS (fun q _ h => hFc q h) hFc (fun u tC H1 locs htC hvm hw_166 hB hz1 hk1 hS => ?_)
              obtain ⟨fO9_167, rfl⟩ : ∃ z, z = u := ⟨_, rfl⟩
              try dsimp only at hw_166 hB
              obtain ⟨hP1, hK1, hD1⟩ := hB
              rw [htC] at hP1
              have hK1 := va_K.moved hvm.symm hK1
              obtain ⟨hP, hD⟩ := va_join (wr := [(zaL aN cN 36 fN), (zaI aS cS 901 fS), (zaI aB cB 6 fB9_160), (zaI aT cT 64 fT9_161), (zaI aD cD 36 fD9_164)]) (w1 := [(zo14irriiiiiirriirrrrlriiii m0 th aS aI im ac sp en wg op aB aT se9_162 dn9_163 aG aO aN aD bv aY rn kd nu tv), (zaL aO cO 36 fO9_167)]) hP hD [2, 0] [1, 3, 4, 5, 6] rfl rfl (by decide) (by decide) hk1 hFc hP1 hD1
              have hK := (hK.sub (tys' := [(cN, .long), (cS, .int), (cB, .int), (cT, .boolean), (cD, .int)]) [1, 2, 3, 4, 5] rfl).app hK1
              generalize H1 = H at hP hS ⊢
              have hP : va_P (dC, dI) vwCl [(zaL aN cN 36 fN), (zaI aS cS 901 fS), (zaI aB cB 6 fB9_160), (zaI aT cT 64 fT9_161), (zaI aD cD 36 fD9_164), (zo14irriiiiiirriirrrrlriiii m0 th aS aI im ac sp en wg op aB aT se9_162 dn9_163 aG aO aN aD bv aY rn kd nu tv), (zaL aO cO 36 fO9_167)] H := hP
              have hD : va_D A [(zaL aN cN 36 fN), (zaI aS cS 901 fS), (zaI aB cB 6 fB9_160), (zaI aT cT 64 fT9_161), (zaI aD cD 36 fD9_164), (zo14irriiiiiirriirrrrlriiii m0 th aS aI im ac sp en wg op aB aT se9_162 dn9_163 aG aO aN aD bv aY rn kd nu tv), (zaL aO cO 36 fO9_167)] := hD
              have hK : va_K (dC, dI) vwCl [(cN, .long), (cS, .int), (cB, .int), (cT, .boolean), (cD, .int), (cO, .long)] s := hK
              refine lv_iconst (v := 0) hx hb dX12_odds_71 (by decide) ?_
              refine lv_istore (lv' := [(5, .int 0), (4, .int 1), (0, .ref m0), (1, .int (nI j_102)), (2, .int y), (3, .int (nI j_155))]) hx hb dX12_odds_72 hl (by decide) rfl (fun ls hl => ?_)
              have L74 : ∀ (nF : Nat) (i : Nat) (fO2 : Nat → Int64) (fN2 : Nat → Int64), wk - i < nF → (i ≤ wk) → ∀ (H : Heap) (locs : List Loc), va_K (dC, dI) vwCl [(cS, .int), (cB, .int), (cT, .boolean), (cO, .long), (cN, .long), (cD, .int)] s → va_P (dC, dI) vwCl [(zo14irriiiiiirriirrrrlriiii m0 th aS aI im ac sp en wg op aB aT se9_162 dn9_163 aG aO aN aD bv aY rn kd nu tv), (zaI aS cS 901 fS), (zaI aB cB 6 fB9_160), (zaI aT cT 64 fT9_161), (zaL aO cO 36 fO2), (zaL aN cN 36 fN2), (zaI aD cD 36 fD9_164)] H → va_D A [(zo14irriiiiiirriirrrrlriiii m0 th aS aI im ac sp en wg op aB aT se9_162 dn9_163 aG aO aN aD bv aY rn kd nu tv), (zaI aS cS 901 fS), (zaI aB cB 6 fB9_160), (zaI aT cT 64 fT9_161), (zaL aO cO 36 fO2), (zaL aN cN 36 fN2), (zaI aD cD 36 fD9_164)] → va_S A s.heap H locs → ∀ (ls : Array Slot), lv_has ls 7 [(0, .ref m0), (1, .int (nI j_102)), (2, .int y), (3, .int (nI j_155)), (4, .int 1), (5, .int (nI i))] → W p l e ({ frames := 4, cells := 0, slots := 0, locals := 101 } : Room) s m args below meth c H locs 0 0 Q (F0 m 74 ls []) := by
                intro nF
                induction nF with
                | zero => intro i fO2 fN2 hm; exact absurd hm (Nat.not_lt_zero _)
                | succ nF ih74 =>
                  intro i fO2 fN2 hm hii H locs hK hP hD hS ls hl
                  refine lv_iload hx hb dX12_odds_74 (lv_at hl 5 rfl) ?_
                  refine lv_aload_n hx hb dX12_odds_76 rfl (lv_at hl 0 rfl) ?_
                  refine va_get (D := (dC, dI)) (ci := 14) (v := .ref aS) (C := RX12) (T := TX12) (N := 23) hx hb hts kc_mOdds_0 hown hK hP 0 rfl rfl 1 (by decide) (hts (.fieldLink RX12 9 "MistHeapsModel" "s" "[I") kc_mOdds_1) (fun _ h9 => h9) rfl dX12_odds_77 ?_
                  refine lv_iconst (v := 2) hx hb dX12_odds_80 (by decide) ?_
                  refine va_iald hx hb hK hP 1 0 rfl rfl (vp_in_nI (n := 2) (N := 901) (by omega) (by omega)) dX12_odds_81 ?_
                  refine qi_as (y := nI wk) ((show fS (2 : Int32).toNatClampNeg = fS 2 from rfl).trans (zw)) ?_
                  refine lv_icmp_ge (tgt := 105) hx hb dX12_odds_82 (by decide) (fun c_168 => ?_) (fun c_168 => ?_)
                  · skip
                    have c_168 : wk ≤ i := (nI_leI (a := wk) (b := i) (by omega) (by omega)).mp c_168
                    refine lv_iload hx hb dX12_odds_105 (lv_at hl 4 rfl) ?_
                    refine lv_if_eq (tgt := 121) hx hb dX12_odds_107 (by decide) (fun c_169 => absurd c_169 (by decide)) (fun _ => ?_)
                    refine lv_aload_n hx hb dX12_odds_110 rfl (lv_at hl 0 rfl) ?_
                    refine lv_iload_n hx hb dX12_odds_111 rfl (lv_at hl 2 rfl) ?_
                    refine lv_bipush (v := 50) hx hb dX12_odds_112 (by decide) ?_
                    refine lv_isub hx hb dX12_odds_114 ?_
                    refine qi_as (y := nI j_92) (ej_94) ?_
                    have hPc := hP.sub (ws' := [(zo14irriiiiiirriirrrrlriiii m0 th aS aI im ac sp en wg op aB aT se9_162 dn9_163 aG aO aN aD bv aY rn kd nu tv), (zaI aS cS 901 fS), (zaI aB cB 6 fB9_160), (zaI aT cT 64 fT9_161), (zaL aO cO 36 fO2)]) [0, 1, 2, 3, 4] rfl
                    have hDc := hD.sub (ws' := [(zo14irriiiiiirriirrrrlriiii m0 th aS aI im ac sp en wg op aB aT se9_162 dn9_163 aG aO aN aD bv aY rn kd nu tv), (zaI aS cS 901 fS), (zaI aB cB 6 fB9_160), (zaI aT cT 64 fT9_161), (zaL aO cO 36 fO2)]) [0, 1, 2, 3, 4] (by decide) rfl
                    have hKc := hK.sub (tys' := [(cS, .int), (cB, .int), (cT, .boolean), (cO, .long)]) [0, 1, 2, 3] rfl
                    have hFc := va_free (wc := [(zo14irriiiiiirriirrrrlriiii m0 th aS aI im ac sp en wg op aB aT se9_162 dn9_163 aG aO aN aD bv aY rn kd nu tv), (zaI aS cS 901 fS), (zaI aB cB 6 fB9_160), (zaI aT cT 64 fT9_161), (zaL aO cO 36 fO2)]) hD hS hA [0, 1, 2, 3, 4] rfl
                    refine va_calll (va_runV (As := [.int (nI j_92)]) (rest := []) ⟨hx, hb, hml, hown, hts⟩ (c_seen l dC dI m0 aS aI aB aT aG aO aN aD aY th im ac sp en wg op se9_162 dn9_163 rn kd nu tv bv cS cB cT cO fS fB9_160 fT9_161 fO2 j_92 cz H.size (by omega) (zh)) (cwV 1 hts gX12_odds_X12_seen rfl rfl rfl hd_yX12_seen ⟨Nat.le_of_ble_eq_true rfl, Nat.le_of_ble_eq_true rfl⟩) ⟨fun a U g mk q => by obtain ⟨q0, q1, qP, qK, qD⟩ := q; exact ⟨q0, q1, qP, va_K.moved (u := U) (U := U.calling g mk a) (Vm.Alike.refl U.vm) qK, qD⟩, va_recv hK hP (ci := 14) (q := (RX12, TX12, 23)) (q0 := 0) rfl rfl, fun U hU hW => ⟨rfl, by rw [hU], by rw [hU]; exact hPc, va_K.moved hW.alike hKc, hDc.weaken (fun _ _ _ _ => trivial)⟩⟩ rfl rfl hl.1 rfl (lv_room (Nat.le_of_ble_eq_true rfl)) dX12_odds_115 ⟨Nat.le_of_ble_eq_true rfl, Nat.le_of_ble_eq_true rfl⟩) hS (fun q _ h => hFc q h) hFc (fun r_170 u tC H1 locs htC hvm hw_171 hB hz1 hk1 hS => ?_)
                    obtain ⟨fB9_172, fT9_173, se9_174, dn9_175⟩ := u
                    try dsimp only at hw_171 hB
                    obtain ⟨hP1, hK1, hD1⟩ := hB
                    rw [htC] at hP1
                    have hK1 := va_K.moved hvm.symm hK1
                    obtain ⟨hP, hD⟩ := va_join (wr := [(zaL aN cN 36 fN2), (zaI aD cD 36 fD9_164)]) (w1 := [(zo14irriiiiiirriirrrrlriiii m0 th aS aI im ac sp en wg op aB aT se9_174 dn9_175 aG aO aN aD bv aY rn kd nu tv), (zaI aS cS 901 fS), (zaI aB cB 6 fB9_172), (zaI aT cT 64 fT9_173), (zaL aO cO 36 fO2)]) hP hD [0, 1, 2, 3, 4] [5, 6] rfl rfl (by decide) (by decide) hk1 hFc hP1 hD1
                    have hK := (hK.sub (tys' := [(cN, .long), (cD, .int)]) [4, 5] rfl).app hK1
                    generalize H1 = H at hP hS ⊢
                    have hP : va_P (dC, dI) vwCl [(zaL aN cN 36 fN2), (zaI aD cD 36 fD9_164), (zo14irriiiiiirriirrrrlriiii m0 th aS aI im ac sp en wg op aB aT se9_174 dn9_175 aG aO aN aD bv aY rn kd nu tv), (zaI aS cS 901 fS), (zaI aB cB 6 fB9_172), (zaI aT cT 64 fT9_173), (zaL aO cO 36 fO2)] H := hP
                    have hD : va_D A [(zaL aN cN 36 fN2), (zaI aD cD 36 fD9_164), (zo14irriiiiiirriirrrrlriiii m0 th aS aI im ac sp en wg op aB aT se9_174 dn9_175 aG aO aN aD bv aY rn kd nu tv), (zaI aS cS 901 fS), (zaI aB cB 6 fB9_172), (zaI aT cT 64 fT9_173), (zaL aO cO 36 fO2)] := hD
                    have hK : va_K (dC, dI) vwCl [(cN, .long), (cD, .int), (cS, .int), (cB, .int), (cT, .boolean), (cO, .long)] s := hK
                    refine lv_goto (tgt := 140) hx hb dX12_odds_118 (by decide) ?_
                    refine lv_lstore (lv' := [(5, .long r_170), (0, .ref m0), (1, .int (nI j_102)), (2, .int y), (3, .int (nI j_155)), (4, .int 1)]) hx hb dX12_odds_140 hl (by decide) rfl (fun ls hl => ?_)
                    refine lv_lload hx hb dX12_odds_142 (lv_at hl 0 rfl) ?_
                    refine lv_aload_n hx hb dX12_odds_144 rfl (lv_at hl 1 rfl) ?_
                    refine va_get (D := (dC, dI)) (ci := 14) (v := .ref aS) (C := RX12) (T := TX12) (N := 23) hx hb hts kc_mOdds_0 hown hK hP 2 rfl rfl 1 (by decide) (hts (.fieldLink RX12 9 "MistHeapsModel" "s" "[I") kc_mOdds_1) (fun _ h9 => h9) rfl dX12_odds_145 ?_
                    refine lv_iconst (v := 2) hx hb dX12_odds_148 (by decide) ?_
                    refine va_iald hx hb hK hP 3 2 rfl rfl (vp_in_nI (n := 2) (N := 901) (by omega) (by omega)) dX12_odds_149 ?_
                    refine qi_as (y := nI wk) ((show fS (2 : Int32).toNatClampNeg = fS 2 from rfl).trans (zw)) ?_
                    refine vp_callSl (va_runS (As := [.int (nI wk)]) (rest := [.long r_170]) ⟨hx, hb, hml, hown, hts⟩ (c_twenties l dC dI wk (by omega)) (va_cwS 1 hts gX12_odds_X12_twenties rfl rfl rfl hd_yX12_twenties.2 ⟨Nat.le_of_ble_eq_true rfl, Nat.le_of_ble_eq_true rfl⟩) ⟨fun a U g mk q => ⟨q.1, trivial⟩, fun U hU hW => ⟨rfl, trivial⟩⟩ rfl rfl hl.1 rfl (lv_room (Nat.le_of_ble_eq_true rfl)) dX12_odds_150 ⟨Nat.le_of_ble_eq_true rfl, Nat.le_of_ble_eq_true rfl⟩).run (fun r_176 hw_177 => ?_)
                    refine lv_iload_n hx hb dX12_odds_153 rfl (lv_at hl 4 rfl) ?_
                    refine vp_callSl (va_runS (As := [.long r_170, .long r_176, .int (nI j_155)]) (rest := []) ⟨hx, hb, hml, hown, hts⟩ (c_lowest l dC dI r_170 r_176 (nI j_155) hw_177) (va_cwS 3 hts gX12_odds_X12_lowest rfl rfl rfl hd_yX12_lowest.2 ⟨Nat.le_of_ble_eq_true rfl, Nat.le_of_ble_eq_true rfl⟩) ⟨fun a U g mk q => ⟨q.1, trivial⟩, fun U hU hW => ⟨rfl, trivial⟩⟩ rfl rfl hl.1 rfl (lv_room (Nat.le_of_ble_eq_true rfl)) dX12_odds_154 ⟨Nat.le_of_ble_eq_true rfl, Nat.le_of_ble_eq_true rfl⟩).run (fun r_178 hw_179 => ?_)
                    rw [hQ]
                    have hP9 := hP.sub (ws' := [(zo14irriiiiiirriirrrrlriiii m0 th aS aI im ac sp en wg op aB aT se9_174 dn9_175 aG aO aN aD bv aY rn kd nu tv), (zaI aS cS 901 fS), (zaI aB cB 6 fB9_172), (zaI aT cT 64 fT9_173), (zaL aO cO 36 fO2), (zaL aN cN 36 fN2), (zaI aD cD 36 fD9_164)]) [2, 3, 4, 5, 6, 0, 1] rfl
                    have hD9 := hD.sub (ws' := [(zo14irriiiiiirriirrrrlriiii m0 th aS aI im ac sp en wg op aB aT se9_174 dn9_175 aG aO aN aD bv aY rn kd nu tv), (zaI aS cS 901 fS), (zaI aB cB 6 fB9_172), (zaI aT cT 64 fT9_173), (zaL aO cO 36 fO2), (zaL aN cN 36 fN2), (zaI aD cD 36 fD9_164)]) [2, 3, 4, 5, 6, 0, 1] (by decide) rfl
                    have hK9 := hK.sub (tys' := [(cS, .int), (cB, .int), (cT, .boolean), (cO, .long), (cN, .long), (cD, .int)]) [2, 3, 4, 5, 0, 1] rfl
                    exact W.lret (v := r_178) hx hb hr (fun tQ htQ hWQ => ⟨⟨r_178, (fB9_172, fT9_173, se9_174, dn9_175, fD9_164, fO2, fN2), rfl, trivial, by rw [htQ]; exact hP9, va_K.moved hWQ.alike hK9, hD9⟩, hS.F htQ⟩) hS.2.2 dX12_odds_157
                  · skip
                    have c_168 : ¬ wk ≤ i := fun q => c_168 ((nI_leI (a := wk) (b := i) (by omega) (by omega)).mpr q)
                    refine lv_aload_n hx hb dX12_odds_85 rfl (lv_at hl 0 rfl) ?_
                    refine lv_aload_n hx hb dX12_odds_86 rfl (lv_at hl 0 rfl) ?_
                    refine va_get (D := (dC, dI)) (ci := 14) (v := .ref aS) (C := RX12) (T := TX12) (N := 23) hx hb hts kc_mOdds_0 hown hK hP 0 rfl rfl 1 (by decide) (hts (.fieldLink RX12 9 "MistHeapsModel" "s" "[I") kc_mOdds_1) (fun _ h9 => h9) rfl dX12_odds_87 ?_
                    refine lv_bipush (v := 73) hx hb dX12_odds_90 (by decide) ?_
                    refine lv_iload hx hb dX12_odds_92 (lv_at hl 5 rfl) ?_
                    refine lv_iadd hx hb dX12_odds_94 ?_
                    refine qi_as (y := nI (73 + i)) (nI_add 73 i) ?_
                    refine va_iald hx hb hK hP 1 0 rfl rfl (vp_in_nI (n := 73 + i) (N := 901) (by omega) (by omega)) dX12_odds_95 ?_
                    refine qi_as (y := fS (73 + i)) (by rw [nI_clamp (by omega)]) ?_
                    have hPc := hP.sub (ws' := [(zo14irriiiiiirriirrrrlriiii m0 th aS aI im ac sp en wg op aB aT se9_162 dn9_163 aG aO aN aD bv aY rn kd nu tv), (zaI aS cS 901 fS), (zaL aO cO 36 fO2), (zaL aN cN 36 fN2), (zaI aD cD 36 fD9_164)]) [0, 1, 4, 5, 6] rfl
                    have hDc := hD.sub (ws' := [(zo14irriiiiiirriirrrrlriiii m0 th aS aI im ac sp en wg op aB aT se9_162 dn9_163 aG aO aN aD bv aY rn kd nu tv), (zaI aS cS 901 fS), (zaL aO cO 36 fO2), (zaL aN cN 36 fN2), (zaI aD cD 36 fD9_164)]) [0, 1, 4, 5, 6] (by decide) rfl
                    have hKc := hK.sub (tys' := [(cS, .int), (cO, .long), (cN, .long), (cD, .int)]) [0, 3, 4, 5] rfl
                    have hFc := va_free (wc := [(zo14irriiiiiirriirrrrlriiii m0 th aS aI im ac sp en wg op aB aT se9_162 dn9_163 aG aO aN aD bv aY rn kd nu tv), (zaI aS cS 901 fS), (zaL aO cO 36 fO2), (zaL aN cN 36 fN2), (zaI aD cD 36 fD9_164)]) hD hS hA [0, 1, 4, 5, 6] rfl
                    refine va_callv (va_runV (As := [.int (fS (73 + i))]) (rest := []) ⟨hx, hb, hml, hown, hts⟩ (c_goesOn l dC dI m0 aS aI aB aT aG aO aN aD aY th im ac sp en wg op se9_162 dn9_163 rn kd nu tv bv cS cO cN cD fS fO2 fN2 fD9_164 (fS (73 + i)) H.size) (cwV 1 hts gX12_odds_X12_goesOn rfl rfl rfl hd_yX12_goesOn ⟨Nat.le_of_ble_eq_true rfl, Nat.le_of_ble_eq_true rfl⟩) ⟨fun a U g mk q => by obtain ⟨q0, q1, qP, qK, qD⟩ := q; exact ⟨q0, q1, qP, va_K.moved (u := U) (U := U.calling g mk a) (Vm.Alike.refl U.vm) qK, qD⟩, va_recv hK hP (ci := 14) (q := (RX12, TX12, 23)) (q0 := 0) rfl rfl, fun U hU hW => ⟨rfl, by rw [hU], by rw [hU]; exact hPc, va_K.moved hW.alike hKc, hDc.weaken (fun _ _ _ _ => trivial)⟩⟩ rfl rfl hl.1 rfl (lv_room (Nat.le_of_ble_eq_true rfl)) dX12_odds_96 ⟨Nat.le_of_ble_eq_true rfl, Nat.le_of_ble_eq_true rfl⟩) hS (fun q _ h => hFc q h) hFc (fun u tC H1 locs htC hvm hw_181 hB hz1 hk1 hS => ?_)
                    obtain ⟨fO9_182, fN9_183⟩ := u
                    try dsimp only at hw_181 hB
                    obtain ⟨hP1, hK1, hD1⟩ := hB
                    rw [htC] at hP1
                    have hK1 := va_K.moved hvm.symm hK1
                    obtain ⟨hP, hD⟩ := va_join (wr := [(zaI aB cB 6 fB9_160), (zaI aT cT 64 fT9_161)]) (w1 := [(zo14irriiiiiirriirrrrlriiii m0 th aS aI im ac sp en wg op aB aT se9_162 dn9_163 aG aO aN aD bv aY rn kd nu tv), (zaI aS cS 901 fS), (zaL aO cO 36 fO9_182), (zaL aN cN 36 fN9_183), (zaI aD cD 36 fD9_164)]) hP hD [0, 1, 4, 5, 6] [2, 3] rfl rfl (by decide) (by decide) hk1 hFc hP1 hD1
                    have hK := (hK.sub (tys' := [(cB, .int), (cT, .boolean)]) [1, 2] rfl).app hK1
                    generalize H1 = H at hP hS ⊢
                    have hP : va_P (dC, dI) vwCl [(zaI aB cB 6 fB9_160), (zaI aT cT 64 fT9_161), (zo14irriiiiiirriirrrrlriiii m0 th aS aI im ac sp en wg op aB aT se9_162 dn9_163 aG aO aN aD bv aY rn kd nu tv), (zaI aS cS 901 fS), (zaL aO cO 36 fO9_182), (zaL aN cN 36 fN9_183), (zaI aD cD 36 fD9_164)] H := hP
                    have hD : va_D A [(zaI aB cB 6 fB9_160), (zaI aT cT 64 fT9_161), (zo14irriiiiiirriirrrrlriiii m0 th aS aI im ac sp en wg op aB aT se9_162 dn9_163 aG aO aN aD bv aY rn kd nu tv), (zaI aS cS 901 fS), (zaL aO cO 36 fO9_182), (zaL aN cN 36 fN9_183), (zaI aD cD 36 fD9_164)] := hD
                    have hK : va_K (dC, dI) vwCl [(cB, .int), (cT, .boolean), (cS, .int), (cO, .long), (cN, .long), (cD, .int)] s := hK
                    refine lv_iinc (v := nI (i + 1)) (lv' := [(5, .int (nI (i + 1))), (0, .ref m0), (1, .int (nI j_102)), (2, .int y), (3, .int (nI j_155)), (4, .int 1)]) hx hb dX12_odds_99 hl (k := 5) rfl (nI_add i 1) (by decide) rfl (fun ls hl => ?_)
                    refine lv_goto (tgt := 74) hx hb dX12_odds_102 (by decide) ?_
                    exact ih74 (i + 1) _ _ (by omega) (by omega) _ _ (hK.sub [2, 0, 1, 3, 4, 5] rfl) (hP.sub [2, 3, 0, 1, 4, 5, 6] rfl) (hD.sub [2, 3, 0, 1, 4, 5, 6] (by decide) rfl) hS ls (lv_sub hl [1, 2, 3, 4, 5, 0] rfl)
              exact L74 _ (0) _ _ (Nat.lt_succ_self _) (by omega) _ _ (hK.sub [1, 2, 3, 5, 0, 4] rfl) (hP.sub [5, 1, 2, 3, 6, 0, 4] rfl) (hD.sub [5, 1, 2, 3, 6, 0, 4] (by decide) rfl) hS ls (lv_sub hl [2, 3, 4, 5, 1, 0] rfl)
            · skip
              refine lv_if_ne (tgt := 62) hx hb dX12_odds_55 (by decide) (fun c_184 => absurd c_184 (by decide)) (fun _ => ?_)
              refine lv_ldc2 (v := (-9223372036854775808)) hx hb hown (hts (.constantLong RX12 181 (-9223372036854775808)) kc_mOdds_3) dX12_odds_58 ?_
              rw [hQ]
              have hP9 := hP.sub (ws' := [(zo14irriiiiiirriirrrrlriiii m0 th aS aI im ac sp en wg op aB aT se dn aG aO aN aD bv aY rn kd nu tv), (zaI aS cS 901 fS), (zaI aB cB 6 fB), (zaI aT cT 64 fT), (zaL aO cO 36 fO), (zaL aN cN 36 fN), (zaI aD cD 36 fD)]) [0, 1, 2, 3, 4, 5, 6] rfl
              have hD9 := hD.sub (ws' := [(zo14irriiiiiirriirrrrlriiii m0 th aS aI im ac sp en wg op aB aT se dn aG aO aN aD bv aY rn kd nu tv), (zaI aS cS 901 fS), (zaI aB cB 6 fB), (zaI aT cT 64 fT), (zaL aO cO 36 fO), (zaL aN cN 36 fN), (zaI aD cD 36 fD)]) [0, 1, 2, 3, 4, 5, 6] (by decide) rfl
              have hK9 := hK.sub (tys' := [(cS, .int), (cB, .int), (cT, .boolean), (cO, .long), (cN, .long), (cD, .int)]) [0, 1, 2, 3, 4, 5] rfl
              exact W.lret (v := (-9223372036854775808)) hx hb hr (fun tQ htQ hWQ => ⟨⟨(-9223372036854775808), (fB, fT, se, dn, fD, fO, fN), rfl, trivial, by rw [htQ]; exact hP9, va_K.moved hWQ.alike hK9, hD9⟩, hS.F htQ⟩) hS.2.2 dX12_odds_61
          · skip
            refine lv_iload hx hb dX12_odds_44 (lv_at hl 0 rfl) ?_
            refine lv_if_eq (tgt := 58) hx hb dX12_odds_46 (by decide) (fun c_185 => absurd c_185 (by decide)) (fun _ => ?_)
            refine lv_iload_n hx hb dX12_odds_49 rfl (lv_at hl 4 rfl) ?_
            refine lv_iconst (v := 0) hx hb dX12_odds_50 (by decide) ?_
            refine lv_iconst (v := 1) hx hb dX12_odds_51 (by decide) ?_
            refine vp_callSi (va_runS (As := [.int z, .int 0, .int 1]) (rest := []) ⟨hx, hb, hml, hown, hts⟩ (c_in l dC dI z 0 1) (va_cwS 3 hts gX12_odds_X12_in rfl rfl rfl hd_yX12_in.2 ⟨Nat.le_of_ble_eq_true rfl, Nat.le_of_ble_eq_true rfl⟩) ⟨fun a U g mk q => ⟨q.1, trivial⟩, fun U hU hW => ⟨rfl, trivial⟩⟩ rfl rfl hl.1 rfl (lv_room (Nat.le_of_ble_eq_true rfl)) dX12_odds_52 ⟨Nat.le_of_ble_eq_true rfl, Nat.le_of_ble_eq_true rfl⟩).run (fun r_186 hw_187 => ?_)
            rcases hw_187 with ⟨rfl, h_188, h_189⟩ | ⟨rfl, h_190⟩
            · skip
              obtain ⟨j_191, hj_192, rfl⟩ := nI_of2 (n := 1) (M := 1) rfl h_188 (Int32.not_lt.mp h_189)
              refine lv_if_ne (tgt := 62) hx hb dX12_odds_55 (by decide) (fun _ => ?_) (fun c_193 => absurd c_193 (by decide))
              refine lv_aload_n hx hb dX12_odds_62 rfl (lv_at hl 1 rfl) ?_
              have hPc := hP.sub (ws' := [(zo14irriiiiiirriirrrrlriiii m0 th aS aI im ac sp en wg op aB aT se dn aG aO aN aD bv aY rn kd nu tv), (zaI aS cS 901 fS), (zaI aB cB 6 fB), (zaI aT cT 64 fT), (zaI aD cD 36 fD)]) [0, 1, 2, 3, 6] rfl
              have hDc := hD.sub (ws' := [(zo14irriiiiiirriirrrrlriiii m0 th aS aI im ac sp en wg op aB aT se dn aG aO aN aD bv aY rn kd nu tv), (zaI aS cS 901 fS), (zaI aB cB 6 fB), (zaI aT cT 64 fT), (zaI aD cD 36 fD)]) [0, 1, 2, 3, 6] (by decide) rfl
              have hKc := hK.sub (tys' := [(cS, .int), (cB, .int), (cT, .boolean), (cD, .int)]) [0, 1, 2, 5] rfl
              have hFc := va_free (wc := [(zo14irriiiiiirriirrrrlriiii m0 th aS aI im ac sp en wg op aB aT se dn aG aO aN aD bv aY rn kd nu tv), (zaI aS cS 901 fS), (zaI aB cB 6 fB), (zaI aT cT 64 fT), (zaI aD cD 36 fD)]) hD hS hA [0, 1, 2, 3, 6] rfl
              refine va_callv (va_runV (As := []) (rest := []) ⟨hx, hb, hml, hown, hts⟩ (c_lookDrifts l dC dI m0 aS aI aB aT aG aO aN aD aY th im ac sp en wg op se dn rn kd nu tv bv cS cB cT cD fS fB fT fD cz H.size (zh)) (cwV 0 hts gX12_odds_X12_looksForDrifts rfl rfl rfl hd_yX12_looksForDrifts ⟨Nat.le_of_ble_eq_true rfl, Nat.le_of_ble_eq_true rfl⟩) ⟨fun a U g mk q => by obtain ⟨q0, q1, qP, qK, qD⟩ := q; exact ⟨q0, q1, qP, va_K.moved (u := U) (U := U.calling g mk a) (Vm.Alike.refl U.vm) qK, qD⟩, va_recv hK hP (ci := 14) (q := (RX12, TX12, 23)) (q0 := 0) rfl rfl, fun U hU hW => ⟨rfl, by rw [hU], by rw [hU]; exact hPc, va_K.moved hW.alike hKc, hDc.weaken (fun _ _ _ _ => trivial)⟩⟩ rfl rfl hl.1 rfl (lv_room (Nat.le_of_ble_eq_true rfl)) dX12_odds_63 ⟨Nat.le_of_ble_eq_true rfl, Nat.le_of_ble_eq_true rfl⟩) hS (fun q _ h => hFc q h) hFc (fun u tC H1 locs htC hvm hw_195 hB hz1 hk1 hS => ?_)
              obtain ⟨fB9_196, fT9_197, se9_198, dn9_199, fD9_200⟩ := u
              try dsimp only at hw_195 hB
              obtain ⟨hP1, hK1, hD1⟩ := hB
              rw [htC] at hP1
              have hK1 := va_K.moved hvm.symm hK1
              obtain ⟨hP, hD⟩ := va_join (wr := [(zaL aO cO 36 fO), (zaL aN cN 36 fN)]) (w1 := [(zo14irriiiiiirriirrrrlriiii m0 th aS aI im ac sp en wg op aB aT se9_198 dn9_199 aG aO aN aD bv aY rn kd nu tv), (zaI aS cS 901 fS), (zaI aB cB 6 fB9_196), (zaI aT cT 64 fT9_197), (zaI aD cD 36 fD9_200)]) hP hD [0, 1, 2, 3, 6] [4, 5] rfl rfl (by decide) (by decide) hk1 hFc hP1 hD1
              have hK := (hK.sub (tys' := [(cO, .long), (cN, .long)]) [3, 4] rfl).app hK1
              generalize H1 = H at hP hS ⊢
              have hP : va_P (dC, dI) vwCl [(zaL aO cO 36 fO), (zaL aN cN 36 fN), (zo14irriiiiiirriirrrrlriiii m0 th aS aI im ac sp en wg op aB aT se9_198 dn9_199 aG aO aN aD bv aY rn kd nu tv), (zaI aS cS 901 fS), (zaI aB cB 6 fB9_196), (zaI aT cT 64 fT9_197), (zaI aD cD 36 fD9_200)] H := hP
              have hD : va_D A [(zaL aO cO 36 fO), (zaL aN cN 36 fN), (zo14irriiiiiirriirrrrlriiii m0 th aS aI im ac sp en wg op aB aT se9_198 dn9_199 aG aO aN aD bv aY rn kd nu tv), (zaI aS cS 901 fS), (zaI aB cB 6 fB9_196), (zaI aT cT 64 fT9_197), (zaI aD cD 36 fD9_200)] := hD
              have hK : va_K (dC, dI) vwCl [(cO, .long), (cN, .long), (cS, .int), (cB, .int), (cT, .boolean), (cD, .int)] s := hK
              refine lv_aload_n hx hb dX12_odds_66 rfl (lv_at hl 1 rfl) ?_
              refine lv_iload_n hx hb dX12_odds_67 rfl (lv_at hl 2 rfl) ?_
              have hPc := hP.sub (ws' := [(zo14irriiiiiirriirrrrlriiii m0 th aS aI im ac sp en wg op aB aT se9_198 dn9_199 aG aO aN aD bv aY rn kd nu tv), (zaL aO cO 36 fO)]) [2, 0] rfl
              have hDc := hD.sub (ws' := [(zo14irriiiiiirriirrrrlriiii m0 th aS aI im ac sp en wg op aB aT se9_198 dn9_199 aG aO aN aD bv aY rn kd nu tv), (zaL aO cO 36 fO)]) [2, 0] (by decide) rfl
              have hKc := hK.sub (tys' := [(cO, .long)]) [0] rfl
              have hFc := va_free (wc := [(zo14irriiiiiirriirrrrlriiii m0 th aS aI im ac sp en wg op aB aT se9_198 dn9_199 aG aO aN aD bv aY rn kd nu tv), (zaL aO cO 36 fO)]) hD hS hA [2, 0] rfl
              refine va_callv (va_runV (As := [.int (nI j_102)]) (rest := []) ⟨hx, hb, hml, hown, hts⟩ (c_begins l dC dI m0 aS aI aB aT aG aO aN aD aY th im ac sp en wg op se9_198 dn9_199 rn kd nu tv bv cO fO (nI j_102) H.size) (cwV 1 hts gX12_odds_X12_begins rfl rfl rfl hd_yX12_begins ⟨Nat.le_of_ble_eq_true rfl, Nat.le_of_ble_eq_true rfl⟩) ⟨fun a U g mk q => by obtain ⟨q0, q1, qP, qK, qD⟩ := q; exact ⟨q0, q1, qP, va_K.moved (u := U) (U := U.calling g mk a) (Vm.Alike.refl U.vm) qK, qD⟩, va_recv hK hP (ci := 14) (q := (RX12, TX12, 23)) (q0 := 2) rfl rfl, fun U hU hW => ⟨rfl, by rw [hU], by rw [hU]; exact hPc, va_K.moved hW.alike hKc, hDc.weaken (fun _ _ _ _ => trivial)⟩⟩ rfl rfl hl.1 rfl (lv_room (Nat.le_of_ble_eq_true rfl)) dX12_odds_68 ⟨Nat.le_of_ble_eq_true rfl, Nat.le_of_ble_eq_true rfl⟩) hS (fun q _ h => hFc q h) hFc (fun u tC H1 locs htC hvm hw_202 hB hz1 hk1 hS => ?_)
              obtain ⟨fO9_203, rfl⟩ : ∃ z, z = u := ⟨_, rfl⟩
              try dsimp only at hw_202 hB
              obtain ⟨hP1, hK1, hD1⟩ := hB
              rw [htC] at hP1
              have hK1 := va_K.moved hvm.symm hK1
              obtain ⟨hP, hD⟩ := va_join (wr := [(zaL aN cN 36 fN), (zaI aS cS 901 fS), (zaI aB cB 6 fB9_196), (zaI aT cT 64 fT9_197), (zaI aD cD 36 fD9_200)]) (w1 := [(zo14irriiiiiirriirrrrlriiii m0 th aS aI im ac sp en wg op aB aT se9_198 dn9_199 aG aO aN aD bv aY rn kd nu tv), (zaL aO cO 36 fO9_203)]) hP hD [2, 0] [1, 3, 4, 5, 6] rfl rfl (by decide) (by decide) hk1 hFc hP1 hD1
              have hK := (hK.sub (tys' := [(cN, .long), (cS, .int), (cB, .int), (cT, .boolean), (cD, .int)]) [1, 2, 3, 4, 5] rfl).app hK1
              generalize H1 = H at hP hS ⊢
              have hP : va_P (dC, dI) vwCl [(zaL aN cN 36 fN), (zaI aS cS 901 fS), (zaI aB cB 6 fB9_196), (zaI aT cT 64 fT9_197), (zaI aD cD 36 fD9_200), (zo14irriiiiiirriirrrrlriiii m0 th aS aI im ac sp en wg op aB aT se9_198 dn9_199 aG aO aN aD bv aY rn kd nu tv), (zaL aO cO 36 fO9_203)] H := hP
              have hD : va_D A [(zaL aN cN 36 fN), (zaI aS cS 901 fS), (zaI aB cB 6 fB9_196), (zaI aT cT 64 fT9_197), (zaI aD cD 36 fD9_200), (zo14irriiiiiirriirrrrlriiii m0 th aS aI im ac sp en wg op aB aT se9_198 dn9_199 aG aO aN aD bv aY rn kd nu tv), (zaL aO cO 36 fO9_203)] := hD
              have hK : va_K (dC, dI) vwCl [(cN, .long), (cS, .int), (cB, .int), (cT, .boolean), (cD, .int), (cO, .long)] s := hK
              refine lv_iconst (v := 0) hx hb dX12_odds_71 (by decide) ?_
              refine lv_istore (lv' := [(5, .int 0), (4, .int 1), (0, .ref m0), (1, .int (nI j_102)), (2, .int y), (3, .int (nI j_191))]) hx hb dX12_odds_72 hl (by decide) rfl (fun ls hl => ?_)
              have L74 : ∀ (nF : Nat) (i : Nat) (fO2 : Nat → Int64) (fN2 : Nat → Int64), wk - i < nF → (i ≤ wk) → ∀ (H : Heap) (locs : List Loc), va_K (dC, dI) vwCl [(cS, .int), (cB, .int), (cT, .boolean), (cO, .long), (cN, .long), (cD, .int)] s → va_P (dC, dI) vwCl [(zo14irriiiiiirriirrrrlriiii m0 th aS aI im ac sp en wg op aB aT se9_198 dn9_199 aG aO aN aD bv aY rn kd nu tv), (zaI aS cS 901 fS), (zaI aB cB 6 fB9_196), (zaI aT cT 64 fT9_197), (zaL aO cO 36 fO2), (zaL aN cN 36 fN2), (zaI aD cD 36 fD9_200)] H → va_D A [(zo14irriiiiiirriirrrrlriiii m0 th aS aI im ac sp en wg op aB aT se9_198 dn9_199 aG aO aN aD bv aY rn kd nu tv), (zaI aS cS 901 fS), (zaI aB cB 6 fB9_196), (zaI aT cT 64 fT9_197), (zaL aO cO 36 fO2), (zaL aN cN 36 fN2), (zaI aD cD 36 fD9_200)] → va_S A s.heap H locs → ∀ (ls : Array Slot), lv_has ls 7 [(0, .ref m0), (1, .int (nI j_102)), (2, .int y), (3, .int (nI j_191)), (4, .int 1), (5, .int (nI i))] → W p l e ({ frames := 4, cells := 0, slots := 0, locals := 101 } : Room) s m args below meth c H locs 0 0 Q (F0 m 74 ls []) := by
                intro nF
                induction nF with
                | zero => intro i fO2 fN2 hm; exact absurd hm (Nat.not_lt_zero _)
                | succ nF ih74 =>
                  intro i fO2 fN2 hm hii H locs hK hP hD hS ls hl
                  refine lv_iload hx hb dX12_odds_74 (lv_at hl 5 rfl) ?_
                  refine lv_aload_n hx hb dX12_odds_76 rfl (lv_at hl 0 rfl) ?_
                  refine va_get (D := (dC, dI)) (ci := 14) (v := .ref aS) (C := RX12) (T := TX12) (N := 23) hx hb hts kc_mOdds_0 hown hK hP 0 rfl rfl 1 (by decide) (hts (.fieldLink RX12 9 "MistHeapsModel" "s" "[I") kc_mOdds_1) (fun _ h9 => h9) rfl dX12_odds_77 ?_
                  refine lv_iconst (v := 2) hx hb dX12_odds_80 (by decide) ?_
                  refine va_iald hx hb hK hP 1 0 rfl rfl (vp_in_nI (n := 2) (N := 901) (by omega) (by omega)) dX12_odds_81 ?_
                  refine qi_as (y := nI wk) ((show fS (2 : Int32).toNatClampNeg = fS 2 from rfl).trans (zw)) ?_
                  refine lv_icmp_ge (tgt := 105) hx hb dX12_odds_82 (by decide) (fun c_204 => ?_) (fun c_204 => ?_)
                  · skip
                    have c_204 : wk ≤ i := (nI_leI (a := wk) (b := i) (by omega) (by omega)).mp c_204
                    refine lv_iload hx hb dX12_odds_105 (lv_at hl 4 rfl) ?_
                    refine lv_if_eq (tgt := 121) hx hb dX12_odds_107 (by decide) (fun c_205 => absurd c_205 (by decide)) (fun _ => ?_)
                    refine lv_aload_n hx hb dX12_odds_110 rfl (lv_at hl 0 rfl) ?_
                    refine lv_iload_n hx hb dX12_odds_111 rfl (lv_at hl 2 rfl) ?_
                    refine lv_bipush (v := 50) hx hb dX12_odds_112 (by decide) ?_
                    refine lv_isub hx hb dX12_odds_114 ?_
                    refine qi_as (y := nI j_92) (ej_94) ?_
                    have hPc := hP.sub (ws' := [(zo14irriiiiiirriirrrrlriiii m0 th aS aI im ac sp en wg op aB aT se9_198 dn9_199 aG aO aN aD bv aY rn kd nu tv), (zaI aS cS 901 fS), (zaI aB cB 6 fB9_196), (zaI aT cT 64 fT9_197), (zaL aO cO 36 fO2)]) [0, 1, 2, 3, 4] rfl
                    have hDc := hD.sub (ws' := [(zo14irriiiiiirriirrrrlriiii m0 th aS aI im ac sp en wg op aB aT se9_198 dn9_199 aG aO aN aD bv aY rn kd nu tv), (zaI aS cS 901 fS), (zaI aB cB 6 fB9_196), (zaI aT cT 64 fT9_197), (zaL aO cO 36 fO2)]) [0, 1, 2, 3, 4] (by decide) rfl
                    have hKc := hK.sub (tys' := [(cS, .int), (cB, .int), (cT, .boolean), (cO, .long)]) [0, 1, 2, 3] rfl
                    have hFc := va_free (wc := [(zo14irriiiiiirriirrrrlriiii m0 th aS aI im ac sp en wg op aB aT se9_198 dn9_199 aG aO aN aD bv aY rn kd nu tv), (zaI aS cS 901 fS), (zaI aB cB 6 fB9_196), (zaI aT cT 64 fT9_197), (zaL aO cO 36 fO2)]) hD hS hA [0, 1, 2, 3, 4] rfl
                    refine va_calll (va_runV (As := [.int (nI j_92)]) (rest := []) ⟨hx, hb, hml, hown, hts⟩ (c_seen l dC dI m0 aS aI aB aT aG aO aN aD aY th im ac sp en wg op se9_198 dn9_199 rn kd nu tv bv cS cB cT cO fS fB9_196 fT9_197 fO2 j_92 cz H.size (by omega) (zh)) (cwV 1 hts gX12_odds_X12_seen rfl rfl rfl hd_yX12_seen ⟨Nat.le_of_ble_eq_true rfl, Nat.le_of_ble_eq_true rfl⟩) ⟨fun a U g mk q => by obtain ⟨q0, q1, qP, qK, qD⟩ := q; exact ⟨q0, q1, qP, va_K.moved (u := U) (U := U.calling g mk a) (Vm.Alike.refl U.vm) qK, qD⟩, va_recv hK hP (ci := 14) (q := (RX12, TX12, 23)) (q0 := 0) rfl rfl, fun U hU hW => ⟨rfl, by rw [hU], by rw [hU]; exact hPc, va_K.moved hW.alike hKc, hDc.weaken (fun _ _ _ _ => trivial)⟩⟩ rfl rfl hl.1 rfl (lv_room (Nat.le_of_ble_eq_true rfl)) dX12_odds_115 ⟨Nat.le_of_ble_eq_true rfl, Nat.le_of_ble_eq_true rfl⟩) hS (fun q _ h => hFc q h) hFc (fun r_206 u tC H1 locs htC hvm hw_207 hB hz1 hk1 hS => ?_)
                    obtain ⟨fB9_208, fT9_209, se9_210, dn9_211⟩ := u
                    try dsimp only at hw_207 hB
                    obtain ⟨hP1, hK1, hD1⟩ := hB
                    rw [htC] at hP1
                    have hK1 := va_K.moved hvm.symm hK1
                    obtain ⟨hP, hD⟩ := va_join (wr := [(zaL aN cN 36 fN2), (zaI aD cD 36 fD9_200)]) (w1 := [(zo14irriiiiiirriirrrrlriiii m0 th aS aI im ac sp en wg op aB aT se9_210 dn9_211 aG aO aN aD bv aY rn kd nu tv), (zaI aS cS 901 fS), (zaI aB cB 6 fB9_208), (zaI aT cT 64 fT9_209), (zaL aO cO 36 fO2)]) hP hD [0, 1, 2, 3, 4] [5, 6] rfl rfl (by decide) (by decide) hk1 hFc hP1 hD1
                    have hK := (hK.sub (tys' := [(cN, .long), (cD, .int)]) [4, 5] rfl).app hK1
                    generalize H1 = H at hP hS ⊢
                    have hP : va_P (dC, dI) vwCl [(zaL aN cN 36 fN2), (zaI aD cD 36 fD9_200), (zo14irriiiiiirriirrrrlriiii m0 th aS aI im ac sp en wg op aB aT se9_210 dn9_211 aG aO aN aD bv aY rn kd nu tv), (zaI aS cS 901 fS), (zaI aB cB 6 fB9_208), (zaI aT cT 64 fT9_209), (zaL aO cO 36 fO2)] H := hP
                    have hD : va_D A [(zaL aN cN 36 fN2), (zaI aD cD 36 fD9_200), (zo14irriiiiiirriirrrrlriiii m0 th aS aI im ac sp en wg op aB aT se9_210 dn9_211 aG aO aN aD bv aY rn kd nu tv), (zaI aS cS 901 fS), (zaI aB cB 6 fB9_208), (zaI aT cT 64 fT9_209), (zaL aO cO 36 fO2)] := hD
                    have hK : va_K (dC, dI) vwCl [(cN, .long), (cD, .int), (cS, .int), (cB, .int), (cT, .boolean), (cO, .long)] s := hK
                    refine lv_goto (tgt := 140) hx hb dX12_odds_118 (by decide) ?_
                    refine lv_lstore (lv' := [(5, .long r_206), (0, .ref m0), (1, .int (nI j_102)), (2, .int y), (3, .int (nI j_191)), (4, .int 1)]) hx hb dX12_odds_140 hl (by decide) rfl (fun ls hl => ?_)
                    refine lv_lload hx hb dX12_odds_142 (lv_at hl 0 rfl) ?_
                    refine lv_aload_n hx hb dX12_odds_144 rfl (lv_at hl 1 rfl) ?_
                    refine va_get (D := (dC, dI)) (ci := 14) (v := .ref aS) (C := RX12) (T := TX12) (N := 23) hx hb hts kc_mOdds_0 hown hK hP 2 rfl rfl 1 (by decide) (hts (.fieldLink RX12 9 "MistHeapsModel" "s" "[I") kc_mOdds_1) (fun _ h9 => h9) rfl dX12_odds_145 ?_
                    refine lv_iconst (v := 2) hx hb dX12_odds_148 (by decide) ?_
                    refine va_iald hx hb hK hP 3 2 rfl rfl (vp_in_nI (n := 2) (N := 901) (by omega) (by omega)) dX12_odds_149 ?_
                    refine qi_as (y := nI wk) ((show fS (2 : Int32).toNatClampNeg = fS 2 from rfl).trans (zw)) ?_
                    refine vp_callSl (va_runS (As := [.int (nI wk)]) (rest := [.long r_206]) ⟨hx, hb, hml, hown, hts⟩ (c_twenties l dC dI wk (by omega)) (va_cwS 1 hts gX12_odds_X12_twenties rfl rfl rfl hd_yX12_twenties.2 ⟨Nat.le_of_ble_eq_true rfl, Nat.le_of_ble_eq_true rfl⟩) ⟨fun a U g mk q => ⟨q.1, trivial⟩, fun U hU hW => ⟨rfl, trivial⟩⟩ rfl rfl hl.1 rfl (lv_room (Nat.le_of_ble_eq_true rfl)) dX12_odds_150 ⟨Nat.le_of_ble_eq_true rfl, Nat.le_of_ble_eq_true rfl⟩).run (fun r_212 hw_213 => ?_)
                    refine lv_iload_n hx hb dX12_odds_153 rfl (lv_at hl 4 rfl) ?_
                    refine vp_callSl (va_runS (As := [.long r_206, .long r_212, .int (nI j_191)]) (rest := []) ⟨hx, hb, hml, hown, hts⟩ (c_lowest l dC dI r_206 r_212 (nI j_191) hw_213) (va_cwS 3 hts gX12_odds_X12_lowest rfl rfl rfl hd_yX12_lowest.2 ⟨Nat.le_of_ble_eq_true rfl, Nat.le_of_ble_eq_true rfl⟩) ⟨fun a U g mk q => ⟨q.1, trivial⟩, fun U hU hW => ⟨rfl, trivial⟩⟩ rfl rfl hl.1 rfl (lv_room (Nat.le_of_ble_eq_true rfl)) dX12_odds_154 ⟨Nat.le_of_ble_eq_true rfl, Nat.le_of_ble_eq_true rfl⟩).run (fun r_214 hw_215 => ?_)
                    rw [hQ]
                    have hP9 := hP.sub (ws' := [(zo14irriiiiiirriirrrrlriiii m0 th aS aI im ac sp en wg op aB aT se9_210 dn9_211 aG aO aN aD bv aY rn kd nu tv), (zaI aS cS 901 fS), (zaI aB cB 6 fB9_208), (zaI aT cT 64 fT9_209), (zaL aO cO 36 fO2), (zaL aN cN 36 fN2), (zaI aD cD 36 fD9_200)]) [2, 3, 4, 5, 6, 0, 1] rfl
                    have hD9 := hD.sub (ws' := [(zo14irriiiiiirriirrrrlriiii m0 th aS aI im ac sp en wg op aB aT se9_210 dn9_211 aG aO aN aD bv aY rn kd nu tv), (zaI aS cS 901 fS), (zaI aB cB 6 fB9_208), (zaI aT cT 64 fT9_209), (zaL aO cO 36 fO2), (zaL aN cN 36 fN2), (zaI aD cD 36 fD9_200)]) [2, 3, 4, 5, 6, 0, 1] (by decide) rfl
                    have hK9 := hK.sub (tys' := [(cS, .int), (cB, .int), (cT, .boolean), (cO, .long), (cN, .long), (cD, .int)]) [2, 3, 4, 5, 0, 1] rfl
                    exact W.lret (v := r_214) hx hb hr (fun tQ htQ hWQ => ⟨⟨r_214, (fB9_208, fT9_209, se9_210, dn9_211, fD9_200, fO2, fN2), rfl, trivial, by rw [htQ]; exact hP9, va_K.moved hWQ.alike hK9, hD9⟩, hS.F htQ⟩) hS.2.2 dX12_odds_157
                  · skip
                    have c_204 : ¬ wk ≤ i := fun q => c_204 ((nI_leI (a := wk) (b := i) (by omega) (by omega)).mpr q)
                    refine lv_aload_n hx hb dX12_odds_85 rfl (lv_at hl 0 rfl) ?_
                    refine lv_aload_n hx hb dX12_odds_86 rfl (lv_at hl 0 rfl) ?_
                    refine va_get (D := (dC, dI)) (ci := 14) (v := .ref aS) (C := RX12) (T := TX12) (N := 23) hx hb hts kc_mOdds_0 hown hK hP 0 rfl rfl 1 (by decide) (hts (.fieldLink RX12 9 "MistHeapsModel" "s" "[I") kc_mOdds_1) (fun _ h9 => h9) rfl dX12_odds_87 ?_
                    refine lv_bipush (v := 73) hx hb dX12_odds_90 (by decide) ?_
                    refine lv_iload hx hb dX12_odds_92 (lv_at hl 5 rfl) ?_
                    refine lv_iadd hx hb dX12_odds_94 ?_
                    refine qi_as (y := nI (73 + i)) (nI_add 73 i) ?_
                    refine va_iald hx hb hK hP 1 0 rfl rfl (vp_in_nI (n := 73 + i) (N := 901) (by omega) (by omega)) dX12_odds_95 ?_
                    refine qi_as (y := fS (73 + i)) (by rw [nI_clamp (by omega)]) ?_
                    have hPc := hP.sub (ws' := [(zo14irriiiiiirriirrrrlriiii m0 th aS aI im ac sp en wg op aB aT se9_198 dn9_199 aG aO aN aD bv aY rn kd nu tv), (zaI aS cS 901 fS), (zaL aO cO 36 fO2), (zaL aN cN 36 fN2), (zaI aD cD 36 fD9_200)]) [0, 1, 4, 5, 6] rfl
                    have hDc := hD.sub (ws' := [(zo14irriiiiiirriirrrrlriiii m0 th aS aI im ac sp en wg op aB aT se9_198 dn9_199 aG aO aN aD bv aY rn kd nu tv), (zaI aS cS 901 fS), (zaL aO cO 36 fO2), (zaL aN cN 36 fN2), (zaI aD cD 36 fD9_200)]) [0, 1, 4, 5, 6] (by decide) rfl
                    have hKc := hK.sub (tys' := [(cS, .int), (cO, .long), (cN, .long), (cD, .int)]) [0, 3, 4, 5] rfl
                    have hFc := va_free (wc := [(zo14irriiiiiirriirrrrlriiii m0 th aS aI im ac sp en wg op aB aT se9_198 dn9_199 aG aO aN aD bv aY rn kd nu tv), (zaI aS cS 901 fS), (zaL aO cO 36 fO2), (zaL aN cN 36 fN2), (zaI aD cD 36 fD9_200)]) hD hS hA [0, 1, 4, 5, 6] rfl
                    refine va_callv (va_runV (As := [.int (fS (73 + i))]) (rest := []) ⟨hx, hb, hml, hown, hts⟩ (c_goesOn l dC dI m0 aS aI aB aT aG aO aN aD aY th im ac sp en wg op se9_198 dn9_199 rn kd nu tv bv cS cO cN cD fS fO2 fN2 fD9_200 (fS (73 + i)) H.size) (cwV 1 hts gX12_odds_X12_goesOn rfl rfl rfl hd_yX12_goesOn ⟨Nat.le_of_ble_eq_true rfl, Nat.le_of_ble_eq_true rfl⟩) ⟨fun a U g mk q => by obtain ⟨q0, q1, qP, qK, qD⟩ := q; exact ⟨q0, q1, qP, va_K.moved (u := U) (U := U.calling g mk a) (Vm.Alike.refl U.vm) qK, qD⟩, va_recv hK hP (ci := 14) (q := (RX12, TX12, 23)) (q0 := 0) rfl rfl, fun U hU hW => ⟨rfl, by rw [hU], by rw [hU]; exact hPc, va_K.moved hW.alike hKc, hDc.weaken (fun _ _ _ _ => trivial)⟩⟩ rfl rfl hl.1 rfl (lv_room (Nat.le_of_ble_eq_true rfl)) dX12_odds_96 ⟨Nat.le_of_ble_eq_true rfl, Nat.le_of_ble_eq_true rfl⟩) hS (fun q _ h => hFc q h) hFc (fun u tC H1 locs htC hvm hw_217 hB hz1 hk1 hS => ?_)
                    obtain ⟨fO9_218, fN9_219⟩ := u
                    try dsimp only at hw_217 hB
                    obtain ⟨hP1, hK1, hD1⟩ := hB
                    rw [htC] at hP1
                    have hK1 := va_K.moved hvm.symm hK1
                    obtain ⟨hP, hD⟩ := va_join (wr := [(zaI aB cB 6 fB9_196), (zaI aT cT 64 fT9_197)]) (w1 := [(zo14irriiiiiirriirrrrlriiii m0 th aS aI im ac sp en wg op aB aT se9_198 dn9_199 aG aO aN aD bv aY rn kd nu tv), (zaI aS cS 901 fS), (zaL aO cO 36 fO9_218), (zaL aN cN 36 fN9_219), (zaI aD cD 36 fD9_200)]) hP hD [0, 1, 4, 5, 6] [2, 3] rfl rfl (by decide) (by decide) hk1 hFc hP1 hD1
                    have hK := (hK.sub (tys' := [(cB, .int), (cT, .boolean)]) [1, 2] rfl).app hK1
                    generalize H1 = H at hP hS ⊢
                    have hP : va_P (dC, dI) vwCl [(zaI aB cB 6 fB9_196), (zaI aT cT 64 fT9_197), (zo14irriiiiiirriirrrrlriiii m0 th aS aI im ac sp en wg op aB aT se9_198 dn9_199 aG aO aN aD bv aY rn kd nu tv), (zaI aS cS 901 fS), (zaL aO cO 36 fO9_218), (zaL aN cN 36 fN9_219), (zaI aD cD 36 fD9_200)] H := hP
                    have hD : va_D A [(zaI aB cB 6 fB9_196), (zaI aT cT 64 fT9_197), (zo14irriiiiiirriirrrrlriiii m0 th aS aI im ac sp en wg op aB aT se9_198 dn9_199 aG aO aN aD bv aY rn kd nu tv), (zaI aS cS 901 fS), (zaL aO cO 36 fO9_218), (zaL aN cN 36 fN9_219), (zaI aD cD 36 fD9_200)] := hD
                    have hK : va_K (dC, dI) vwCl [(cB, .int), (cT, .boolean), (cS, .int), (cO, .long), (cN, .long), (cD, .int)] s := hK
                    refine lv_iinc (v := nI (i + 1)) (lv' := [(5, .int (nI (i + 1))), (0, .ref m0), (1, .int (nI j_102)), (2, .int y), (3, .int (nI j_191)), (4, .int 1)]) hx hb dX12_odds_99 hl (k := 5) rfl (nI_add i 1) (by decide) rfl (fun ls hl => ?_)
                    refine lv_goto (tgt := 74) hx hb dX12_odds_102 (by decide) ?_
                    exact ih74 (i + 1) _ _ (by omega) (by omega) _ _ (hK.sub [2, 0, 1, 3, 4, 5] rfl) (hP.sub [2, 3, 0, 1, 4, 5, 6] rfl) (hD.sub [2, 3, 0, 1, 4, 5, 6] (by decide) rfl) hS ls (lv_sub hl [1, 2, 3, 4, 5, 0] rfl)
              exact L74 _ (0) _ _ (Nat.lt_succ_self _) (by omega) _ _ (hK.sub [1, 2, 3, 5, 0, 4] rfl) (hP.sub [5, 1, 2, 3, 6, 0, 4] rfl) (hD.sub [5, 1, 2, 3, 6, 0, 4] (by decide) rfl) hS ls (lv_sub hl [2, 3, 4, 5, 1, 0] rfl)
            · skip
              refine lv_if_ne (tgt := 62) hx hb dX12_odds_55 (by decide) (fun c_220 => absurd c_220 (by decide)) (fun _ => ?_)
              refine lv_ldc2 (v := (-9223372036854775808)) hx hb hown (hts (.constantLong RX12 181 (-9223372036854775808)) kc_mOdds_3) dX12_odds_58 ?_
              rw [hQ]
              have hP9 := hP.sub (ws' := [(zo14irriiiiiirriirrrrlriiii m0 th aS aI im ac sp en wg op aB aT se dn aG aO aN aD bv aY rn kd nu tv), (zaI aS cS 901 fS), (zaI aB cB 6 fB), (zaI aT cT 64 fT), (zaL aO cO 36 fO), (zaL aN cN 36 fN), (zaI aD cD 36 fD)]) [0, 1, 2, 3, 4, 5, 6] rfl
              have hD9 := hD.sub (ws' := [(zo14irriiiiiirriirrrrlriiii m0 th aS aI im ac sp en wg op aB aT se dn aG aO aN aD bv aY rn kd nu tv), (zaI aS cS 901 fS), (zaI aB cB 6 fB), (zaI aT cT 64 fT), (zaL aO cO 36 fO), (zaL aN cN 36 fN), (zaI aD cD 36 fD)]) [0, 1, 2, 3, 4, 5, 6] (by decide) rfl
              have hK9 := hK.sub (tys' := [(cS, .int), (cB, .int), (cT, .boolean), (cO, .long), (cN, .long), (cD, .int)]) [0, 1, 2, 3, 4, 5] rfl
              exact W.lret (v := (-9223372036854775808)) hx hb hr (fun tQ htQ hWQ => ⟨⟨(-9223372036854775808), (fB, fT, se, dn, fD, fO, fN), rfl, trivial, by rw [htQ]; exact hP9, va_K.moved hWQ.alike hK9, hD9⟩, hS.F htQ⟩) hS.2.2 dX12_odds_61
      · skip
        refine lv_if_eq (tgt := 58) hx hb dX12_odds_28 (by decide) (fun _ => ?_) (fun c_221 => absurd c_221 (by decide))
        refine lv_ldc2 (v := (-9223372036854775808)) hx hb hown (hts (.constantLong RX12 181 (-9223372036854775808)) kc_mOdds_3) dX12_odds_58 ?_
        rw [hQ]
        have hP9 := hP.sub (ws' := [(zo14irriiiiiirriirrrrlriiii m0 th aS aI im ac sp en wg op aB aT se dn aG aO aN aD bv aY rn kd nu tv), (zaI aS cS 901 fS), (zaI aB cB 6 fB), (zaI aT cT 64 fT), (zaL aO cO 36 fO), (zaL aN cN 36 fN), (zaI aD cD 36 fD)]) [0, 1, 2, 3, 4, 5, 6] rfl
        have hD9 := hD.sub (ws' := [(zo14irriiiiiirriirrrrlriiii m0 th aS aI im ac sp en wg op aB aT se dn aG aO aN aD bv aY rn kd nu tv), (zaI aS cS 901 fS), (zaI aB cB 6 fB), (zaI aT cT 64 fT), (zaL aO cO 36 fO), (zaL aN cN 36 fN), (zaI aD cD 36 fD)]) [0, 1, 2, 3, 4, 5, 6] (by decide) rfl
        have hK9 := hK.sub (tys' := [(cS, .int), (cB, .int), (cT, .boolean), (cO, .long), (cN, .long), (cD, .int)]) [0, 1, 2, 3, 4, 5] rfl
        exact W.lret (v := (-9223372036854775808)) hx hb hr (fun tQ htQ hWQ => ⟨⟨(-9223372036854775808), (fB, fT, se, dn, fD, fO, fN), rfl, trivial, by rw [htQ]; exact hP9, va_K.moved hWQ.alike hK9, hD9⟩, hS.F htQ⟩) hS.2.2 dX12_odds_61
    · skip
      refine lv_if_eq (tgt := 21) hx hb dX12_odds_14 (by decide) (fun _ => ?_) (fun c_222 => absurd c_222 (by decide))
      refine lv_iconst (v := 0) hx hb dX12_odds_21 (by decide) ?_
      refine lv_istore (lv' := [(4, .int 0), (0, .ref m0), (1, .int x), (2, .int y), (3, .int z)]) hx hb dX12_odds_22 hl (by decide) rfl (fun ls hl => ?_)
      refine lv_iload_n hx hb dX12_odds_24 rfl (lv_at hl 2 rfl) ?_
      refine vp_callSi (va_runS (As := [.int x]) (rest := []) ⟨hx, hb, hml, hown, hts⟩ (c_mCell l dC dI x) (va_cwS 1 hts gX12_odds_X12_isCell rfl rfl rfl hd_yX12_isCell.2 ⟨Nat.le_of_ble_eq_true rfl, Nat.le_of_ble_eq_true rfl⟩) ⟨fun a U g mk q => ⟨q.1, trivial⟩, fun U hU hW => ⟨rfl, trivial⟩⟩ rfl rfl hl.1 rfl (lv_room (Nat.le_of_ble_eq_true rfl)) dX12_odds_25 ⟨Nat.le_of_ble_eq_true rfl, Nat.le_of_ble_eq_true rfl⟩).run (fun r_223 hw_224 => ?_)
      rcases hw_224 with ⟨rfl, h_225, h_226⟩ | ⟨rfl, h_227⟩
      · skip
        obtain ⟨j_228, hj_229, rfl⟩ := nI_of2 (n := 35) (M := 35) rfl h_225 (Int32.not_lt.mp h_226)
        refine lv_if_eq (tgt := 58) hx hb dX12_odds_28 (by decide) (fun c_230 => absurd c_230 (by decide)) (fun _ => ?_)
        refine lv_iload_n hx hb dX12_odds_31 rfl (lv_at hl 3 rfl) ?_
        refine vp_callSi (va_runS (As := [.int y]) (rest := []) ⟨hx, hb, hml, hown, hts⟩ (c_mCell l dC dI y) (va_cwS 1 hts gX12_odds_X12_isCell rfl rfl rfl hd_yX12_isCell.2 ⟨Nat.le_of_ble_eq_true rfl, Nat.le_of_ble_eq_true rfl⟩) ⟨fun a U g mk q => ⟨q.1, trivial⟩, fun U hU hW => ⟨rfl, trivial⟩⟩ rfl rfl hl.1 rfl (lv_room (Nat.le_of_ble_eq_true rfl)) dX12_odds_32 ⟨Nat.le_of_ble_eq_true rfl, Nat.le_of_ble_eq_true rfl⟩).run (fun r_231 hw_232 => ?_)
        rcases hw_232 with ⟨rfl, h_233, h_234⟩ | ⟨rfl, h_235⟩
        · skip
          obtain ⟨j_236, hj_237, rfl⟩ := nI_of2 (n := 35) (M := 35) rfl h_233 (Int32.not_lt.mp h_234)
          refine lv_if_ne (tgt := 49) hx hb dX12_odds_35 (by decide) (fun _ => ?_) (fun c_238 => absurd c_238 (by decide))
          refine lv_iload_n hx hb dX12_odds_49 rfl (lv_at hl 4 rfl) ?_
          refine lv_iconst (v := 0) hx hb dX12_odds_50 (by decide) ?_
          refine lv_iconst (v := 1) hx hb dX12_odds_51 (by decide) ?_
          refine vp_callSi (va_runS (As := [.int z, .int 0, .int 1]) (rest := []) ⟨hx, hb, hml, hown, hts⟩ (c_in l dC dI z 0 1) (va_cwS 3 hts gX12_odds_X12_in rfl rfl rfl hd_yX12_in.2 ⟨Nat.le_of_ble_eq_true rfl, Nat.le_of_ble_eq_true rfl⟩) ⟨fun a U g mk q => ⟨q.1, trivial⟩, fun U hU hW => ⟨rfl, trivial⟩⟩ rfl rfl hl.1 rfl (lv_room (Nat.le_of_ble_eq_true rfl)) dX12_odds_52 ⟨Nat.le_of_ble_eq_true rfl, Nat.le_of_ble_eq_true rfl⟩).run (fun r_239 hw_240 => ?_)
          rcases hw_240 with ⟨rfl, h_241, h_242⟩ | ⟨rfl, h_243⟩
          · skip
            obtain ⟨j_244, hj_245, rfl⟩ := nI_of2 (n := 1) (M := 1) rfl h_241 (Int32.not_lt.mp h_242)
            refine lv_if_ne (tgt := 62) hx hb dX12_odds_55 (by decide) (fun _ => ?_) (fun c_246 => absurd c_246 (by decide))
            refine lv_aload_n hx hb dX12_odds_62 rfl (lv_at hl 1 rfl) ?_
            have hPc := hP.sub (ws' := [(zo14irriiiiiirriirrrrlriiii m0 th aS aI im ac sp en wg op aB aT se dn aG aO aN aD bv aY rn kd nu tv), (zaI aS cS 901 fS), (zaI aB cB 6 fB), (zaI aT cT 64 fT), (zaI aD cD 36 fD)]) [0, 1, 2, 3, 6] rfl
            have hDc := hD.sub (ws' := [(zo14irriiiiiirriirrrrlriiii m0 th aS aI im ac sp en wg op aB aT se dn aG aO aN aD bv aY rn kd nu tv), (zaI aS cS 901 fS), (zaI aB cB 6 fB), (zaI aT cT 64 fT), (zaI aD cD 36 fD)]) [0, 1, 2, 3, 6] (by decide) rfl
            have hKc := hK.sub (tys' := [(cS, .int), (cB, .int), (cT, .boolean), (cD, .int)]) [0, 1, 2, 5] rfl
            have hFc := va_free (wc := [(zo14irriiiiiirriirrrrlriiii m0 th aS aI im ac sp en wg op aB aT se dn aG aO aN aD bv aY rn kd nu tv), (zaI aS cS 901 fS), (zaI aB cB 6 fB), (zaI aT cT 64 fT), (zaI aD cD 36 fD)]) hD hS hA [0, 1, 2, 3, 6] rfl
            refine va_callv (va_runV (As := []) (rest := []) ⟨hx, hb, hml, hown, hts⟩ (c_lookDrifts l dC dI m0 aS aI aB aT aG aO aN aD aY th im ac sp en wg op se dn rn kd nu tv bv cS cB cT cD fS fB fT fD cz H.size (zh)) (cwV 0 hts gX12_odds_X12_looksForDrifts rfl rfl rfl hd_yX12_looksForDrifts ⟨Nat.le_of_ble_eq_true rfl, Nat.le_of_ble_eq_true rfl⟩) ⟨fun a U g mk q => by obtain ⟨q0, q1, qP, qK, qD⟩ := q; exact ⟨q0, q1, qP, va_K.moved (u := U) (U := U.calling g mk a) (Vm.Alike.refl U.vm) qK, qD⟩, va_recv hK hP (ci := 14) (q := (RX12, TX12, 23)) (q0 := 0) rfl rfl, fun U hU hW => ⟨rfl, by rw [hU], by rw [hU]; exact hPc, va_K.moved hW.alike hKc, hDc.weaken (fun _ _ _ _ => trivial)⟩⟩ rfl rfl hl.1 rfl (lv_room (Nat.le_of_ble_eq_true rfl)) dX12_odds_63 ⟨Nat.le_of_ble_eq_true rfl, Nat.le_of_ble_eq_true rfl⟩) hS (fun q _ h => hFc q h) hFc (fun u tC H1 locs htC hvm hw_248 hB hz1 hk1 hS => ?_)
            obtain ⟨fB9_249, fT9_250, se9_251, dn9_252, fD9_253⟩ := u
            try dsimp only at hw_248 hB
            obtain ⟨hP1, hK1, hD1⟩ := hB
            rw [htC] at hP1
            have hK1 := va_K.moved hvm.symm hK1
            obtain ⟨hP, hD⟩ := va_join (wr := [(zaL aO cO 36 fO), (zaL aN cN 36 fN)]) (w1 := [(zo14irriiiiiirriirrrrlriiii m0 th aS aI im ac sp en wg op aB aT se9_251 dn9_252 aG aO aN aD bv aY rn kd nu tv), (zaI aS cS 901 fS), (zaI aB cB 6 fB9_249), (zaI aT cT 64 fT9_250), (zaI aD cD 36 fD9_253)]) hP hD [0, 1, 2, 3, 6] [4, 5] rfl rfl (by decide) (by decide) hk1 hFc hP1 hD1
            have hK := (hK.sub (tys' := [(cO, .long), (cN, .long)]) [3, 4] rfl).app hK1
            generalize H1 = H at hP hS ⊢
            have hP : va_P (dC, dI) vwCl [(zaL aO cO 36 fO), (zaL aN cN 36 fN), (zo14irriiiiiirriirrrrlriiii m0 th aS aI im ac sp en wg op aB aT se9_251 dn9_252 aG aO aN aD bv aY rn kd nu tv), (zaI aS cS 901 fS), (zaI aB cB 6 fB9_249), (zaI aT cT 64 fT9_250), (zaI aD cD 36 fD9_253)] H := hP
            have hD : va_D A [(zaL aO cO 36 fO), (zaL aN cN 36 fN), (zo14irriiiiiirriirrrrlriiii m0 th aS aI im ac sp en wg op aB aT se9_251 dn9_252 aG aO aN aD bv aY rn kd nu tv), (zaI aS cS 901 fS), (zaI aB cB 6 fB9_249), (zaI aT cT 64 fT9_250), (zaI aD cD 36 fD9_253)] := hD
            have hK : va_K (dC, dI) vwCl [(cO, .long), (cN, .long), (cS, .int), (cB, .int), (cT, .boolean), (cD, .int)] s := hK
            refine lv_aload_n hx hb dX12_odds_66 rfl (lv_at hl 1 rfl) ?_
            refine lv_iload_n hx hb dX12_odds_67 rfl (lv_at hl 2 rfl) ?_
            have hPc := hP.sub (ws' := [(zo14irriiiiiirriirrrrlriiii m0 th aS aI im ac sp en wg op aB aT se9_251 dn9_252 aG aO aN aD bv aY rn kd nu tv), (zaL aO cO 36 fO)]) [2, 0] rfl
            have hDc := hD.sub (ws' := [(zo14irriiiiiirriirrrrlriiii m0 th aS aI im ac sp en wg op aB aT se9_251 dn9_252 aG aO aN aD bv aY rn kd nu tv), (zaL aO cO 36 fO)]) [2, 0] (by decide) rfl
            have hKc := hK.sub (tys' := [(cO, .long)]) [0] rfl
            have hFc := va_free (wc := [(zo14irriiiiiirriirrrrlriiii m0 th aS aI im ac sp en wg op aB aT se9_251 dn9_252 aG aO aN aD bv aY rn kd nu tv), (zaL aO cO 36 fO)]) hD hS hA [2, 0] rfl
            refine va_callv (va_runV (As := [.int (nI j_228)]) (rest := []) ⟨hx, hb, hml, hown, hts⟩ (c_begins l dC dI m0 aS aI aB aT aG aO aN aD aY th im ac sp en wg op se9_251 dn9_252 rn kd nu tv bv cO fO (nI j_228) H.size) (cwV 1 hts gX12_odds_X12_begins rfl rfl rfl hd_yX12_begins ⟨Nat.le_of_ble_eq_true rfl, Nat.le_of_ble_eq_true rfl⟩) ⟨fun a U g mk q => by obtain ⟨q0, q1, qP, qK, qD⟩ := q; exact ⟨q0, q1, qP, va_K.moved (u := U) (U := U.calling g mk a) (Vm.Alike.refl U.vm) qK, qD⟩, va_recv hK hP (ci := 14) (q := (RX12, TX12, 23)) (q0 := 2) rfl rfl, fun U hU hW => ⟨rfl, by rw [hU], by rw [hU]; exact hPc, va_K.moved hW.alike hKc, hDc.weaken (fun _ _ _ _ => trivial)⟩⟩ rfl rfl hl.1 rfl (lv_room (Nat.le_of_ble_eq_true rfl)) dX12_odds_68 ⟨Nat.le_of_ble_eq_true rfl, Nat.le_of_ble_eq_true rfl⟩) hS (fun q _ h => hFc q h) hFc (fun u tC H1 locs htC hvm hw_255 hB hz1 hk1 hS => ?_)
            obtain ⟨fO9_256, rfl⟩ : ∃ z, z = u := ⟨_, rfl⟩
            try dsimp only at hw_255 hB
            obtain ⟨hP1, hK1, hD1⟩ := hB
            rw [htC] at hP1
            have hK1 := va_K.moved hvm.symm hK1
            obtain ⟨hP, hD⟩ := va_join (wr := [(zaL aN cN 36 fN), (zaI aS cS 901 fS), (zaI aB cB 6 fB9_249), (zaI aT cT 64 fT9_250), (zaI aD cD 36 fD9_253)]) (w1 := [(zo14irriiiiiirriirrrrlriiii m0 th aS aI im ac sp en wg op aB aT se9_251 dn9_252 aG aO aN aD bv aY rn kd nu tv), (zaL aO cO 36 fO9_256)]) hP hD [2, 0] [1, 3, 4, 5, 6] rfl rfl (by decide) (by decide) hk1 hFc hP1 hD1
            have hK := (hK.sub (tys' := [(cN, .long), (cS, .int), (cB, .int), (cT, .boolean), (cD, .int)]) [1, 2, 3, 4, 5] rfl).app hK1
            generalize H1 = H at hP hS ⊢
            have hP : va_P (dC, dI) vwCl [(zaL aN cN 36 fN), (zaI aS cS 901 fS), (zaI aB cB 6 fB9_249), (zaI aT cT 64 fT9_250), (zaI aD cD 36 fD9_253), (zo14irriiiiiirriirrrrlriiii m0 th aS aI im ac sp en wg op aB aT se9_251 dn9_252 aG aO aN aD bv aY rn kd nu tv), (zaL aO cO 36 fO9_256)] H := hP
            have hD : va_D A [(zaL aN cN 36 fN), (zaI aS cS 901 fS), (zaI aB cB 6 fB9_249), (zaI aT cT 64 fT9_250), (zaI aD cD 36 fD9_253), (zo14irriiiiiirriirrrrlriiii m0 th aS aI im ac sp en wg op aB aT se9_251 dn9_252 aG aO aN aD bv aY rn kd nu tv), (zaL aO cO 36 fO9_256)] := hD
            have hK : va_K (dC, dI) vwCl [(cN, .long), (cS, .int), (cB, .int), (cT, .boolean), (cD, .int), (cO, .long)] s := hK
            refine lv_iconst (v := 0) hx hb dX12_odds_71 (by decide) ?_
            refine lv_istore (lv' := [(5, .int 0), (4, .int 0), (0, .ref m0), (1, .int (nI j_228)), (2, .int (nI j_236)), (3, .int (nI j_244))]) hx hb dX12_odds_72 hl (by decide) rfl (fun ls hl => ?_)
            have L74 : ∀ (nF : Nat) (i : Nat) (fO2 : Nat → Int64) (fN2 : Nat → Int64), wk - i < nF → (i ≤ wk) → ∀ (H : Heap) (locs : List Loc), va_K (dC, dI) vwCl [(cS, .int), (cB, .int), (cT, .boolean), (cO, .long), (cN, .long), (cD, .int)] s → va_P (dC, dI) vwCl [(zo14irriiiiiirriirrrrlriiii m0 th aS aI im ac sp en wg op aB aT se9_251 dn9_252 aG aO aN aD bv aY rn kd nu tv), (zaI aS cS 901 fS), (zaI aB cB 6 fB9_249), (zaI aT cT 64 fT9_250), (zaL aO cO 36 fO2), (zaL aN cN 36 fN2), (zaI aD cD 36 fD9_253)] H → va_D A [(zo14irriiiiiirriirrrrlriiii m0 th aS aI im ac sp en wg op aB aT se9_251 dn9_252 aG aO aN aD bv aY rn kd nu tv), (zaI aS cS 901 fS), (zaI aB cB 6 fB9_249), (zaI aT cT 64 fT9_250), (zaL aO cO 36 fO2), (zaL aN cN 36 fN2), (zaI aD cD 36 fD9_253)] → va_S A s.heap H locs → ∀ (ls : Array Slot), lv_has ls 7 [(0, .ref m0), (1, .int (nI j_228)), (2, .int (nI j_236)), (3, .int (nI j_244)), (4, .int 0), (5, .int (nI i))] → W p l e ({ frames := 4, cells := 0, slots := 0, locals := 101 } : Room) s m args below meth c H locs 0 0 Q (F0 m 74 ls []) := by
              intro nF
              induction nF with
              | zero => intro i fO2 fN2 hm; exact absurd hm (Nat.not_lt_zero _)
              | succ nF ih74 =>
                intro i fO2 fN2 hm hii H locs hK hP hD hS ls hl
                refine lv_iload hx hb dX12_odds_74 (lv_at hl 5 rfl) ?_
                refine lv_aload_n hx hb dX12_odds_76 rfl (lv_at hl 0 rfl) ?_
                refine va_get (D := (dC, dI)) (ci := 14) (v := .ref aS) (C := RX12) (T := TX12) (N := 23) hx hb hts kc_mOdds_0 hown hK hP 0 rfl rfl 1 (by decide) (hts (.fieldLink RX12 9 "MistHeapsModel" "s" "[I") kc_mOdds_1) (fun _ h9 => h9) rfl dX12_odds_77 ?_
                refine lv_iconst (v := 2) hx hb dX12_odds_80 (by decide) ?_
                refine va_iald hx hb hK hP 1 0 rfl rfl (vp_in_nI (n := 2) (N := 901) (by omega) (by omega)) dX12_odds_81 ?_
                refine qi_as (y := nI wk) ((show fS (2 : Int32).toNatClampNeg = fS 2 from rfl).trans (zw)) ?_
                refine lv_icmp_ge (tgt := 105) hx hb dX12_odds_82 (by decide) (fun c_257 => ?_) (fun c_257 => ?_)
                · skip
                  have c_257 : wk ≤ i := (nI_leI (a := wk) (b := i) (by omega) (by omega)).mp c_257
                  refine lv_iload hx hb dX12_odds_105 (lv_at hl 4 rfl) ?_
                  refine lv_if_eq (tgt := 121) hx hb dX12_odds_107 (by decide) (fun _ => ?_) (fun c_258 => absurd c_258 (by decide))
                  refine lv_iload_n hx hb dX12_odds_121 rfl (lv_at hl 2 rfl) ?_
                  refine lv_bipush (v := 40) hx hb dX12_odds_122 (by decide) ?_
                  refine lv_icmp_ne (tgt := 134) hx hb dX12_odds_124 (by decide) (fun c_259 => ?_) (fun c_259 => ?_)
                  · skip
                    have c_259 : ¬ j_236 = 40 := fun q => c_259 ((nI_eq (a := j_236) (b := 40) (by omega) (by omega)).mpr q)
                    refine lv_aload_n hx hb dX12_odds_134 rfl (lv_at hl 0 rfl) ?_
                    refine va_get (D := (dC, dI)) (ci := 14) (v := .ref aO) (C := RX12) (T := TX12) (N := 23) hx hb hts kc_mOdds_0 hown hK hP 0 rfl rfl 14 (by decide) (hts (.fieldLink RX12 28 "MistHeapsModel" "often" "[J") kc_mOdds_2) (fun _ h9 => h9) rfl dX12_odds_135 ?_
                    refine lv_iload_n hx hb dX12_odds_138 rfl (lv_at hl 2 rfl) ?_
                    refine va_lald hx hb hK hP 4 3 rfl rfl (vp_in_nI (n := j_236) (N := 36) (by omega) (by omega)) dX12_odds_139 ?_
                    refine ql_as (y := fO2 j_236) (by rw [nI_clamp (by omega)]) ?_
                    refine lv_lstore (lv' := [(5, .long (fO2 j_236)), (0, .ref m0), (1, .int (nI j_228)), (2, .int (nI j_236)), (3, .int (nI j_244)), (4, .int 0)]) hx hb dX12_odds_140 hl (by decide) rfl (fun ls hl => ?_)
                    refine lv_lload hx hb dX12_odds_142 (lv_at hl 0 rfl) ?_
                    refine lv_aload_n hx hb dX12_odds_144 rfl (lv_at hl 1 rfl) ?_
                    refine va_get (D := (dC, dI)) (ci := 14) (v := .ref aS) (C := RX12) (T := TX12) (N := 23) hx hb hts kc_mOdds_0 hown hK hP 0 rfl rfl 1 (by decide) (hts (.fieldLink RX12 9 "MistHeapsModel" "s" "[I") kc_mOdds_1) (fun _ h9 => h9) rfl dX12_odds_145 ?_
                    refine lv_iconst (v := 2) hx hb dX12_odds_148 (by decide) ?_
                    refine va_iald hx hb hK hP 1 0 rfl rfl (vp_in_nI (n := 2) (N := 901) (by omega) (by omega)) dX12_odds_149 ?_
                    refine qi_as (y := nI wk) ((show fS (2 : Int32).toNatClampNeg = fS 2 from rfl).trans (zw)) ?_
                    refine vp_callSl (va_runS (As := [.int (nI wk)]) (rest := [.long (fO2 j_236)]) ⟨hx, hb, hml, hown, hts⟩ (c_twenties l dC dI wk (by omega)) (va_cwS 1 hts gX12_odds_X12_twenties rfl rfl rfl hd_yX12_twenties.2 ⟨Nat.le_of_ble_eq_true rfl, Nat.le_of_ble_eq_true rfl⟩) ⟨fun a U g mk q => ⟨q.1, trivial⟩, fun U hU hW => ⟨rfl, trivial⟩⟩ rfl rfl hl.1 rfl (lv_room (Nat.le_of_ble_eq_true rfl)) dX12_odds_150 ⟨Nat.le_of_ble_eq_true rfl, Nat.le_of_ble_eq_true rfl⟩).run (fun r_260 hw_261 => ?_)
                    refine lv_iload_n hx hb dX12_odds_153 rfl (lv_at hl 4 rfl) ?_
                    refine vp_callSl (va_runS (As := [.long (fO2 j_236), .long r_260, .int (nI j_244)]) (rest := []) ⟨hx, hb, hml, hown, hts⟩ (c_lowest l dC dI (fO2 j_236) r_260 (nI j_244) hw_261) (va_cwS 3 hts gX12_odds_X12_lowest rfl rfl rfl hd_yX12_lowest.2 ⟨Nat.le_of_ble_eq_true rfl, Nat.le_of_ble_eq_true rfl⟩) ⟨fun a U g mk q => ⟨q.1, trivial⟩, fun U hU hW => ⟨rfl, trivial⟩⟩ rfl rfl hl.1 rfl (lv_room (Nat.le_of_ble_eq_true rfl)) dX12_odds_154 ⟨Nat.le_of_ble_eq_true rfl, Nat.le_of_ble_eq_true rfl⟩).run (fun r_262 hw_263 => ?_)
                    rw [hQ]
                    have hP9 := hP.sub (ws' := [(zo14irriiiiiirriirrrrlriiii m0 th aS aI im ac sp en wg op aB aT se9_251 dn9_252 aG aO aN aD bv aY rn kd nu tv), (zaI aS cS 901 fS), (zaI aB cB 6 fB9_249), (zaI aT cT 64 fT9_250), (zaL aO cO 36 fO2), (zaL aN cN 36 fN2), (zaI aD cD 36 fD9_253)]) [0, 1, 2, 3, 4, 5, 6] rfl
                    have hD9 := hD.sub (ws' := [(zo14irriiiiiirriirrrrlriiii m0 th aS aI im ac sp en wg op aB aT se9_251 dn9_252 aG aO aN aD bv aY rn kd nu tv), (zaI aS cS 901 fS), (zaI aB cB 6 fB9_249), (zaI aT cT 64 fT9_250), (zaL aO cO 36 fO2), (zaL aN cN 36 fN2), (zaI aD cD 36 fD9_253)]) [0, 1, 2, 3, 4, 5, 6] (by decide) rfl
                    have hK9 := hK.sub (tys' := [(cS, .int), (cB, .int), (cT, .boolean), (cO, .long), (cN, .long), (cD, .int)]) [0, 1, 2, 3, 4, 5] rfl
                    exact W.lret (v := r_262) hx hb hr (fun tQ htQ hWQ => ⟨⟨r_262, (fB9_249, fT9_250, se9_251, dn9_252, fD9_253, fO2, fN2), rfl, trivial, by rw [htQ]; exact hP9, va_K.moved hWQ.alike hK9, hD9⟩, hS.F htQ⟩) hS.2.2 dX12_odds_157
                  · skip
                    have c_259 : j_236 = 40 := (nI_eq (a := j_236) (b := 40) (by omega) (by omega)).mp c_259
                    refine lv_aload_n hx hb dX12_odds_127 rfl (lv_at hl 0 rfl) ?_
                    have hPc := hP.sub (ws' := [(zo14irriiiiiirriirrrrlriiii m0 th aS aI im ac sp en wg op aB aT se9_251 dn9_252 aG aO aN aD bv aY rn kd nu tv), (zaI aS cS 901 fS), (zaL aO cO 36 fO2)]) [0, 1, 4] rfl
                    have hKc := hK.sub (tys' := [(cS, .int), (cO, .long)]) [0, 3] rfl
                    refine vp_callSl (va_runV (As := []) (rest := []) ⟨hx, hb, hml, hown, hts⟩ (c_over l dC dI m0 aS aI aB aT aG aO aN aD aY th im ac sp en wg op se9_251 dn9_252 rn kd nu tv bv cS cO fS fO2) (cwV 0 hts gX12_odds_X12_over rfl rfl rfl hd_yX12_over ⟨Nat.le_of_ble_eq_true rfl, Nat.le_of_ble_eq_true rfl⟩) ⟨fun a U g mk q => by obtain ⟨q0, qP, qK⟩ := q; exact ⟨q0, qP, va_K.moved (u := U) (U := U.calling g mk a) (Vm.Alike.refl U.vm) qK⟩, va_recv hK hP (ci := 14) (q := (RX12, TX12, 23)) (q0 := 0) rfl rfl, fun U hU hW => ⟨rfl, by rw [hU]; exact hPc, va_K.moved hW.alike hKc⟩⟩ rfl rfl hl.1 rfl (lv_room (Nat.le_of_ble_eq_true rfl)) dX12_odds_128 ⟨Nat.le_of_ble_eq_true rfl, Nat.le_of_ble_eq_true rfl⟩).run (fun r_264 hw_265 => ?_)
                    refine lv_goto (tgt := 140) hx hb dX12_odds_131 (by decide) ?_
                    refine lv_lstore (lv' := [(5, .long r_264), (0, .ref m0), (1, .int (nI j_228)), (2, .int (nI j_236)), (3, .int (nI j_244)), (4, .int 0)]) hx hb dX12_odds_140 hl (by decide) rfl (fun ls hl => ?_)
                    refine lv_lload hx hb dX12_odds_142 (lv_at hl 0 rfl) ?_
                    refine lv_aload_n hx hb dX12_odds_144 rfl (lv_at hl 1 rfl) ?_
                    refine va_get (D := (dC, dI)) (ci := 14) (v := .ref aS) (C := RX12) (T := TX12) (N := 23) hx hb hts kc_mOdds_0 hown hK hP 0 rfl rfl 1 (by decide) (hts (.fieldLink RX12 9 "MistHeapsModel" "s" "[I") kc_mOdds_1) (fun _ h9 => h9) rfl dX12_odds_145 ?_
                    refine lv_iconst (v := 2) hx hb dX12_odds_148 (by decide) ?_
                    refine va_iald hx hb hK hP 1 0 rfl rfl (vp_in_nI (n := 2) (N := 901) (by omega) (by omega)) dX12_odds_149 ?_
                    refine qi_as (y := nI wk) ((show fS (2 : Int32).toNatClampNeg = fS 2 from rfl).trans (zw)) ?_
                    refine vp_callSl (va_runS (As := [.int (nI wk)]) (rest := [.long r_264]) ⟨hx, hb, hml, hown, hts⟩ (c_twenties l dC dI wk (by omega)) (va_cwS 1 hts gX12_odds_X12_twenties rfl rfl rfl hd_yX12_twenties.2 ⟨Nat.le_of_ble_eq_true rfl, Nat.le_of_ble_eq_true rfl⟩) ⟨fun a U g mk q => ⟨q.1, trivial⟩, fun U hU hW => ⟨rfl, trivial⟩⟩ rfl rfl hl.1 rfl (lv_room (Nat.le_of_ble_eq_true rfl)) dX12_odds_150 ⟨Nat.le_of_ble_eq_true rfl, Nat.le_of_ble_eq_true rfl⟩).run (fun r_266 hw_267 => ?_)
                    refine lv_iload_n hx hb dX12_odds_153 rfl (lv_at hl 4 rfl) ?_
                    refine vp_callSl (va_runS (As := [.long r_264, .long r_266, .int (nI j_244)]) (rest := []) ⟨hx, hb, hml, hown, hts⟩ (c_lowest l dC dI r_264 r_266 (nI j_244) hw_267) (va_cwS 3 hts gX12_odds_X12_lowest rfl rfl rfl hd_yX12_lowest.2 ⟨Nat.le_of_ble_eq_true rfl, Nat.le_of_ble_eq_true rfl⟩) ⟨fun a U g mk q => ⟨q.1, trivial⟩, fun U hU hW => ⟨rfl, trivial⟩⟩ rfl rfl hl.1 rfl (lv_room (Nat.le_of_ble_eq_true rfl)) dX12_odds_154 ⟨Nat.le_of_ble_eq_true rfl, Nat.le_of_ble_eq_true rfl⟩).run (fun r_268 hw_269 => ?_)
                    rw [hQ]
                    have hP9 := hP.sub (ws' := [(zo14irriiiiiirriirrrrlriiii m0 th aS aI im ac sp en wg op aB aT se9_251 dn9_252 aG aO aN aD bv aY rn kd nu tv), (zaI aS cS 901 fS), (zaI aB cB 6 fB9_249), (zaI aT cT 64 fT9_250), (zaL aO cO 36 fO2), (zaL aN cN 36 fN2), (zaI aD cD 36 fD9_253)]) [0, 1, 2, 3, 4, 5, 6] rfl
                    have hD9 := hD.sub (ws' := [(zo14irriiiiiirriirrrrlriiii m0 th aS aI im ac sp en wg op aB aT se9_251 dn9_252 aG aO aN aD bv aY rn kd nu tv), (zaI aS cS 901 fS), (zaI aB cB 6 fB9_249), (zaI aT cT 64 fT9_250), (zaL aO cO 36 fO2), (zaL aN cN 36 fN2), (zaI aD cD 36 fD9_253)]) [0, 1, 2, 3, 4, 5, 6] (by decide) rfl
                    have hK9 := hK.sub (tys' := [(cS, .int), (cB, .int), (cT, .boolean), (cO, .long), (cN, .long), (cD, .int)]) [0, 1, 2, 3, 4, 5] rfl
                    exact W.lret (v := r_268) hx hb hr (fun tQ htQ hWQ => ⟨⟨r_268, (fB9_249, fT9_250, se9_251, dn9_252, fD9_253, fO2, fN2), rfl, trivial, by rw [htQ]; exact hP9, va_K.moved hWQ.alike hK9, hD9⟩, hS.F htQ⟩) hS.2.2 dX12_odds_157
                · skip
                  have c_257 : ¬ wk ≤ i := fun q => c_257 ((nI_leI (a := wk) (b := i) (by omega) (by omega)).mpr q)
                  refine lv_aload_n hx hb dX12_odds_85 rfl (lv_at hl 0 rfl) ?_
                  refine lv_aload_n hx hb dX12_odds_86 rfl (lv_at hl 0 rfl) ?_
                  refine va_get (D := (dC, dI)) (ci := 14) (v := .ref aS) (C := RX12) (T := TX12) (N := 23) hx hb hts kc_mOdds_0 hown hK hP 0 rfl rfl 1 (by decide) (hts (.fieldLink RX12 9 "MistHeapsModel" "s" "[I") kc_mOdds_1) (fun _ h9 => h9) rfl dX12_odds_87 ?_
                  refine lv_bipush (v := 73) hx hb dX12_odds_90 (by decide) ?_
                  refine lv_iload hx hb dX12_odds_92 (lv_at hl 5 rfl) ?_
                  refine lv_iadd hx hb dX12_odds_94 ?_
                  refine qi_as (y := nI (73 + i)) (nI_add 73 i) ?_
                  refine va_iald hx hb hK hP 1 0 rfl rfl (vp_in_nI (n := 73 + i) (N := 901) (by omega) (by omega)) dX12_odds_95 ?_
                  refine qi_as (y := fS (73 + i)) (by rw [nI_clamp (by omega)]) ?_
                  have hPc := hP.sub (ws' := [(zo14irriiiiiirriirrrrlriiii m0 th aS aI im ac sp en wg op aB aT se9_251 dn9_252 aG aO aN aD bv aY rn kd nu tv), (zaI aS cS 901 fS), (zaL aO cO 36 fO2), (zaL aN cN 36 fN2), (zaI aD cD 36 fD9_253)]) [0, 1, 4, 5, 6] rfl
                  have hDc := hD.sub (ws' := [(zo14irriiiiiirriirrrrlriiii m0 th aS aI im ac sp en wg op aB aT se9_251 dn9_252 aG aO aN aD bv aY rn kd nu tv), (zaI aS cS 901 fS), (zaL aO cO 36 fO2), (zaL aN cN 36 fN2), (zaI aD cD 36 fD9_253)]) [0, 1, 4, 5, 6] (by decide) rfl
                  have hKc := hK.sub (tys' := [(cS, .int), (cO, .long), (cN, .long), (cD, .int)]) [0, 3, 4, 5] rfl
                  have hFc := va_free (wc := [(zo14irriiiiiirriirrrrlriiii m0 th aS aI im ac sp en wg op aB aT se9_251 dn9_252 aG aO aN aD bv aY rn kd nu tv), (zaI aS cS 901 fS), (zaL aO cO 36 fO2), (zaL aN cN 36 fN2), (zaI aD cD 36 fD9_253)]) hD hS hA [0, 1, 4, 5, 6] rfl
                  refine va_callv (va_runV (As := [.int (fS (73 + i))]) (rest := []) ⟨hx, hb, hml, hown, hts⟩ (c_goesOn l dC dI m0 aS aI aB aT aG aO aN aD aY th im ac sp en wg op se9_251 dn9_252 rn kd nu tv bv cS cO cN cD fS fO2 fN2 fD9_253 (fS (73 + i)) H.size) (cwV 1 hts gX12_odds_X12_goesOn rfl rfl rfl hd_yX12_goesOn ⟨Nat.le_of_ble_eq_true rfl, Nat.le_of_ble_eq_true rfl⟩) ⟨fun a U g mk q => by obtain ⟨q0, q1, qP, qK, qD⟩ := q; exact ⟨q0, q1, qP, va_K.moved (u := U) (U := U.calling g mk a) (Vm.Alike.refl U.vm) qK, qD⟩, va_recv hK hP (ci := 14) (q := (RX12, TX12, 23)) (q0 := 0) rfl rfl, fun U hU hW => ⟨rfl, by rw [hU], by rw [hU]; exact hPc, va_K.moved hW.alike hKc, hDc.weaken (fun _ _ _ _ => trivial)⟩⟩ rfl rfl hl.1 rfl (lv_room (Nat.le_of_ble_eq_true rfl)) dX12_odds_96 ⟨Nat.le_of_ble_eq_true rfl, Nat.le_of_ble_eq_true rfl⟩) hS (fun q _ h => hFc q h) hFc (fun u tC H1 locs htC hvm hw_271 hB hz1 hk1 hS => ?_)
                  obtain ⟨fO9_272, fN9_273⟩ := u
                  try dsimp only at hw_271 hB
                  obtain ⟨hP1, hK1, hD1⟩ := hB
                  rw [htC] at hP1
                  have hK1 := va_K.moved hvm.symm hK1
                  obtain ⟨hP, hD⟩ := va_join (wr := [(zaI aB cB 6 fB9_249), (zaI aT cT 64 fT9_250)]) (w1 := [(zo14irriiiiiirriirrrrlriiii m0 th aS aI im ac sp en wg op aB aT se9_251 dn9_252 aG aO aN aD bv aY rn kd nu tv), (zaI aS cS 901 fS), (zaL aO cO 36 fO9_272), (zaL aN cN 36 fN9_273), (zaI aD cD 36 fD9_253)]) hP hD [0, 1, 4, 5, 6] [2, 3] rfl rfl (by decide) (by decide) hk1 hFc hP1 hD1
                  have hK := (hK.sub (tys' := [(cB, .int), (cT, .boolean)]) [1, 2] rfl).app hK1
                  generalize H1 = H at hP hS ⊢
                  have hP : va_P (dC, dI) vwCl [(zaI aB cB 6 fB9_249), (zaI aT cT 64 fT9_250), (zo14irriiiiiirriirrrrlriiii m0 th aS aI im ac sp en wg op aB aT se9_251 dn9_252 aG aO aN aD bv aY rn kd nu tv), (zaI aS cS 901 fS), (zaL aO cO 36 fO9_272), (zaL aN cN 36 fN9_273), (zaI aD cD 36 fD9_253)] H := hP
                  have hD : va_D A [(zaI aB cB 6 fB9_249), (zaI aT cT 64 fT9_250), (zo14irriiiiiirriirrrrlriiii m0 th aS aI im ac sp en wg op aB aT se9_251 dn9_252 aG aO aN aD bv aY rn kd nu tv), (zaI aS cS 901 fS), (zaL aO cO 36 fO9_272), (zaL aN cN 36 fN9_273), (zaI aD cD 36 fD9_253)] := hD
                  have hK : va_K (dC, dI) vwCl [(cB, .int), (cT, .boolean), (cS, .int), (cO, .long), (cN, .long), (cD, .int)] s := hK
                  refine lv_iinc (v := nI (i + 1)) (lv' := [(5, .int (nI (i + 1))), (0, .ref m0), (1, .int (nI j_228)), (2, .int (nI j_236)), (3, .int (nI j_244)), (4, .int 0)]) hx hb dX12_odds_99 hl (k := 5) rfl (nI_add i 1) (by decide) rfl (fun ls hl => ?_)
                  refine lv_goto (tgt := 74) hx hb dX12_odds_102 (by decide) ?_
                  exact ih74 (i + 1) _ _ (by omega) (by omega) _ _ (hK.sub [2, 0, 1, 3, 4, 5] rfl) (hP.sub [2, 3, 0, 1, 4, 5, 6] rfl) (hD.sub [2, 3, 0, 1, 4, 5, 6] (by decide) rfl) hS ls (lv_sub hl [1, 2, 3, 4, 5, 0] rfl)
            exact L74 _ (0) _ _ (Nat.lt_succ_self _) (by omega) _ _ (hK.sub [1, 2, 3, 5, 0, 4] rfl) (hP.sub [5, 1, 2, 3, 6, 0, 4] rfl) (hD.sub [5, 1, 2, 3, 6, 0, 4] (by decide) rfl) hS ls (lv_sub hl [2, 3, 4, 5, 1, 0] rfl)
          · skip
            refine lv_if_ne (tgt := 62) hx hb dX12_odds_55 (by decide) (fun c_274 => absurd c_274 (by decide)) (fun _ => ?_)
            refine lv_ldc2 (v := (-9223372036854775808)) hx hb hown (hts (.constantLong RX12 181 (-9223372036854775808)) kc_mOdds_3) dX12_odds_58 ?_
            rw [hQ]
            have hP9 := hP.sub (ws' := [(zo14irriiiiiirriirrrrlriiii m0 th aS aI im ac sp en wg op aB aT se dn aG aO aN aD bv aY rn kd nu tv), (zaI aS cS 901 fS), (zaI aB cB 6 fB), (zaI aT cT 64 fT), (zaL aO cO 36 fO), (zaL aN cN 36 fN), (zaI aD cD 36 fD)]) [0, 1, 2, 3, 4, 5, 6] rfl
            have hD9 := hD.sub (ws' := [(zo14irriiiiiirriirrrrlriiii m0 th aS aI im ac sp en wg op aB aT se dn aG aO aN aD bv aY rn kd nu tv), (zaI aS cS 901 fS), (zaI aB cB 6 fB), (zaI aT cT 64 fT), (zaL aO cO 36 fO), (zaL aN cN 36 fN), (zaI aD cD 36 fD)]) [0, 1, 2, 3, 4, 5, 6] (by decide) rfl
            have hK9 := hK.sub (tys' := [(cS, .int), (cB, .int), (cT, .boolean), (cO, .long), (cN, .long), (cD, .int)]) [0, 1, 2, 3, 4, 5] rfl
            exact W.lret (v := (-9223372036854775808)) hx hb hr (fun tQ htQ hWQ => ⟨⟨(-9223372036854775808), (fB, fT, se, dn, fD, fO, fN), rfl, trivial, by rw [htQ]; exact hP9, va_K.moved hWQ.alike hK9, hD9⟩, hS.F htQ⟩) hS.2.2 dX12_odds_61
        · skip
          refine lv_if_ne (tgt := 49) hx hb dX12_odds_35 (by decide) (fun c_275 => absurd c_275 (by decide)) (fun _ => ?_)
          refine lv_iload_n hx hb dX12_odds_38 rfl (lv_at hl 3 rfl) ?_
          refine lv_bipush (v := 40) hx hb dX12_odds_39 (by decide) ?_
          refine lv_icmp_eq (tgt := 49) hx hb dX12_odds_41 (by decide) (fun c_276 => ?_) (fun c_276 => ?_)
          · skip
            refine lv_iload_n hx hb dX12_odds_49 rfl (lv_at hl 4 rfl) ?_
            refine lv_iconst (v := 0) hx hb dX12_odds_50 (by decide) ?_
            refine lv_iconst (v := 1) hx hb dX12_odds_51 (by decide) ?_
            refine vp_callSi (va_runS (As := [.int z, .int 0, .int 1]) (rest := []) ⟨hx, hb, hml, hown, hts⟩ (c_in l dC dI z 0 1) (va_cwS 3 hts gX12_odds_X12_in rfl rfl rfl hd_yX12_in.2 ⟨Nat.le_of_ble_eq_true rfl, Nat.le_of_ble_eq_true rfl⟩) ⟨fun a U g mk q => ⟨q.1, trivial⟩, fun U hU hW => ⟨rfl, trivial⟩⟩ rfl rfl hl.1 rfl (lv_room (Nat.le_of_ble_eq_true rfl)) dX12_odds_52 ⟨Nat.le_of_ble_eq_true rfl, Nat.le_of_ble_eq_true rfl⟩).run (fun r_277 hw_278 => ?_)
            rcases hw_278 with ⟨rfl, h_279, h_280⟩ | ⟨rfl, h_281⟩
            · skip
              obtain ⟨j_282, hj_283, rfl⟩ := nI_of2 (n := 1) (M := 1) rfl h_279 (Int32.not_lt.mp h_280)
              refine lv_if_ne (tgt := 62) hx hb dX12_odds_55 (by decide) (fun _ => ?_) (fun c_284 => absurd c_284 (by decide))
              refine lv_aload_n hx hb dX12_odds_62 rfl (lv_at hl 1 rfl) ?_
              have hPc := hP.sub (ws' := [(zo14irriiiiiirriirrrrlriiii m0 th aS aI im ac sp en wg op aB aT se dn aG aO aN aD bv aY rn kd nu tv), (zaI aS cS 901 fS), (zaI aB cB 6 fB), (zaI aT cT 64 fT), (zaI aD cD 36 fD)]) [0, 1, 2, 3, 6] rfl
              have hDc := hD.sub (ws' := [(zo14irriiiiiirriirrrrlriiii m0 th aS aI im ac sp en wg op aB aT se dn aG aO aN aD bv aY rn kd nu tv), (zaI aS cS 901 fS), (zaI aB cB 6 fB), (zaI aT cT 64 fT), (zaI aD cD 36 fD)]) [0, 1, 2, 3, 6] (by decide) rfl
              have hKc := hK.sub (tys' := [(cS, .int), (cB, .int), (cT, .boolean), (cD, .int)]) [0, 1, 2, 5] rfl
              have hFc := va_free (wc := [(zo14irriiiiiirriirrrrlriiii m0 th aS aI im ac sp en wg op aB aT se dn aG aO aN aD bv aY rn kd nu tv), (zaI aS cS 901 fS), (zaI aB cB 6 fB), (zaI aT cT 64 fT), (zaI aD cD 36 fD)]) hD hS hA [0, 1, 2, 3, 6] rfl
              refine va_callv (va_runV (As := []) (rest := []) ⟨hx, hb, hml, hown, hts⟩ (c_lookDrifts l dC dI m0 aS aI aB aT aG aO aN aD aY th im ac sp en wg op se dn rn kd nu tv bv cS cB cT cD fS fB fT fD cz H.size (zh)) (cwV 0 hts gX12_odds_X12_looksForDrifts rfl rfl rfl hd_yX12_looksForDrifts ⟨Nat.le_of_ble_eq_true rfl, Nat.le_of_ble_eq_true rfl⟩) ⟨fun a U g mk q => by obtain ⟨q0, q1, qP, qK, qD⟩ := q; exact ⟨q0, q1, qP, va_K.moved (u := U) (U := U.calling g mk a) (Vm.Alike.refl U.vm) qK, qD⟩, va_recv hK hP (ci := 14) (q := (RX12, TX12, 23)) (q0 := 0) rfl rfl, fun U hU hW => ⟨rfl, by rw [hU], by rw [hU]; exact hPc, va_K.moved hW.alike hKc, hDc.weaken (fun _ _ _ _ => trivial)⟩⟩ rfl rfl hl.1 rfl (lv_room (Nat.le_of_ble_eq_true rfl)) dX12_odds_63 ⟨Nat.le_of_ble_eq_true rfl, Nat.le_of_ble_eq_true rfl⟩) hS (fun q _ h => hFc q h) hFc (fun u tC H1 locs htC hvm hw_286 hB hz1 hk1 hS => ?_)
              obtain ⟨fB9_287, fT9_288, se9_289, dn9_290, fD9_291⟩ := u
              try dsimp only at hw_286 hB
              obtain ⟨hP1, hK1, hD1⟩ := hB
              rw [htC] at hP1
              have hK1 := va_K.moved hvm.symm hK1
              obtain ⟨hP, hD⟩ := va_join (wr := [(zaL aO cO 36 fO), (zaL aN cN 36 fN)]) (w1 := [(zo14irriiiiiirriirrrrlriiii m0 th aS aI im ac sp en wg op aB aT se9_289 dn9_290 aG aO aN aD bv aY rn kd nu tv), (zaI aS cS 901 fS), (zaI aB cB 6 fB9_287), (zaI aT cT 64 fT9_288), (zaI aD cD 36 fD9_291)]) hP hD [0, 1, 2, 3, 6] [4, 5] rfl rfl (by decide) (by decide) hk1 hFc hP1 hD1
              have hK := (hK.sub (tys' := [(cO, .long), (cN, .long)]) [3, 4] rfl).app hK1
              generalize H1 = H at hP hS ⊢
              have hP : va_P (dC, dI) vwCl [(zaL aO cO 36 fO), (zaL aN cN 36 fN), (zo14irriiiiiirriirrrrlriiii m0 th aS aI im ac sp en wg op aB aT se9_289 dn9_290 aG aO aN aD bv aY rn kd nu tv), (zaI aS cS 901 fS), (zaI aB cB 6 fB9_287), (zaI aT cT 64 fT9_288), (zaI aD cD 36 fD9_291)] H := hP
              have hD : va_D A [(zaL aO cO 36 fO), (zaL aN cN 36 fN), (zo14irriiiiiirriirrrrlriiii m0 th aS aI im ac sp en wg op aB aT se9_289 dn9_290 aG aO aN aD bv aY rn kd nu tv), (zaI aS cS 901 fS), (zaI aB cB 6 fB9_287), (zaI aT cT 64 fT9_288), (zaI aD cD 36 fD9_291)] := hD
              have hK : va_K (dC, dI) vwCl [(cO, .long), (cN, .long), (cS, .int), (cB, .int), (cT, .boolean), (cD, .int)] s := hK
              refine lv_aload_n hx hb dX12_odds_66 rfl (lv_at hl 1 rfl) ?_
              refine lv_iload_n hx hb dX12_odds_67 rfl (lv_at hl 2 rfl) ?_
              have hPc := hP.sub (ws' := [(zo14irriiiiiirriirrrrlriiii m0 th aS aI im ac sp en wg op aB aT se9_289 dn9_290 aG aO aN aD bv aY rn kd nu tv), (zaL aO cO 36 fO)]) [2, 0] rfl
              have hDc := hD.sub (ws' := [(zo14irriiiiiirriirrrrlriiii m0 th aS aI im ac sp en wg op aB aT se9_289 dn9_290 aG aO aN aD bv aY rn kd nu tv), (zaL aO cO 36 fO)]) [2, 0] (by decide) rfl
              have hKc := hK.sub (tys' := [(cO, .long)]) [0] rfl
              have hFc := va_free (wc := [(zo14irriiiiiirriirrrrlriiii m0 th aS aI im ac sp en wg op aB aT se9_289 dn9_290 aG aO aN aD bv aY rn kd nu tv), (zaL aO cO 36 fO)]) hD hS hA [2, 0] rfl
              refine va_callv (va_runV (As := [.int (nI j_228)]) (rest := []) ⟨hx, hb, hml, hown, hts⟩ (c_begins l dC dI m0 aS aI aB aT aG aO aN aD aY th im ac sp en wg op se9_289 dn9_290 rn kd nu tv bv cO fO (nI j_228) H.size) (cwV 1 hts gX12_odds_X12_begins rfl rfl rfl hd_yX12_begins ⟨Nat.le_of_ble_eq_true rfl, Nat.le_of_ble_eq_true rfl⟩) ⟨fun a U g mk q => by obtain ⟨q0, q1, qP, qK, qD⟩ := q; exact ⟨q0, q1, qP, va_K.moved (u := U) (U := U.calling g mk a) (Vm.Alike.refl U.vm) qK, qD⟩, va_recv hK hP (ci := 14) (q := (RX12, TX12, 23)) (q0 := 2) rfl rfl, fun U hU hW => ⟨rfl, by rw [hU], by rw [hU]; exact hPc, va_K.moved hW.alike hKc, hDc.weaken (fun _ _ _ _ => trivial)⟩⟩ rfl rfl hl.1 rfl (lv_room (Nat.le_of_ble_eq_true rfl)) dX12_odds_68 ⟨Nat.le_of_ble_eq_true rfl, Nat.le_of_ble_eq_true rfl⟩) hS (fun q _ h => hFc q h) hFc (fun u tC H1 locs htC hvm hw_293 hB hz1 hk1 hS => ?_)
              obtain ⟨fO9_294, rfl⟩ : ∃ z, z = u := ⟨_, rfl⟩
              try dsimp only at hw_293 hB
              obtain ⟨hP1, hK1, hD1⟩ := hB
              rw [htC] at hP1
              have hK1 := va_K.moved hvm.symm hK1
              obtain ⟨hP, hD⟩ := va_join (wr := [(zaL aN cN 36 fN), (zaI aS cS 901 fS), (zaI aB cB 6 fB9_287), (zaI aT cT 64 fT9_288), (zaI aD cD 36 fD9_291)]) (w1 := [(zo14irriiiiiirriirrrrlriiii m0 th aS aI im ac sp en wg op aB aT se9_289 dn9_290 aG aO aN aD bv aY rn kd nu tv), (zaL aO cO 36 fO9_294)]) hP hD [2, 0] [1, 3, 4, 5, 6] rfl rfl (by decide) (by decide) hk1 hFc hP1 hD1
              have hK := (hK.sub (tys' := [(cN, .long), (cS, .int), (cB, .int), (cT, .boolean), (cD, .int)]) [1, 2, 3, 4, 5] rfl).app hK1
              generalize H1 = H at hP hS ⊢
              have hP : va_P (dC, dI) vwCl [(zaL aN cN 36 fN), (zaI aS cS 901 fS), (zaI aB cB 6 fB9_287), (zaI aT cT 64 fT9_288), (zaI aD cD 36 fD9_291), (zo14irriiiiiirriirrrrlriiii m0 th aS aI im ac sp en wg op aB aT se9_289 dn9_290 aG aO aN aD bv aY rn kd nu tv), (zaL aO cO 36 fO9_294)] H := hP
              have hD : va_D A [(zaL aN cN 36 fN), (zaI aS cS 901 fS), (zaI aB cB 6 fB9_287), (zaI aT cT 64 fT9_288), (zaI aD cD 36 fD9_291), (zo14irriiiiiirriirrrrlriiii m0 th aS aI im ac sp en wg op aB aT se9_289 dn9_290 aG aO aN aD bv aY rn kd nu tv), (zaL aO cO 36 fO9_294)] := hD
              have hK : va_K (dC, dI) vwCl [(cN, .long), (cS, .int), (cB, .int), (cT, .boolean), (cD, .int), (cO, .long)] s := hK
              refine lv_iconst (v := 0) hx hb dX12_odds_71 (by decide) ?_
              refine lv_istore (lv' := [(5, .int 0), (4, .int 0), (0, .ref m0), (1, .int (nI j_228)), (2, .int y), (3, .int (nI j_282))]) hx hb dX12_odds_72 hl (by decide) rfl (fun ls hl => ?_)
              have L74 : ∀ (nF : Nat) (i : Nat) (fO2 : Nat → Int64) (fN2 : Nat → Int64), wk - i < nF → (i ≤ wk) → ∀ (H : Heap) (locs : List Loc), va_K (dC, dI) vwCl [(cS, .int), (cB, .int), (cT, .boolean), (cO, .long), (cN, .long), (cD, .int)] s → va_P (dC, dI) vwCl [(zo14irriiiiiirriirrrrlriiii m0 th aS aI im ac sp en wg op aB aT se9_289 dn9_290 aG aO aN aD bv aY rn kd nu tv), (zaI aS cS 901 fS), (zaI aB cB 6 fB9_287), (zaI aT cT 64 fT9_288), (zaL aO cO 36 fO2), (zaL aN cN 36 fN2), (zaI aD cD 36 fD9_291)] H → va_D A [(zo14irriiiiiirriirrrrlriiii m0 th aS aI im ac sp en wg op aB aT se9_289 dn9_290 aG aO aN aD bv aY rn kd nu tv), (zaI aS cS 901 fS), (zaI aB cB 6 fB9_287), (zaI aT cT 64 fT9_288), (zaL aO cO 36 fO2), (zaL aN cN 36 fN2), (zaI aD cD 36 fD9_291)] → va_S A s.heap H locs → ∀ (ls : Array Slot), lv_has ls 7 [(0, .ref m0), (1, .int (nI j_228)), (2, .int y), (3, .int (nI j_282)), (4, .int 0), (5, .int (nI i))] → W p l e ({ frames := 4, cells := 0, slots := 0, locals := 101 } : Room) s m args below meth c H locs 0 0 Q (F0 m 74 ls []) := by
                intro nF
                induction nF with
                | zero => intro i fO2 fN2 hm; exact absurd hm (Nat.not_lt_zero _)
                | succ nF ih74 =>
                  intro i fO2 fN2 hm hii H locs hK hP hD hS ls hl
                  refine lv_iload hx hb dX12_odds_74 (lv_at hl 5 rfl) ?_
                  refine lv_aload_n hx hb dX12_odds_76 rfl (lv_at hl 0 rfl) ?_
                  refine va_get (D := (dC, dI)) (ci := 14) (v := .ref aS) (C := RX12) (T := TX12) (N := 23) hx hb hts kc_mOdds_0 hown hK hP 0 rfl rfl 1 (by decide) (hts (.fieldLink RX12 9 "MistHeapsModel" "s" "[I") kc_mOdds_1) (fun _ h9 => h9) rfl dX12_odds_77 ?_
                  refine lv_iconst (v := 2) hx hb dX12_odds_80 (by decide) ?_
                  refine va_iald hx hb hK hP 1 0 rfl rfl (vp_in_nI (n := 2) (N := 901) (by omega) (by omega)) dX12_odds_81 ?_
                  refine qi_as (y := nI wk) ((show fS (2 : Int32).toNatClampNeg = fS 2 from rfl).trans (zw)) ?_
                  refine lv_icmp_ge (tgt := 105) hx hb dX12_odds_82 (by decide) (fun c_295 => ?_) (fun c_295 => ?_)
                  · skip
                    have c_295 : wk ≤ i := (nI_leI (a := wk) (b := i) (by omega) (by omega)).mp c_295
                    refine lv_iload hx hb dX12_odds_105 (lv_at hl 4 rfl) ?_
                    refine lv_if_eq (tgt := 121) hx hb dX12_odds_107 (by decide) (fun _ => ?_) (fun c_296 => absurd c_296 (by decide))
                    refine lv_iload_n hx hb dX12_odds_121 rfl (lv_at hl 2 rfl) ?_
                    refine lv_bipush (v := 40) hx hb dX12_odds_122 (by decide) ?_
                    refine lv_icmp_ne (tgt := 134) hx hb dX12_odds_124 (by decide) (fun c_297 => ?_) (fun c_297 => ?_)
                    · skip
                      exact absurd c_276 c_297
                    · skip
                      refine lv_aload_n hx hb dX12_odds_127 rfl (lv_at hl 0 rfl) ?_
                      have hPc := hP.sub (ws' := [(zo14irriiiiiirriirrrrlriiii m0 th aS aI im ac sp en wg op aB aT se9_289 dn9_290 aG aO aN aD bv aY rn kd nu tv), (zaI aS cS 901 fS), (zaL aO cO 36 fO2)]) [0, 1, 4] rfl
                      have hKc := hK.sub (tys' := [(cS, .int), (cO, .long)]) [0, 3] rfl
                      refine vp_callSl (va_runV (As := []) (rest := []) ⟨hx, hb, hml, hown, hts⟩ (c_over l dC dI m0 aS aI aB aT aG aO aN aD aY th im ac sp en wg op se9_289 dn9_290 rn kd nu tv bv cS cO fS fO2) (cwV 0 hts gX12_odds_X12_over rfl rfl rfl hd_yX12_over ⟨Nat.le_of_ble_eq_true rfl, Nat.le_of_ble_eq_true rfl⟩) ⟨fun a U g mk q => by obtain ⟨q0, qP, qK⟩ := q; exact ⟨q0, qP, va_K.moved (u := U) (U := U.calling g mk a) (Vm.Alike.refl U.vm) qK⟩, va_recv hK hP (ci := 14) (q := (RX12, TX12, 23)) (q0 := 0) rfl rfl, fun U hU hW => ⟨rfl, by rw [hU]; exact hPc, va_K.moved hW.alike hKc⟩⟩ rfl rfl hl.1 rfl (lv_room (Nat.le_of_ble_eq_true rfl)) dX12_odds_128 ⟨Nat.le_of_ble_eq_true rfl, Nat.le_of_ble_eq_true rfl⟩).run (fun r_298 hw_299 => ?_)
                      refine lv_goto (tgt := 140) hx hb dX12_odds_131 (by decide) ?_
                      refine lv_lstore (lv' := [(5, .long r_298), (0, .ref m0), (1, .int (nI j_228)), (2, .int y), (3, .int (nI j_282)), (4, .int 0)]) hx hb dX12_odds_140 hl (by decide) rfl (fun ls hl => ?_)
                      refine lv_lload hx hb dX12_odds_142 (lv_at hl 0 rfl) ?_
                      refine lv_aload_n hx hb dX12_odds_144 rfl (lv_at hl 1 rfl) ?_
                      refine va_get (D := (dC, dI)) (ci := 14) (v := .ref aS) (C := RX12) (T := TX12) (N := 23) hx hb hts kc_mOdds_0 hown hK hP 0 rfl rfl 1 (by decide) (hts (.fieldLink RX12 9 "MistHeapsModel" "s" "[I") kc_mOdds_1) (fun _ h9 => h9) rfl dX12_odds_145 ?_
                      refine lv_iconst (v := 2) hx hb dX12_odds_148 (by decide) ?_
                      refine va_iald hx hb hK hP 1 0 rfl rfl (vp_in_nI (n := 2) (N := 901) (by omega) (by omega)) dX12_odds_149 ?_
                      refine qi_as (y := nI wk) ((show fS (2 : Int32).toNatClampNeg = fS 2 from rfl).trans (zw)) ?_
                      refine vp_callSl (va_runS (As := [.int (nI wk)]) (rest := [.long r_298]) ⟨hx, hb, hml, hown, hts⟩ (c_twenties l dC dI wk (by omega)) (va_cwS 1 hts gX12_odds_X12_twenties rfl rfl rfl hd_yX12_twenties.2 ⟨Nat.le_of_ble_eq_true rfl, Nat.le_of_ble_eq_true rfl⟩) ⟨fun a U g mk q => ⟨q.1, trivial⟩, fun U hU hW => ⟨rfl, trivial⟩⟩ rfl rfl hl.1 rfl (lv_room (Nat.le_of_ble_eq_true rfl)) dX12_odds_150 ⟨Nat.le_of_ble_eq_true rfl, Nat.le_of_ble_eq_true rfl⟩).run (fun r_300 hw_301 => ?_)
                      refine lv_iload_n hx hb dX12_odds_153 rfl (lv_at hl 4 rfl) ?_
                      refine vp_callSl (va_runS (As := [.long r_298, .long r_300, .int (nI j_282)]) (rest := []) ⟨hx, hb, hml, hown, hts⟩ (c_lowest l dC dI r_298 r_300 (nI j_282) hw_301) (va_cwS 3 hts gX12_odds_X12_lowest rfl rfl rfl hd_yX12_lowest.2 ⟨Nat.le_of_ble_eq_true rfl, Nat.le_of_ble_eq_true rfl⟩) ⟨fun a U g mk q => ⟨q.1, trivial⟩, fun U hU hW => ⟨rfl, trivial⟩⟩ rfl rfl hl.1 rfl (lv_room (Nat.le_of_ble_eq_true rfl)) dX12_odds_154 ⟨Nat.le_of_ble_eq_true rfl, Nat.le_of_ble_eq_true rfl⟩).run (fun r_302 hw_303 => ?_)
                      rw [hQ]
                      have hP9 := hP.sub (ws' := [(zo14irriiiiiirriirrrrlriiii m0 th aS aI im ac sp en wg op aB aT se9_289 dn9_290 aG aO aN aD bv aY rn kd nu tv), (zaI aS cS 901 fS), (zaI aB cB 6 fB9_287), (zaI aT cT 64 fT9_288), (zaL aO cO 36 fO2), (zaL aN cN 36 fN2), (zaI aD cD 36 fD9_291)]) [0, 1, 2, 3, 4, 5, 6] rfl
                      have hD9 := hD.sub (ws' := [(zo14irriiiiiirriirrrrlriiii m0 th aS aI im ac sp en wg op aB aT se9_289 dn9_290 aG aO aN aD bv aY rn kd nu tv), (zaI aS cS 901 fS), (zaI aB cB 6 fB9_287), (zaI aT cT 64 fT9_288), (zaL aO cO 36 fO2), (zaL aN cN 36 fN2), (zaI aD cD 36 fD9_291)]) [0, 1, 2, 3, 4, 5, 6] (by decide) rfl
                      have hK9 := hK.sub (tys' := [(cS, .int), (cB, .int), (cT, .boolean), (cO, .long), (cN, .long), (cD, .int)]) [0, 1, 2, 3, 4, 5] rfl
                      exact W.lret (v := r_302) hx hb hr (fun tQ htQ hWQ => ⟨⟨r_302, (fB9_287, fT9_288, se9_289, dn9_290, fD9_291, fO2, fN2), rfl, trivial, by rw [htQ]; exact hP9, va_K.moved hWQ.alike hK9, hD9⟩, hS.F htQ⟩) hS.2.2 dX12_odds_157
                  · skip
                    have c_295 : ¬ wk ≤ i := fun q => c_295 ((nI_leI (a := wk) (b := i) (by omega) (by omega)).mpr q)
                    refine lv_aload_n hx hb dX12_odds_85 rfl (lv_at hl 0 rfl) ?_
                    refine lv_aload_n hx hb dX12_odds_86 rfl (lv_at hl 0 rfl) ?_
                    refine va_get (D := (dC, dI)) (ci := 14) (v := .ref aS) (C := RX12) (T := TX12) (N := 23) hx hb hts kc_mOdds_0 hown hK hP 0 rfl rfl 1 (by decide) (hts (.fieldLink RX12 9 "MistHeapsModel" "s" "[I") kc_mOdds_1) (fun _ h9 => h9) rfl dX12_odds_87 ?_
                    refine lv_bipush (v := 73) hx hb dX12_odds_90 (by decide) ?_
                    refine lv_iload hx hb dX12_odds_92 (lv_at hl 5 rfl) ?_
                    refine lv_iadd hx hb dX12_odds_94 ?_
                    refine qi_as (y := nI (73 + i)) (nI_add 73 i) ?_
                    refine va_iald hx hb hK hP 1 0 rfl rfl (vp_in_nI (n := 73 + i) (N := 901) (by omega) (by omega)) dX12_odds_95 ?_
                    refine qi_as (y := fS (73 + i)) (by rw [nI_clamp (by omega)]) ?_
                    have hPc := hP.sub (ws' := [(zo14irriiiiiirriirrrrlriiii m0 th aS aI im ac sp en wg op aB aT se9_289 dn9_290 aG aO aN aD bv aY rn kd nu tv), (zaI aS cS 901 fS), (zaL aO cO 36 fO2), (zaL aN cN 36 fN2), (zaI aD cD 36 fD9_291)]) [0, 1, 4, 5, 6] rfl
                    have hDc := hD.sub (ws' := [(zo14irriiiiiirriirrrrlriiii m0 th aS aI im ac sp en wg op aB aT se9_289 dn9_290 aG aO aN aD bv aY rn kd nu tv), (zaI aS cS 901 fS), (zaL aO cO 36 fO2), (zaL aN cN 36 fN2), (zaI aD cD 36 fD9_291)]) [0, 1, 4, 5, 6] (by decide) rfl
                    have hKc := hK.sub (tys' := [(cS, .int), (cO, .long), (cN, .long), (cD, .int)]) [0, 3, 4, 5] rfl
                    have hFc := va_free (wc := [(zo14irriiiiiirriirrrrlriiii m0 th aS aI im ac sp en wg op aB aT se9_289 dn9_290 aG aO aN aD bv aY rn kd nu tv), (zaI aS cS 901 fS), (zaL aO cO 36 fO2), (zaL aN cN 36 fN2), (zaI aD cD 36 fD9_291)]) hD hS hA [0, 1, 4, 5, 6] rfl
                    refine va_callv (va_runV (As := [.int (fS (73 + i))]) (rest := []) ⟨hx, hb, hml, hown, hts⟩ (c_goesOn l dC dI m0 aS aI aB aT aG aO aN aD aY th im ac sp en wg op se9_289 dn9_290 rn kd nu tv bv cS cO cN cD fS fO2 fN2 fD9_291 (fS (73 + i)) H.size) (cwV 1 hts gX12_odds_X12_goesOn rfl rfl rfl hd_yX12_goesOn ⟨Nat.le_of_ble_eq_true rfl, Nat.le_of_ble_eq_true rfl⟩) ⟨fun a U g mk q => by obtain ⟨q0, q1, qP, qK, qD⟩ := q; exact ⟨q0, q1, qP, va_K.moved (u := U) (U := U.calling g mk a) (Vm.Alike.refl U.vm) qK, qD⟩, va_recv hK hP (ci := 14) (q := (RX12, TX12, 23)) (q0 := 0) rfl rfl, fun U hU hW => ⟨rfl, by rw [hU], by rw [hU]; exact hPc, va_K.moved hW.alike hKc, hDc.weaken (fun _ _ _ _ => trivial)⟩⟩ rfl rfl hl.1 rfl (lv_room (Nat.le_of_ble_eq_true rfl)) dX12_odds_96 ⟨Nat.le_of_ble_eq_true rfl, Nat.le_of_ble_eq_true rfl⟩) hS (fun q _ h => hFc q h) hFc (fun u tC H1 locs htC hvm hw_305 hB hz1 hk1 hS => ?_)
                    obtain ⟨fO9_306, fN9_307⟩ := u
                    try dsimp only at hw_305 hB
                    obtain ⟨hP1, hK1, hD1⟩ := hB
                    rw [htC] at hP1
                    have hK1 := va_K.moved hvm.symm hK1
                    obtain ⟨hP, hD⟩ := va_join (wr := [(zaI aB cB 6 fB9_287), (zaI aT cT 64 fT9_288)]) (w1 := [(zo14irriiiiiirriirrrrlriiii m0 th aS aI im ac sp en wg op aB aT se9_289 dn9_290 aG aO aN aD bv aY rn kd nu tv), (zaI aS cS 901 fS), (zaL aO cO 36 fO9_306), (zaL aN cN 36 fN9_307), (zaI aD cD 36 fD9_291)]) hP hD [0, 1, 4, 5, 6] [2, 3] rfl rfl (by decide) (by decide) hk1 hFc hP1 hD1
                    have hK := (hK.sub (tys' := [(cB, .int), (cT, .boolean)]) [1, 2] rfl).app hK1
                    generalize H1 = H at hP hS ⊢
                    have hP : va_P (dC, dI) vwCl [(zaI aB cB 6 fB9_287), (zaI aT cT 64 fT9_288), (zo14irriiiiiirriirrrrlriiii m0 th aS aI im ac sp en wg op aB aT se9_289 dn9_290 aG aO aN aD bv aY rn kd nu tv), (zaI aS cS 901 fS), (zaL aO cO 36 fO9_306), (zaL aN cN 36 fN9_307), (zaI aD cD 36 fD9_291)] H := hP
                    have hD : va_D A [(zaI aB cB 6 fB9_287), (zaI aT cT 64 fT9_288), (zo14irriiiiiirriirrrrlriiii m0 th aS aI im ac sp en wg op aB aT se9_289 dn9_290 aG aO aN aD bv aY rn kd nu tv), (zaI aS cS 901 fS), (zaL aO cO 36 fO9_306), (zaL aN cN 36 fN9_307), (zaI aD cD 36 fD9_291)] := hD
                    have hK : va_K (dC, dI) vwCl [(cB, .int), (cT, .boolean), (cS, .int), (cO, .long), (cN, .long), (cD, .int)] s := hK
                    refine lv_iinc (v := nI (i + 1)) (lv' := [(5, .int (nI (i + 1))), (0, .ref m0), (1, .int (nI j_228)), (2, .int y), (3, .int (nI j_282)), (4, .int 0)]) hx hb dX12_odds_99 hl (k := 5) rfl (nI_add i 1) (by decide) rfl (fun ls hl => ?_)
                    refine lv_goto (tgt := 74) hx hb dX12_odds_102 (by decide) ?_
                    exact ih74 (i + 1) _ _ (by omega) (by omega) _ _ (hK.sub [2, 0, 1, 3, 4, 5] rfl) (hP.sub [2, 3, 0, 1, 4, 5, 6] rfl) (hD.sub [2, 3, 0, 1, 4, 5, 6] (by decide) rfl) hS ls (lv_sub hl [1, 2, 3, 4, 5, 0] rfl)
              exact L74 _ (0) _ _ (Nat.lt_succ_self _) (by omega) _ _ (hK.sub [1, 2, 3, 5, 0, 4] rfl) (hP.sub [5, 1, 2, 3, 6, 0, 4] rfl) (hD.sub [5, 1, 2, 3, 6, 0, 4] (by decide) rfl) hS ls (lv_sub hl [2, 3, 4, 5, 1, 0] rfl)
            · skip
              refine lv_if_ne (tgt := 62) hx hb dX12_odds_55 (by decide) (fun c_308 => absurd c_308 (by decide)) (fun _ => ?_)
              refine lv_ldc2 (v := (-9223372036854775808)) hx hb hown (hts (.constantLong RX12 181 (-9223372036854775808)) kc_mOdds_3) dX12_odds_58 ?_
              rw [hQ]
              have hP9 := hP.sub (ws' := [(zo14irriiiiiirriirrrrlriiii m0 th aS aI im ac sp en wg op aB aT se dn aG aO aN aD bv aY rn kd nu tv), (zaI aS cS 901 fS), (zaI aB cB 6 fB), (zaI aT cT 64 fT), (zaL aO cO 36 fO), (zaL aN cN 36 fN), (zaI aD cD 36 fD)]) [0, 1, 2, 3, 4, 5, 6] rfl
              have hD9 := hD.sub (ws' := [(zo14irriiiiiirriirrrrlriiii m0 th aS aI im ac sp en wg op aB aT se dn aG aO aN aD bv aY rn kd nu tv), (zaI aS cS 901 fS), (zaI aB cB 6 fB), (zaI aT cT 64 fT), (zaL aO cO 36 fO), (zaL aN cN 36 fN), (zaI aD cD 36 fD)]) [0, 1, 2, 3, 4, 5, 6] (by decide) rfl
              have hK9 := hK.sub (tys' := [(cS, .int), (cB, .int), (cT, .boolean), (cO, .long), (cN, .long), (cD, .int)]) [0, 1, 2, 3, 4, 5] rfl
              exact W.lret (v := (-9223372036854775808)) hx hb hr (fun tQ htQ hWQ => ⟨⟨(-9223372036854775808), (fB, fT, se, dn, fD, fO, fN), rfl, trivial, by rw [htQ]; exact hP9, va_K.moved hWQ.alike hK9, hD9⟩, hS.F htQ⟩) hS.2.2 dX12_odds_61
          · skip
            refine lv_iload hx hb dX12_odds_44 (lv_at hl 0 rfl) ?_
            refine lv_if_eq (tgt := 58) hx hb dX12_odds_46 (by decide) (fun _ => ?_) (fun c_309 => absurd c_309 (by decide))
            refine lv_ldc2 (v := (-9223372036854775808)) hx hb hown (hts (.constantLong RX12 181 (-9223372036854775808)) kc_mOdds_3) dX12_odds_58 ?_
            rw [hQ]
            have hP9 := hP.sub (ws' := [(zo14irriiiiiirriirrrrlriiii m0 th aS aI im ac sp en wg op aB aT se dn aG aO aN aD bv aY rn kd nu tv), (zaI aS cS 901 fS), (zaI aB cB 6 fB), (zaI aT cT 64 fT), (zaL aO cO 36 fO), (zaL aN cN 36 fN), (zaI aD cD 36 fD)]) [0, 1, 2, 3, 4, 5, 6] rfl
            have hD9 := hD.sub (ws' := [(zo14irriiiiiirriirrrrlriiii m0 th aS aI im ac sp en wg op aB aT se dn aG aO aN aD bv aY rn kd nu tv), (zaI aS cS 901 fS), (zaI aB cB 6 fB), (zaI aT cT 64 fT), (zaL aO cO 36 fO), (zaL aN cN 36 fN), (zaI aD cD 36 fD)]) [0, 1, 2, 3, 4, 5, 6] (by decide) rfl
            have hK9 := hK.sub (tys' := [(cS, .int), (cB, .int), (cT, .boolean), (cO, .long), (cN, .long), (cD, .int)]) [0, 1, 2, 3, 4, 5] rfl
            exact W.lret (v := (-9223372036854775808)) hx hb hr (fun tQ htQ hWQ => ⟨⟨(-9223372036854775808), (fB, fT, se, dn, fD, fO, fN), rfl, trivial, by rw [htQ]; exact hP9, va_K.moved hWQ.alike hK9, hD9⟩, hS.F htQ⟩) hS.2.2 dX12_odds_61
      · skip
        refine lv_if_eq (tgt := 58) hx hb dX12_odds_28 (by decide) (fun _ => ?_) (fun c_310 => absurd c_310 (by decide))
        refine lv_ldc2 (v := (-9223372036854775808)) hx hb hown (hts (.constantLong RX12 181 (-9223372036854775808)) kc_mOdds_3) dX12_odds_58 ?_
        rw [hQ]
        have hP9 := hP.sub (ws' := [(zo14irriiiiiirriirrrrlriiii m0 th aS aI im ac sp en wg op aB aT se dn aG aO aN aD bv aY rn kd nu tv), (zaI aS cS 901 fS), (zaI aB cB 6 fB), (zaI aT cT 64 fT), (zaL aO cO 36 fO), (zaL aN cN 36 fN), (zaI aD cD 36 fD)]) [0, 1, 2, 3, 4, 5, 6] rfl
        have hD9 := hD.sub (ws' := [(zo14irriiiiiirriirrrrlriiii m0 th aS aI im ac sp en wg op aB aT se dn aG aO aN aD bv aY rn kd nu tv), (zaI aS cS 901 fS), (zaI aB cB 6 fB), (zaI aT cT 64 fT), (zaL aO cO 36 fO), (zaL aN cN 36 fN), (zaI aD cD 36 fD)]) [0, 1, 2, 3, 4, 5, 6] (by decide) rfl
        have hK9 := hK.sub (tys' := [(cS, .int), (cB, .int), (cT, .boolean), (cO, .long), (cN, .long), (cD, .int)]) [0, 1, 2, 3, 4, 5] rfl
        exact W.lret (v := (-9223372036854775808)) hx hb hr (fun tQ htQ hWQ => ⟨⟨(-9223372036854775808), (fB, fT, se, dn, fD, fO, fN), rfl, trivial, by rw [htQ]; exact hP9, va_K.moved hWQ.alike hK9, hD9⟩, hS.F htQ⟩) hS.2.2 dX12_odds_61
