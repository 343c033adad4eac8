theorem ggX11_act_Jx4a65c_clear_da8c8 : GoodIn wsX11_act wsJx4a65c_clear_da8c8 := gga_of 918 rfl rfl rfl
theorem gX11_act_Jx4a65c_clear_da8c8 : GoodIn wsX11_act (wsV RX11 230 RJx4a65c yJx4a65c_clear_da8c8 wsJx4a65c_clear_da8c8) := goodIn_app (ggh_of [915, 916, 917, 71] rfl rfl rfl) ggX11_act_Jx4a65c_clear_da8c8
theorem ggX11_act_X8_heapAt : GoodIn wsX11_act wsX8_heapAt := gga_of 632 rfl rfl rfl
theorem gX11_act_X8_heapAt : GoodIn wsX11_act (wsV RX11 112 RX8 yX8_heapAt wsX8_heapAt) := goodIn_app (ggh_of [629, 630, 631, 64] rfl rfl rfl) ggX11_act_X8_heapAt
theorem ggX11_act_X3_doSees : GoodIn wsX11_act wsX3_doSees := gga_of 1025 rfl rfl rfl
theorem gX11_act_X3_doSees_u233X1 : GoodIn wsX11_act (va_wsU RX11 233 RX1 "MistHeaps$Heap" ⟨"MistHeaps$Heap", "doSees", "(ILjava/util/ArrayList;)I"⟩ yX3_doSees wsX3_doSees) := goodIn_app (ggh_of [919, 922, 923, 920, 67] rfl rfl rfl) ggX11_act_X3_doSees
theorem gX11_act_X3_doSees : GoodIn wsX11_act (wsV RX11 233 RX3 yX3_doSees wsX3_doSees) := goodIn_app (ggh_of [919, 920, 921, 67] rfl rfl rfl) ggX11_act_X3_doSees
theorem ggX11_act_X4_doSees : GoodIn wsX11_act wsX4_doSees := gga_of 926 rfl rfl rfl
theorem gX11_act_X4_doSees_u233X4 : GoodIn wsX11_act (va_wsO RX11 233 RX4 "MistHeaps$Heap" ⟨"MistHeaps$Heap", "doSees", "(ILjava/util/ArrayList;)I"⟩ yX4_doSees wsX4_doSees) := goodIn_app (ggh_of [919, 922, 920, 924, 925, 81] rfl rfl rfl) ggX11_act_X4_doSees
theorem gX11_act_X3_doSees_u233X6 : GoodIn wsX11_act (va_wsU RX11 233 RX6 "MistHeaps$Heap" ⟨"MistHeaps$Heap", "doSees", "(ILjava/util/ArrayList;)I"⟩ yX3_doSees wsX3_doSees) := goodIn_app (ggh_of [919, 922, 1014, 920, 67] rfl rfl rfl) ggX11_act_X3_doSees
theorem gX11_act_X3_doSees_u233X7 : GoodIn wsX11_act (va_wsU RX11 233 RX7 "MistHeaps$Heap" ⟨"MistHeaps$Heap", "doSees", "(ILjava/util/ArrayList;)I"⟩ yX3_doSees wsX3_doSees) := goodIn_app (ggh_of [919, 922, 1015, 920, 67] rfl rfl rfl) ggX11_act_X3_doSees
theorem ggX11_act_X9_doSees : GoodIn wsX11_act wsX9_doSees := gga_of 1018 rfl rfl rfl
theorem gX11_act_X9_doSees_u233X9 : GoodIn wsX11_act (va_wsO RX11 233 RX9 "MistHeaps$Heap" ⟨"MistHeaps$Heap", "doSees", "(ILjava/util/ArrayList;)I"⟩ yX9_doSees wsX9_doSees) := goodIn_app (ggh_of [919, 922, 920, 1016, 1017, 85] rfl rfl rfl) ggX11_act_X9_doSees
theorem gX11_act_X4_doSees_u233X10 : GoodIn wsX11_act (va_wsO RX11 233 RX10 "MistHeaps$Heap" ⟨"MistHeaps$Heap", "doSees", "(ILjava/util/ArrayList;)I"⟩ yX4_doSees wsX4_doSees) := goodIn_app (ggh_of [919, 922, 920, 1024, 925, 81] rfl rfl rfl) ggX11_act_X4_doSees
theorem ggX11_act_X3_doGoes : GoodIn wsX11_act wsX3_doGoes := gga_of 1049 rfl rfl rfl
theorem gX11_act_X3_doGoes_u237X1 : GoodIn wsX11_act (va_wsU RX11 237 RX1 "MistHeaps$Heap" ⟨"MistHeaps$Heap", "doGoes", "(ILjava/util/ArrayList;)I"⟩ yX3_doGoes wsX3_doGoes) := goodIn_app (ggh_of [1027, 1030, 1031, 1028, 67] rfl rfl rfl) ggX11_act_X3_doGoes
theorem gX11_act_X3_doGoes : GoodIn wsX11_act (wsV RX11 237 RX3 yX3_doGoes wsX3_doGoes) := goodIn_app (ggh_of [1027, 1028, 1029, 67] rfl rfl rfl) ggX11_act_X3_doGoes
theorem gX11_act_X3_doGoes_u237X4 : GoodIn wsX11_act (va_wsU RX11 237 RX4 "MistHeaps$Heap" ⟨"MistHeaps$Heap", "doGoes", "(ILjava/util/ArrayList;)I"⟩ yX3_doGoes wsX3_doGoes) := goodIn_app (ggh_of [1027, 1030, 1032, 1028, 67] rfl rfl rfl) ggX11_act_X3_doGoes
theorem ggX11_act_X6_doGoes : GoodIn wsX11_act wsX6_doGoes := gga_of 1035 rfl rfl rfl
theorem gX11_act_X6_doGoes_u237X6 : GoodIn wsX11_act (va_wsO RX11 237 RX6 "MistHeaps$Heap" ⟨"MistHeaps$Heap", "doGoes", "(ILjava/util/ArrayList;)I"⟩ yX6_doGoes wsX6_doGoes) := goodIn_app (ggh_of [1027, 1030, 1028, 1033, 1034, 82] rfl rfl rfl) ggX11_act_X6_doGoes
theorem ggX11_act_X7_doGoes : GoodIn wsX11_act wsX7_doGoes := gga_of 1041 rfl rfl rfl
theorem gX11_act_X7_doGoes_u237X7 : GoodIn wsX11_act (va_wsO RX11 237 RX7 "MistHeaps$Heap" ⟨"MistHeaps$Heap", "doGoes", "(ILjava/util/ArrayList;)I"⟩ yX7_doGoes wsX7_doGoes) := goodIn_app (ggh_of [1027, 1030, 1028, 1039, 1040, 86] rfl rfl rfl) ggX11_act_X7_doGoes
theorem gX11_act_X6_doGoes_u237X9 : GoodIn wsX11_act (va_wsO RX11 237 RX9 "MistHeaps$Heap" ⟨"MistHeaps$Heap", "doGoes", "(ILjava/util/ArrayList;)I"⟩ yX6_doGoes wsX6_doGoes) := goodIn_app (ggh_of [1027, 1030, 1028, 1047, 1034, 82] rfl rfl rfl) ggX11_act_X6_doGoes
theorem gX11_act_X3_doGoes_u237X10 : GoodIn wsX11_act (va_wsU RX11 237 RX10 "MistHeaps$Heap" ⟨"MistHeaps$Heap", "doGoes", "(ILjava/util/ArrayList;)I"⟩ yX3_doGoes wsX3_doGoes) := goodIn_app (ggh_of [1027, 1030, 1048, 1028, 67] rfl rfl rfl) ggX11_act_X3_doGoes
theorem ggX11_act_X1_doLooks : GoodIn wsX11_act wsX1_doLooks := gga_of 1057 rfl rfl rfl
theorem gX11_act_X1_doLooks_u240X1 : GoodIn wsX11_act (va_wsO RX11 240 RX1 "MistHeaps$Heap" ⟨"MistHeaps$Heap", "doLooks", "(ILjava/util/ArrayList;)I"⟩ yX1_doLooks wsX1_doLooks) := goodIn_app (ggh_of [1051, 1054, 1052, 1055, 1056, 83] rfl rfl rfl) ggX11_act_X1_doLooks
theorem ggX11_act_X3_doLooks : GoodIn wsX11_act wsX3_doLooks := gga_of 1077 rfl rfl rfl
theorem gX11_act_X3_doLooks : GoodIn wsX11_act (wsV RX11 240 RX3 yX3_doLooks wsX3_doLooks) := goodIn_app (ggh_of [1051, 1052, 1053, 67] rfl rfl rfl) ggX11_act_X3_doLooks
theorem gX11_act_X3_doLooks_u240X4 : GoodIn wsX11_act (va_wsU RX11 240 RX4 "MistHeaps$Heap" ⟨"MistHeaps$Heap", "doLooks", "(ILjava/util/ArrayList;)I"⟩ yX3_doLooks wsX3_doLooks) := goodIn_app (ggh_of [1051, 1054, 1061, 1052, 67] rfl rfl rfl) ggX11_act_X3_doLooks
theorem gX11_act_X3_doLooks_u240X6 : GoodIn wsX11_act (va_wsU RX11 240 RX6 "MistHeaps$Heap" ⟨"MistHeaps$Heap", "doLooks", "(ILjava/util/ArrayList;)I"⟩ yX3_doLooks wsX3_doLooks) := goodIn_app (ggh_of [1051, 1054, 1062, 1052, 67] rfl rfl rfl) ggX11_act_X3_doLooks
theorem gX11_act_X1_doLooks_u240X7 : GoodIn wsX11_act (va_wsO RX11 240 RX7 "MistHeaps$Heap" ⟨"MistHeaps$Heap", "doLooks", "(ILjava/util/ArrayList;)I"⟩ yX1_doLooks wsX1_doLooks) := goodIn_app (ggh_of [1051, 1054, 1052, 1063, 1056, 83] rfl rfl rfl) ggX11_act_X1_doLooks
theorem gX11_act_X3_doLooks_u240X9 : GoodIn wsX11_act (va_wsU RX11 240 RX9 "MistHeaps$Heap" ⟨"MistHeaps$Heap", "doLooks", "(ILjava/util/ArrayList;)I"⟩ yX3_doLooks wsX3_doLooks) := goodIn_app (ggh_of [1051, 1054, 1064, 1052, 67] rfl rfl rfl) ggX11_act_X3_doLooks
theorem ggX11_act_X10_doLooks : GoodIn wsX11_act wsX10_doLooks := gga_of 1067 rfl rfl rfl
theorem gX11_act_X10_doLooks_u240X10 : GoodIn wsX11_act (va_wsO RX11 240 RX10 "MistHeaps$Heap" ⟨"MistHeaps$Heap", "doLooks", "(ILjava/util/ArrayList;)I"⟩ yX10_doLooks wsX10_doLooks) := goodIn_app (ggh_of [1051, 1054, 1052, 1065, 1066, 84] rfl rfl rfl) ggX11_act_X10_doLooks
noncomputable def dk18gact_cX11_act_0 : List (Nat × Instr × Nat) := [(0, .aload_n 0, 1), (1, .getfield 49, 3), (4, .invokevirtual 230, 3), (7, .aload_n 0, 1), (8, .getfield 14, 3), (11, .iload_n 1, 1), (12, .invokevirtual 112, 3), (15, .astore 4, 2), (17, .aload 4, 2), (19, .ifnonnull 5, 3), (24, .iload_n 2, 1), (25, .tableswitch 60 0 2 #[27, 38, 49], 27), (52, .aload 4, 2), (54, .iload_n 3, 1), (55, .aload_n 0, 1), (56, .getfield 49, 3), (59, .invokevirtual 233, 3), (62, .ireturn, 1), (63, .aload 4, 2), (65, .iload_n 3, 1), (66, .aload_n 0, 1), (67, .getfield 49, 3), (70, .invokevirtual 237, 3), (73, .ireturn, 1), (74, .aload 4, 2), (76, .iload_n 3, 1), (77, .aload_n 0, 1), (78, .getfield 49, 3), (81, .invokevirtual 240, 3), (84, .ireturn, 1), (85, .iconst 0, 1), (86, .ireturn, 1), (22, .iconst 0, 1), (23, .ireturn, 1)]
set_option maxRecDepth 100000 in
theorem dk18gact_cX11_act_0_a : dkA cX11_act dk18gact_cX11_act_0 = true := by decide +kernel
theorem dX11_act_0 : decode cX11_act 0 = .ok (.aload_n 0, 1) := dkAt dk18gact_cX11_act_0_a 0 rfl
theorem dX11_act_1 : decode cX11_act 1 = .ok (.getfield 49, 3) := dkAt dk18gact_cX11_act_0_a 1 rfl
theorem dX11_act_4 : decode cX11_act 4 = .ok (.invokevirtual 230, 3) := dkAt dk18gact_cX11_act_0_a 2 rfl
theorem dX11_act_7 : decode cX11_act 7 = .ok (.aload_n 0, 1) := dkAt dk18gact_cX11_act_0_a 3 rfl
theorem dX11_act_8 : decode cX11_act 8 = .ok (.getfield 14, 3) := dkAt dk18gact_cX11_act_0_a 4 rfl
theorem dX11_act_11 : decode cX11_act 11 = .ok (.iload_n 1, 1) := dkAt dk18gact_cX11_act_0_a 5 rfl
theorem dX11_act_12 : decode cX11_act 12 = .ok (.invokevirtual 112, 3) := dkAt dk18gact_cX11_act_0_a 6 rfl
theorem dX11_act_15 : decode cX11_act 15 = .ok (.astore 4, 2) := dkAt dk18gact_cX11_act_0_a 7 rfl
theorem dX11_act_17 : decode cX11_act 17 = .ok (.aload 4, 2) := dkAt dk18gact_cX11_act_0_a 8 rfl
theorem dX11_act_19 : decode cX11_act 19 = .ok (.ifnonnull 5, 3) := dkAt dk18gact_cX11_act_0_a 9 rfl
theorem dX11_act_24 : decode cX11_act 24 = .ok (.iload_n 2, 1) := dkAt dk18gact_cX11_act_0_a 10 rfl
theorem dX11_act_25 : decode cX11_act 25 = .ok (.tableswitch 60 0 2 #[27, 38, 49], 27) := dkAt dk18gact_cX11_act_0_a 11 rfl
theorem dX11_act_52 : decode cX11_act 52 = .ok (.aload 4, 2) := dkAt dk18gact_cX11_act_0_a 12 rfl
theorem dX11_act_54 : decode cX11_act 54 = .ok (.iload_n 3, 1) := dkAt dk18gact_cX11_act_0_a 13 rfl
theorem dX11_act_55 : decode cX11_act 55 = .ok (.aload_n 0, 1) := dkAt dk18gact_cX11_act_0_a 14 rfl
theorem dX11_act_56 : decode cX11_act 56 = .ok (.getfield 49, 3) := dkAt dk18gact_cX11_act_0_a 15 rfl
theorem dX11_act_59 : decode cX11_act 59 = .ok (.invokevirtual 233, 3) := dkAt dk18gact_cX11_act_0_a 16 rfl
theorem dX11_act_62 : decode cX11_act 62 = .ok (.ireturn, 1) := dkAt dk18gact_cX11_act_0_a 17 rfl
theorem dX11_act_63 : decode cX11_act 63 = .ok (.aload 4, 2) := dkAt dk18gact_cX11_act_0_a 18 rfl
theorem dX11_act_65 : decode cX11_act 65 = .ok (.iload_n 3, 1) := dkAt dk18gact_cX11_act_0_a 19 rfl
theorem dX11_act_66 : decode cX11_act 66 = .ok (.aload_n 0, 1) := dkAt dk18gact_cX11_act_0_a 20 rfl
theorem dX11_act_67 : decode cX11_act 67 = .ok (.getfield 49, 3) := dkAt dk18gact_cX11_act_0_a 21 rfl
theorem dX11_act_70 : decode cX11_act 70 = .ok (.invokevirtual 237, 3) := dkAt dk18gact_cX11_act_0_a 22 rfl
theorem dX11_act_73 : decode cX11_act 73 = .ok (.ireturn, 1) := dkAt dk18gact_cX11_act_0_a 23 rfl
theorem dX11_act_74 : decode cX11_act 74 = .ok (.aload 4, 2) := dkAt dk18gact_cX11_act_0_a 24 rfl
theorem dX11_act_76 : decode cX11_act 76 = .ok (.iload_n 3, 1) := dkAt dk18gact_cX11_act_0_a 25 rfl
theorem dX11_act_77 : decode cX11_act 77 = .ok (.aload_n 0, 1) := dkAt dk18gact_cX11_act_0_a 26 rfl
theorem dX11_act_78 : decode cX11_act 78 = .ok (.getfield 49, 3) := dkAt dk18gact_cX11_act_0_a 27 rfl
theorem dX11_act_81 : decode cX11_act 81 = .ok (.invokevirtual 240, 3) := dkAt dk18gact_cX11_act_0_a 28 rfl
theorem dX11_act_84 : decode cX11_act 84 = .ok (.ireturn, 1) := dkAt dk18gact_cX11_act_0_a 29 rfl
theorem dX11_act_85 : decode cX11_act 85 = .ok (.iconst 0, 1) := dkAt dk18gact_cX11_act_0_a 30 rfl
theorem dX11_act_86 : decode cX11_act 86 = .ok (.ireturn, 1) := dkAt dk18gact_cX11_act_0_a 31 rfl
theorem dX11_act_22 : decode cX11_act 22 = .ok (.iconst 0, 1) := dkAt dk18gact_cX11_act_0_a 32 rfl
theorem dX11_act_23 : decode cX11_act 23 = .ok (.ireturn, 1) := dkAt dk18gact_cX11_act_0_a 33 rfl
theorem kc_xAct1_0 : ∀ w ∈ wsX110, w ∈ wsX11_act := fun w h => List.mem_cons_of_mem _ (gin_wsX110 w h)
theorem kc_xAct1_1 : (.fieldLink RX11 49 "MistHeaps" "bodies" "Ljava/util/ArrayList;" : Cond) ∈ wsX11_act := kc_of 334 rfl rfl rfl
theorem kc_xAct1_2 : (.fieldLink RX11 14 "MistHeaps" "scene" "LMistHeaps$Scene;" : Cond) ∈ wsX11_act := kc_of 328 rfl rfl rfl
theorem kc_xAct1_3 : (.code yX3_doSees cX3_doSees 3 (some .int) : Cond) ∈ wsX11_act := kc_of 1025 rfl rfl rfl
theorem kc_xAct1_4 : (.code yX3_doGoes cX3_doGoes 3 (some .int) : Cond) ∈ wsX11_act := kc_of 1049 rfl rfl rfl
theorem kc_xAct1_5 : (.code yX3_doLooks cX3_doLooks 3 (some .int) : Cond) ∈ wsX11_act := kc_of 1077 rfl rfl rfl
set_option maxHeartbeats 4000000 in
set_option maxRecDepth 100000 in
theorem c_xAct1 (l : Launch) (dC : Nat → ClassId) (dI : Nat → Nat → Nat) (ad : Nat → Nat) (cB bS : Nat)    (h0 : Nat) (sc : Nat) (kp : Nat) (bl : Nat) (go : Nat) (ch : Nat) (bo : Nat) (aTp : Nat) (aHl : Nat) (aHs : Nat) (aWk : Nat) (aBk : Nat) (aFc : Nat) (aEl : Nat) (ts : Nat) (nh : Nat) (n : Nat) (wz : Nat) (bz : Nat) (mi : Int32) (sn : Int32) (ik : Int32) (x : Int32) (y : Int32) (z : Int32) (ed : Int64) (cHs : ClassId) (cEl : ClassId) (yk : Nat → Int32) (yv : Nat → Int32) (yc : Nat → Int32) (fHs : Nat → Option Nat) (fEl : Nat → Option Nat) (yi : Nat → Nat) (ya : Nat → Nat) (sz_ : Nat) (mdc : Int32) (sz : Nat) (zhs : ∀ k0, k0 < n → fHs k0 = some (ya k0)) (hn8 : n ≤ 8) (hsz : sz_ ≤ 10) (zyt : ∀ k0, k0 < n → hpT (yi k0) (yk k0)) : Met l yX11_act wsX11_act ({ frames := 8, cells := 1, slots := 10, locals := 176 } : Room) (va_Pc [.ref h0, .int x, .int y, .int z] (fun U => U.heap.size = sz ∧ va_P (dC, dI) vwCl [(zo13rrirrrr h0 sc kp ik bl go ch bo), (zo10ririliiriririr sc aTp (nI ts) aHl (nI nh) ed mi sn aHs (nI n) aWk (nI wz) aBk (nI bz) aFc), (zaR aHs cHs 8 fHs), (zo1iri bo mdc aEl (nI sz_)), (zaR aEl cEl 10 fEl)] U.heap ∧ va_K (dC, dI) vwCl [(cHs, .object "MistHeaps$Heap"), (cEl, .object "java/lang/Object")] U ∧ va_D (fun _ => True) [(zo13rrirrrr h0 sc kp ik bl go ch bo), (zo10ririliiriririr sc aTp (nI ts) aHl (nI nh) ed mi sn aHs (nI n) aWk (nI wz) aBk (nI bz) aFc), (zaR aHs cHs 8 fHs), (zo1iri bo mdc aEl (nI sz_)), (zaR aEl cEl 10 fEl)] ∧ Gi ad cB bS (va_A [(zo13rrirrrr h0 sc kp ik bl go ch bo), (zo10ririliiriririr sc aTp (nI ts) aHl (nI nh) ed mi sn aHs (nI n) aWk (nI wz) aBk (nI bz) aFc), (zaR aHs cHs 8 fHs), (zo1iri bo mdc aEl (nI sz_)), (zaR aEl cEl 10 fEl)] sz) U ∧ Gb (va_A [(zo13rrirrrr h0 sc kp ik bl go ch bo), (zo10ririliiriririr sc aTp (nI ts) aHl (nI nh) ed mi sn aHs (nI n) aWk (nI wz) aBk (nI bz) aFc), (zaR aHs cHs 8 fHs), (zo1iri bo mdc aEl (nI sz_)), (zaR aEl cEl 10 fEl)] sz) U ∧ Gw (va_A [(zo13rrirrrr h0 sc kp ik bl go ch bo), (zo10ririliiriririr sc aTp (nI ts) aHl (nI nh) ed mi sn aHs (nI n) aWk (nI wz) aBk (nI bz) aFc), (zaR aHs cHs 8 fHs), (zo1iri bo mdc aEl (nI sz_)), (zaR aEl cEl 10 fEl)] sz) U ∧ Hs dC dI n yi ya yk yv yc (va_A [(zo13rrirrrr h0 sc kp ik bl go ch bo), (zo10ririliiriririr sc aTp (nI ts) aHl (nI nh) ed mi sn aHs (nI n) aWk (nI wz) aBk (nI bz) aFc), (zaR aHs cHs 8 fHs), (zo1iri bo mdc aEl (nI sz_)), (zaR aEl cEl 10 fEl)] sz) U)) (va_Qi (fun (r : Int32) (u : (Int32) × (Nat) × (Nat → Option Nat)) => match u with | (mdc9, sz_9, fEl9) => r = acR n yk yv x y z ∧ sz_9 ≤ 10 ∧ okL ad fEl9 sz_9 (acT n yk x y)) (fun (u : (Int32) × (Nat) × (Nat → Option Nat)) (t : State) => match u with | (mdc9, sz_9, fEl9) => va_P (dC, dI) vwCl [(zo13rrirrrr h0 sc kp ik bl go ch bo), (zo10ririliiriririr sc aTp (nI ts) aHl (nI nh) ed mi sn aHs (nI n) aWk (nI wz) aBk (nI bz) aFc), (zaR aHs cHs 8 fHs), (zo1iri bo mdc9 aEl (nI sz_9)), (zaR aEl cEl 10 fEl9)] t.heap ∧ va_K (dC, dI) vwCl [(cHs, .object "MistHeaps$Heap"), (cEl, .object "java/lang/Object")] t ∧ va_D (va_A [(zo13rrirrrr h0 sc kp ik bl go ch bo), (zo10ririliiriririr sc aTp (nI ts) aHl (nI nh) ed mi sn aHs (nI n) aWk (nI wz) aBk (nI bz) aFc), (zaR aHs cHs 8 fHs), (zo1iri bo mdc aEl (nI sz_)), (zaR aEl cEl 10 fEl)] sz) [(zo13rrirrrr h0 sc kp ik bl go ch bo), (zo10ririliiriririr sc aTp (nI ts) aHl (nI nh) ed mi sn aHs (nI n) aWk (nI wz) aBk (nI bz) aFc), (zaR aHs cHs 8 fHs), (zo1iri bo mdc9 aEl (nI sz_9)), (zaR aEl cEl 10 fEl9)]) (va_A [(zo13rrirrrr h0 sc kp ik bl go ch bo), (zo10ririliiriririr sc aTp (nI ts) aHl (nI nh) ed mi sn aHs (nI n) aWk (nI wz) aBk (nI bz) aFc), (zaR aHs cHs 8 fHs), (zo1iri bo mdc aEl (nI sz_)), (zaR aEl cEl 10 fEl)] sz)) 1 10 (va_A [(zo13rrirrrr h0 sc kp ik bl go ch bo), (zo10ririliiriririr sc aTp (nI ts) aHl (nI nh) ed mi sn aHs (nI n) aWk (nI wz) aBk (nI bz) aFc), (zaR aHs cHs 8 fHs), (zo1iri bo mdc aEl (nI sz_)), (zaR aEl cEl 10 fEl)] sz) := by
  refine met_ofQ (cc := cX11_act) (maxL := 5) (ret := (some .int)) (by decide) rfl ?_
  intro p e s m args below meth c s₁ Q B hml hv hQ
  obtain ⟨rfl, hsz, hP, hK, hD0, hI_, hB_, hW_, hH_⟩ := hv
  have hx := B.exec
  have hb := B.bytes
  have hr := B.returns
  have hts := atoms_spec (ws := wsX11_act) B.pre
  have hown : s.vm.findClass RX11 = some m.cls := findClass_of_methodNamed B.named
  have hlocks := B.notSynchronized
  subst hsz
  have hD := hD0.self (sz := s.heap.size)
  generalize hAe : va_A [(zo13rrirrrr h0 sc kp ik bl go ch bo), (zo10ririliiriririr sc aTp (nI ts) aHl (nI nh) ed mi sn aHs (nI n) aWk (nI wz) aBk (nI bz) aFc), (zaR aHs cHs 8 fHs), (zo1iri bo mdc aEl (nI sz_)), (zaR aEl cEl 10 fEl)] s.heap.size = A at hD hQ hI_ hB_ hW_ hH_ ⊢
  have hA : ∀ q : Nat, s.heap.size ≤ q → A q := fun q h => by rw [← hAe]; exact Or.inr h
  have hS : va_S A s.heap s.heap [] := va_S.rf
  have hl := lv_entry [.ref h0, .int x, .int y, .int z] (n := 5) (Nat.le_of_ble_eq_true rfl)
  rw [lg_entry_eq]
  generalize (lg_sl [.ref h0, .int x, .int y, .int z] ++ List.replicate (5 - (lg_sl [.ref h0, .int x, .int y, .int z]).length) Slot.unset).toArray = ls at hl ⊢
  generalize hag : ([.ref h0, .int x, .int y, .int z] : List Value).toArray = args at hts hQ ⊢
  have hl : lv_has ls 5 [(0, .ref h0), (1, .int x), (2, .int y), (3, .int z)] := hl
  obtain ⟨H, hH⟩ : ∃ H : Heap, H = s.heap := ⟨_, rfl⟩
  rw [← hH] at hP
  rw [← hH]
  have hS : va_S A s.heap H [] := by rw [hH]; exact hS
  obtain ⟨locs, hlo⟩ : ∃ L : List Loc, L = [] := ⟨_, rfl⟩
  rw [← hlo] at hS
  rw [← hlo]
  clear hH hlo
  refine lv_aload_n hx hb dX11_act_0 rfl (lv_at hl 0 rfl) ?_
  refine va_get (D := (dC, dI)) (ci := 13) (v := .ref bo) (C := RX11) (T := TX11) (N := 7) hx hb hts kc_xAct1_0 hown hK hP 0 rfl rfl 6 (by decide) (hts (.fieldLink RX11 49 "MistHeaps" "bodies" "Ljava/util/ArrayList;") kc_xAct1_1) (fun _ h9 => h9) rfl dX11_act_1 ?_
  have hPc := hP.sub (ws' := [(zo1iri bo mdc aEl (nI sz_)), (zaR aEl cEl 10 fEl)]) [3, 4] rfl
  have hDc := hD.sub (ws' := [(zo1iri bo mdc aEl (nI sz_)), (zaR aEl cEl 10 fEl)]) [3, 4] (by decide) rfl
  have hKc := hK.sub (tys' := [(cEl, .object "java/lang/Object")]) [1] rfl
  have hFc := va_free (wc := [(zo1iri bo mdc aEl (nI sz_)), (zaR aEl cEl 10 fEl)]) hD hS hA [3, 4] rfl
  refine va_callv (va_runV (As := []) (rest := []) ⟨hx, hb, hml, hown, hts⟩ (c_lclear1 l dC dI bo aEl cEl fEl sz_ mdc H.size (hsz)) (cwV 0 hts gX11_act_Jx4a65c_clear_da8c8 rfl rfl rfl hd_yJx4a65c_clear_da8c8 ⟨Nat.le_of_ble_eq_true rfl, Nat.le_of_ble_eq_true rfl⟩) ⟨fun a U g mk q => by obtain ⟨q0, q1, qP, qK, qD⟩ := q; exact ⟨q0, q1, qP, va_K.moved (u := U) (U := U.calling g mk a) (Vm.Alike.refl U.vm) qK, qD⟩, va_recv hK hP (ci := 1) (q := (RJx4a65c, TJx4a65c, 3)) (q0 := 3) rfl rfl, fun U hU hW => ⟨rfl, by rw [hU], by rw [hU]; exact hPc, va_K.moved hW.alike hKc, hDc.weaken (fun _ _ _ _ => trivial)⟩⟩ rfl rfl hl.1 rfl (lv_room (Nat.le_of_ble_eq_true rfl)) dX11_act_4 ⟨Nat.le_of_ble_eq_true rfl, Nat.le_of_ble_eq_true rfl⟩) hS (fun q _ h => hFc q h) hFc (fun u tC H1 locs htC hvm hw_2 hB hz1 hk1 hS => ?_)
  obtain ⟨mdc9_3, sz_9_4, fEl9_5⟩ := u
  try dsimp only at hw_2 hB
  obtain ⟨hP1, hK1, hD1⟩ := hB
  rw [htC] at hP1
  have hK1 := va_K.moved hvm.symm hK1
  obtain ⟨hP, hD⟩ := va_join (wr := [(zo13rrirrrr h0 sc kp ik bl go ch bo), (zo10ririliiriririr sc aTp (nI ts) aHl (nI nh) ed mi sn aHs (nI n) aWk (nI wz) aBk (nI bz) aFc), (zaR aHs cHs 8 fHs)]) (w1 := [(zo1iri bo mdc9_3 aEl (nI sz_9_4)), (zaR aEl cEl 10 fEl9_5)]) hP hD [3, 4] [0, 1, 2] rfl rfl (by decide) (by decide) hk1 hFc hP1 hD1
  have hK := (hK.sub (tys' := [(cHs, .object "MistHeaps$Heap")]) [0] rfl).app hK1
  generalize H1 = H at hP hS ⊢
  have hP : va_P (dC, dI) vwCl [(zo13rrirrrr h0 sc kp ik bl go ch bo), (zo10ririliiriririr sc aTp (nI ts) aHl (nI nh) ed mi sn aHs (nI n) aWk (nI wz) aBk (nI bz) aFc), (zaR aHs cHs 8 fHs), (zo1iri bo mdc9_3 aEl (nI sz_9_4)), (zaR aEl cEl 10 fEl9_5)] H := hP
  have hD : va_D A [(zo13rrirrrr h0 sc kp ik bl go ch bo), (zo10ririliiriririr sc aTp (nI ts) aHl (nI nh) ed mi sn aHs (nI n) aWk (nI wz) aBk (nI bz) aFc), (zaR aHs cHs 8 fHs), (zo1iri bo mdc9_3 aEl (nI sz_9_4)), (zaR aEl cEl 10 fEl9_5)] := hD
  have hK : va_K (dC, dI) vwCl [(cHs, .object "MistHeaps$Heap"), (cEl, .object "java/lang/Object")] s := hK
  obtain rfl := (hw_2).symm
  refine lv_aload_n hx hb dX11_act_7 rfl (lv_at hl 0 rfl) ?_
  refine va_get (D := (dC, dI)) (ci := 13) (v := .ref sc) (C := RX11) (T := TX11) (N := 7) hx hb hts kc_xAct1_0 hown hK hP 0 rfl rfl 0 (by decide) (hts (.fieldLink RX11 14 "MistHeaps" "scene" "LMistHeaps$Scene;") kc_xAct1_2) (fun _ h9 => h9) rfl dX11_act_8 ?_
  refine lv_iload_n hx hb dX11_act_11 rfl (lv_at hl 1 rfl) ?_
  have hPc := hP.sub (ws' := [(zo10ririliiriririr sc aTp (nI ts) aHl (nI nh) ed mi sn aHs (nI n) aWk (nI wz) aBk (nI bz) aFc), (zaR aHs cHs 8 fHs)]) [1, 2] rfl
  have hKc := hK.sub (tys' := [(cHs, .object "MistHeaps$Heap")]) [0] rfl
  refine va_csq (va_runV (As := [.int x]) (rest := []) ⟨hx, hb, hml, hown, hts⟩ (c_heapAt l dC dI sc aTp aHl aHs aWk aBk aFc ts nh n wz bz mi sn x ed cHs fHs ya (zhs) (hn8)) (cwV 1 hts gX11_act_X8_heapAt rfl rfl rfl hd_yX8_heapAt ⟨Nat.le_of_ble_eq_true rfl, Nat.le_of_ble_eq_true rfl⟩) ⟨fun a U g mk q => by obtain ⟨q0, qP, qK⟩ := q; exact ⟨q0, qP, va_K.moved (u := U) (U := U.calling g mk a) (Vm.Alike.refl U.vm) qK⟩, va_recv hK hP (ci := 10) (q := (RX8, TX8, 14)) (q0 := 1) rfl rfl, fun U hU hW => ⟨rfl, by rw [hU]; exact hPc, va_K.moved hW.alike hKc⟩⟩ rfl rfl hl.1 rfl (lv_room (Nat.le_of_ble_eq_true rfl)) dX11_act_12 ⟨Nat.le_of_ble_eq_true rfl, Nat.le_of_ble_eq_true rfl⟩).run (fun r_6 hw_7 => ?_)
  rcases hw_7 with ⟨j_8, hj_9, rfl, rfl⟩ | ⟨rfl, h_11⟩
  · skip
    refine qq_as (v := .ref (ya j_8)) rfl ?_
    refine lv_astore (lv' := [(4, .ref (ya j_8)), (0, .ref h0), (1, .int (nI j_8)), (2, .int y), (3, .int z)]) hx hb dX11_act_15 hl (by decide) rfl (fun ls hl => ?_)
    refine lv_aload hx hb dX11_act_17 (lv_at hl 0 rfl) ?_
    refine lv_ifnonnull (tgt := 24) hx hb dX11_act_19 (by decide) ?_
    refine lv_iload_n hx hb dX11_act_24 rfl (lv_at hl 3 rfl) ?_
    by_cases c_12_0 : y = 0
    · skip
      refine lv_tableIn (tgt := 52) hx hb dX11_act_25 (by rw [c_12_0]; decide) (by rw [c_12_0]; decide) (by rw [c_12_0]; rfl) (by decide) ?_
      refine lv_aload hx hb dX11_act_52 (lv_at hl 0 rfl) ?_
      refine lv_iload_n hx hb dX11_act_54 rfl (lv_at hl 4 rfl) ?_
      refine lv_aload_n hx hb dX11_act_55 rfl (lv_at hl 1 rfl) ?_
      refine va_get (D := (dC, dI)) (ci := 13) (v := .ref bo) (C := RX11) (T := TX11) (N := 7) hx hb hts kc_xAct1_0 hown hK hP 0 rfl rfl 6 (by decide) (hts (.fieldLink RX11 49 "MistHeaps" "bodies" "Ljava/util/ArrayList;") kc_xAct1_1) (fun _ h9 => h9) rfl dX11_act_56 ?_
      rcases (show yi j_8 = 3 ∨ yi j_8 = 5 ∨ yi j_8 = 6 ∨ yi j_8 = 8 ∨ yi j_8 = 9 ∨ yi j_8 = 11 ∨ yi j_8 = 12 from (hH_ j_8 (by omega)).1) with e_13 | e_13 | e_13 | e_13 | e_13 | e_13 | e_13
      · skip
        have hY : Fz dC dI [(zo3iiii (ya j_8) (yk j_8) (nI j_8) (yv j_8) (yc j_8))] [] A s := by have h9 := (hH_ j_8 (by omega)).2; rw [hpE, e_13] at h9; exact h9
        have hPc := hP.sub (ws' := [(zo1iri bo mdc9_3 aEl (nI 0)), (zaR aEl cEl 10 fEl9_5)]) [3, 4] rfl
        have hDc := hD.sub (ws' := [(zo1iri bo mdc9_3 aEl (nI 0)), (zaR aEl cEl 10 fEl9_5)]) [3, 4] (by decide) rfl
        have hKc := hK.sub (tys' := [(cEl, .object "java/lang/Object")]) [1] rfl
        have hFc := va_free (wc := [(zo1iri bo mdc9_3 aEl (nI 0)), (zaR aEl cEl 10 fEl9_5)]) hD hS hA [3, 4] rfl
        refine va_calli (va_runU (As := [.int z, .ref bo]) (rest := []) ⟨hx, hb, hml, hown, hts⟩ (c_X3_doSees_X1_1 l dC dI ad cB bS    bo aEl j_8 (yk j_8) (yv j_8) (yc j_8) z cEl fEl9_5 (ya j_8) 0 mdc9_3 ([] : List Nat) H.size (by omega) (okL_nil)) (va_cwU 2 hts gX11_act_X3_doSees_u233X1 rfl rfl rfl rfl (by decide +kernel) ⟨Nat.le_of_ble_eq_true rfl, Nat.le_of_ble_eq_true rfl⟩) ⟨fun a U g mk q => by obtain ⟨q0, q1, qP, qK, qD, qhI_, qhB_, qhW_, qhZ⟩ := q; exact ⟨q0, q1, qP, va_K.moved (u := U) (U := U.calling g mk a) (Vm.Alike.refl U.vm) qK, qD, qhI_.same rfl rfl, qhB_.same rfl rfl, qhW_.same rfl rfl, qhZ.same rfl rfl⟩, va_recv hY.2.1 (hY.P hS) (ci := 3) (q := (RX1, TX1, 4)) (q0 := 0) rfl rfl, fun U hU hW => ⟨rfl, by rw [hU], by rw [hU]; exact hPc, va_K.moved hW.alike hKc, hDc.weaken (fun _ _ _ _ => trivial), hI_.call hS hU hW (fun q h => hFc q h), hB_.call hS hU hW (fun q h => hFc q h), hW_.call hS hU hW (fun q h => hFc q h), hY.call hS hU hW (fun q h => hFc q h)⟩⟩ rfl rfl hl.1 rfl (lv_room (Nat.le_of_ble_eq_true rfl)) dX11_act_59 ⟨Nat.le_of_ble_eq_true rfl, Nat.le_of_ble_eq_true rfl⟩) hS (fun q _ h => hFc q h) hFc (fun r_14 u tC H1 locs htC hvm hw_15 hB hz1 hk1 hS => ?_)
        obtain ⟨mdc9_16, sz_9_17, fEl9_18⟩ := u
        try dsimp only at hw_15 hB
        obtain ⟨hP1, hK1, hD1⟩ := hB
        rw [htC] at hP1
        have hK1 := va_K.moved hvm.symm hK1
        obtain ⟨hP, hD⟩ := va_join (wr := [(zo13rrirrrr h0 sc kp ik bl go ch bo), (zo10ririliiriririr sc aTp (nI ts) aHl (nI nh) ed mi sn aHs (nI n) aWk (nI wz) aBk (nI bz) aFc), (zaR aHs cHs 8 fHs)]) (w1 := [(zo1iri bo mdc9_16 aEl (nI sz_9_17)), (zaR aEl cEl 10 fEl9_18)]) hP hD [3, 4] [0, 1, 2] rfl rfl (by decide) (by decide) hk1 hFc hP1 hD1
        have hK := (hK.sub (tys' := [(cHs, .object "MistHeaps$Heap")]) [0] rfl).app hK1
        generalize H1 = H at hP hS ⊢
        have hP : va_P (dC, dI) vwCl [(zo13rrirrrr h0 sc kp ik bl go ch bo), (zo10ririliiriririr sc aTp (nI ts) aHl (nI nh) ed mi sn aHs (nI n) aWk (nI wz) aBk (nI bz) aFc), (zaR aHs cHs 8 fHs), (zo1iri bo mdc9_16 aEl (nI sz_9_17)), (zaR aEl cEl 10 fEl9_18)] H := hP
        have hD : va_D A [(zo13rrirrrr h0 sc kp ik bl go ch bo), (zo10ririliiriririr sc aTp (nI ts) aHl (nI nh) ed mi sn aHs (nI n) aWk (nI wz) aBk (nI bz) aFc), (zaR aHs cHs 8 fHs), (zo1iri bo mdc9_16 aEl (nI sz_9_17)), (zaR aEl cEl 10 fEl9_18)] := hD
        have hK : va_K (dC, dI) vwCl [(cHs, .object "MistHeaps$Heap"), (cEl, .object "java/lang/Object")] s := hK
        obtain ⟨er_19, e_20, hL_21⟩ := hw_15
        obtain rfl := (e_20).symm
        subst er_19
        have hk := hpT_k3 (zyt j_8 (by omega)) e_13
        rw [hQ]
        have hP9 := hP.sub (ws' := [(zo13rrirrrr h0 sc kp ik bl go ch bo), (zo10ririliiriririr sc aTp (nI ts) aHl (nI nh) ed mi sn aHs (nI n) aWk (nI wz) aBk (nI bz) aFc), (zaR aHs cHs 8 fHs), (zo1iri bo mdc9_16 aEl (nI (0 + 1))), (zaR aEl cEl 10 fEl9_18)]) [0, 1, 2, 3, 4] rfl
        have hD9 := hD.sub (ws' := [(zo13rrirrrr h0 sc kp ik bl go ch bo), (zo10ririliiriririr sc aTp (nI ts) aHl (nI nh) ed mi sn aHs (nI n) aWk (nI wz) aBk (nI bz) aFc), (zaR aHs cHs 8 fHs), (zo1iri bo mdc9_16 aEl (nI (0 + 1))), (zaR aEl cEl 10 fEl9_18)]) [0, 1, 2, 3, 4] (by decide) rfl
        have hK9 := hK.sub (tys' := [(cHs, .object "MistHeaps$Heap"), (cEl, .object "java/lang/Object")]) [0, 1] rfl
        refine W.widen (k := 1) (n := 10) (by omega) (by omega) ?_
        exact W.iret (v := z + nI j_8) hx hb hr (fun tQ htQ hWQ => ⟨⟨(z + nI j_8), (mdc9_16, (0 + 1), fEl9_18), rfl, ⟨(kS3 (m := nI j_8) (v := yv j_8) (x := z) hk).1.trans (ac_0 (n := n) (yk := yk) (yv := yv) (j := j_8) (y := y) (z := z) hn8 (by omega) (by assumption)).1, by omega, by rw [(ac_0 (n := n) (yk := yk) (yv := yv) (j := j_8) (y := y) (z := z) hn8 (by omega) (by assumption)).2, (kS3 (m := nI j_8) (v := yv j_8) (x := z) hk).2]; exact hL_21⟩, by rw [htQ]; exact hP9, va_K.moved hWQ.alike hK9, hD9⟩, hS.F htQ⟩) hS.2.2 dX11_act_62
      · skip
        have hY : Fz dC dI [(zo5iiii (ya j_8) (yk j_8) (nI j_8) (yv j_8) (yc j_8))] [] A s := by have h9 := (hH_ j_8 (by omega)).2; rw [hpE, e_13] at h9; exact h9
        have hPc := hP.sub (ws' := [(zo1iri bo mdc9_3 aEl (nI 0)), (zaR aEl cEl 10 fEl9_5)]) [3, 4] rfl
        have hDc := hD.sub (ws' := [(zo1iri bo mdc9_3 aEl (nI 0)), (zaR aEl cEl 10 fEl9_5)]) [3, 4] (by decide) rfl
        have hKc := hK.sub (tys' := [(cEl, .object "java/lang/Object")]) [1] rfl
        have hFc := va_free (wc := [(zo1iri bo mdc9_3 aEl (nI 0)), (zaR aEl cEl 10 fEl9_5)]) hD hS hA [3, 4] rfl
        refine va_calli (va_runV (As := [.int z, .ref bo]) (rest := []) ⟨hx, hb, hml, hown, hts⟩ (c_X3_doSees_X3_1 l dC dI ad cB bS    bo aEl j_8 (yk j_8) (yv j_8) (yc j_8) z cEl fEl9_5 (ya j_8) 0 mdc9_3 ([] : List Nat) H.size (by omega) (okL_nil)) (cwV 2 hts gX11_act_X3_doSees rfl rfl rfl hd_yX3_doSees ⟨Nat.le_of_ble_eq_true rfl, Nat.le_of_ble_eq_true rfl⟩) ⟨fun a U g mk q => by obtain ⟨q0, q1, qP, qK, qD, qhI_, qhB_, qhW_, qhZ⟩ := q; exact ⟨q0, q1, qP, va_K.moved (u := U) (U := U.calling g mk a) (Vm.Alike.refl U.vm) qK, qD, qhI_.same rfl rfl, qhB_.same rfl rfl, qhW_.same rfl rfl, qhZ.same rfl rfl⟩, va_recv hY.2.1 (hY.P hS) (ci := 5) (q := (RX3, TX3, 4)) (q0 := 0) rfl rfl, fun U hU hW => ⟨rfl, by rw [hU], by rw [hU]; exact hPc, va_K.moved hW.alike hKc, hDc.weaken (fun _ _ _ _ => trivial), hI_.call hS hU hW (fun q h => hFc q h), hB_.call hS hU hW (fun q h => hFc q h), hW_.call hS hU hW (fun q h => hFc q h), hY.call hS hU hW (fun q h => hFc q h)⟩⟩ rfl rfl hl.1 rfl (lv_room (Nat.le_of_ble_eq_true rfl)) dX11_act_59 ⟨Nat.le_of_ble_eq_true rfl, Nat.le_of_ble_eq_true rfl⟩) hS (fun q _ h => hFc q h) hFc (fun r_22 u tC H1 locs htC hvm hw_23 hB hz1 hk1 hS => ?_)
        obtain ⟨mdc9_24, sz_9_25, fEl9_26⟩ := u
        try dsimp only at hw_23 hB
        obtain ⟨hP1, hK1, hD1⟩ := hB
        rw [htC] at hP1
        have hK1 := va_K.moved hvm.symm hK1
        obtain ⟨hP, hD⟩ := va_join (wr := [(zo13rrirrrr h0 sc kp ik bl go ch bo), (zo10ririliiriririr sc aTp (nI ts) aHl (nI nh) ed mi sn aHs (nI n) aWk (nI wz) aBk (nI bz) aFc), (zaR aHs cHs 8 fHs)]) (w1 := [(zo1iri bo mdc9_24 aEl (nI sz_9_25)), (zaR aEl cEl 10 fEl9_26)]) hP hD [3, 4] [0, 1, 2] rfl rfl (by decide) (by decide) hk1 hFc hP1 hD1
        have hK := (hK.sub (tys' := [(cHs, .object "MistHeaps$Heap")]) [0] rfl).app hK1
        generalize H1 = H at hP hS ⊢
        have hP : va_P (dC, dI) vwCl [(zo13rrirrrr h0 sc kp ik bl go ch bo), (zo10ririliiriririr sc aTp (nI ts) aHl (nI nh) ed mi sn aHs (nI n) aWk (nI wz) aBk (nI bz) aFc), (zaR aHs cHs 8 fHs), (zo1iri bo mdc9_24 aEl (nI sz_9_25)), (zaR aEl cEl 10 fEl9_26)] H := hP
        have hD : va_D A [(zo13rrirrrr h0 sc kp ik bl go ch bo), (zo10ririliiriririr sc aTp (nI ts) aHl (nI nh) ed mi sn aHs (nI n) aWk (nI wz) aBk (nI bz) aFc), (zaR aHs cHs 8 fHs), (zo1iri bo mdc9_24 aEl (nI sz_9_25)), (zaR aEl cEl 10 fEl9_26)] := hD
        have hK : va_K (dC, dI) vwCl [(cHs, .object "MistHeaps$Heap"), (cEl, .object "java/lang/Object")] s := hK
        obtain ⟨er_27, e_28, hL_29⟩ := hw_23
        obtain rfl := (e_28).symm
        subst er_27
        have hk := hpT_k0 (zyt j_8 (by omega)) e_13
        rw [hQ]
        have hP9 := hP.sub (ws' := [(zo13rrirrrr h0 sc kp ik bl go ch bo), (zo10ririliiriririr sc aTp (nI ts) aHl (nI nh) ed mi sn aHs (nI n) aWk (nI wz) aBk (nI bz) aFc), (zaR aHs cHs 8 fHs), (zo1iri bo mdc9_24 aEl (nI (0 + 1))), (zaR aEl cEl 10 fEl9_26)]) [0, 1, 2, 3, 4] rfl
        have hD9 := hD.sub (ws' := [(zo13rrirrrr h0 sc kp ik bl go ch bo), (zo10ririliiriririr sc aTp (nI ts) aHl (nI nh) ed mi sn aHs (nI n) aWk (nI wz) aBk (nI bz) aFc), (zaR aHs cHs 8 fHs), (zo1iri bo mdc9_24 aEl (nI (0 + 1))), (zaR aEl cEl 10 fEl9_26)]) [0, 1, 2, 3, 4] (by decide) rfl
        have hK9 := hK.sub (tys' := [(cHs, .object "MistHeaps$Heap"), (cEl, .object "java/lang/Object")]) [0, 1] rfl
        refine W.widen (k := 1) (n := 10) (by omega) (by omega) ?_
        exact W.iret (v := z + nI j_8) hx hb hr (fun tQ htQ hWQ => ⟨⟨(z + nI j_8), (mdc9_24, (0 + 1), fEl9_26), rfl, ⟨(kS0 (m := nI j_8) (v := yv j_8) (x := z) hk).1.trans (ac_0 (n := n) (yk := yk) (yv := yv) (j := j_8) (y := y) (z := z) hn8 (by omega) (by assumption)).1, by omega, by rw [(ac_0 (n := n) (yk := yk) (yv := yv) (j := j_8) (y := y) (z := z) hn8 (by omega) (by assumption)).2, (kS0 (m := nI j_8) (v := yv j_8) (x := z) hk).2]; exact hL_29⟩, by rw [htQ]; exact hP9, va_K.moved hWQ.alike hK9, hD9⟩, hS.F htQ⟩) hS.2.2 dX11_act_62
      · skip
        have hY : Fz dC dI [(zo6iiii (ya j_8) (yk j_8) (nI j_8) (yv j_8) (yc j_8))] [] A s := by have h9 := (hH_ j_8 (by omega)).2; rw [hpE, e_13] at h9; exact h9
        have hPc := hP.sub (ws' := [(zo1iri bo mdc9_3 aEl (nI 0)), (zaR aEl cEl 10 fEl9_5)]) [3, 4] rfl
        have hDc := hD.sub (ws' := [(zo1iri bo mdc9_3 aEl (nI 0)), (zaR aEl cEl 10 fEl9_5)]) [3, 4] (by decide) rfl
        have hKc := hK.sub (tys' := [(cEl, .object "java/lang/Object")]) [1] rfl
        have hFc := va_free (wc := [(zo1iri bo mdc9_3 aEl (nI 0)), (zaR aEl cEl 10 fEl9_5)]) hD hS hA [3, 4] rfl
        refine va_calli (va_runU (As := [.int z, .ref bo]) (rest := []) ⟨hx, hb, hml, hown, hts⟩ (c_X4_doSees_X4_1 l dC dI ad cB bS    bo aEl j_8 (yk j_8) (yv j_8) (yc j_8) z cEl fEl9_5 (ya j_8) 0 mdc9_3 ([] : List Nat) H.size (by omega) (okL_nil)) (va_cwO 2 hts gX11_act_X4_doSees_u233X4 rfl rfl rfl kc_xAct1_3 (by decide +kernel) ⟨Nat.le_of_ble_eq_true rfl, Nat.le_of_ble_eq_true rfl⟩) ⟨fun a U g mk q => by obtain ⟨q0, q1, qP, qK, qD, qhI_, qhB_, qhW_, qhZ⟩ := q; exact ⟨q0, q1, qP, va_K.moved (u := U) (U := U.calling g mk a) (Vm.Alike.refl U.vm) qK, qD, qhI_.same rfl rfl, qhB_.same rfl rfl, qhW_.same rfl rfl, qhZ.same rfl rfl⟩, va_recv hY.2.1 (hY.P hS) (ci := 6) (q := (RX4, TX4, 4)) (q0 := 0) rfl rfl, fun U hU hW => ⟨rfl, by rw [hU], by rw [hU]; exact hPc, va_K.moved hW.alike hKc, hDc.weaken (fun _ _ _ _ => trivial), hI_.call hS hU hW (fun q h => hFc q h), hB_.call hS hU hW (fun q h => hFc q h), hW_.call hS hU hW (fun q h => hFc q h), hY.call hS hU hW (fun q h => hFc q h)⟩⟩ rfl rfl hl.1 rfl (lv_room (Nat.le_of_ble_eq_true rfl)) dX11_act_59 ⟨Nat.le_of_ble_eq_true rfl, Nat.le_of_ble_eq_true rfl⟩) hS (fun q _ h => hFc q h) hFc (fun r_30 u tC H1 locs htC hvm hw_31 hB hz1 hk1 hS => ?_)
        obtain ⟨mdc9_32, sz_9_33, fEl9_34⟩ := u
        try dsimp only at hw_31 hB
        obtain ⟨hP1, hK1, hD1⟩ := hB
        rw [htC] at hP1
        have hK1 := va_K.moved hvm.symm hK1
        obtain ⟨hP, hD⟩ := va_join (wr := [(zo13rrirrrr h0 sc kp ik bl go ch bo), (zo10ririliiriririr sc aTp (nI ts) aHl (nI nh) ed mi sn aHs (nI n) aWk (nI wz) aBk (nI bz) aFc), (zaR aHs cHs 8 fHs)]) (w1 := [(zo1iri bo mdc9_32 aEl (nI sz_9_33)), (zaR aEl cEl 10 fEl9_34)]) hP hD [3, 4] [0, 1, 2] rfl rfl (by decide) (by decide) hk1 hFc hP1 hD1
        have hK := (hK.sub (tys' := [(cHs, .object "MistHeaps$Heap")]) [0] rfl).app hK1
        generalize H1 = H at hP hS ⊢
        have hP : va_P (dC, dI) vwCl [(zo13rrirrrr h0 sc kp ik bl go ch bo), (zo10ririliiriririr sc aTp (nI ts) aHl (nI nh) ed mi sn aHs (nI n) aWk (nI wz) aBk (nI bz) aFc), (zaR aHs cHs 8 fHs), (zo1iri bo mdc9_32 aEl (nI sz_9_33)), (zaR aEl cEl 10 fEl9_34)] H := hP
        have hD : va_D A [(zo13rrirrrr h0 sc kp ik bl go ch bo), (zo10ririliiriririr sc aTp (nI ts) aHl (nI nh) ed mi sn aHs (nI n) aWk (nI wz) aBk (nI bz) aFc), (zaR aHs cHs 8 fHs), (zo1iri bo mdc9_32 aEl (nI sz_9_33)), (zaR aEl cEl 10 fEl9_34)] := hD
        have hK : va_K (dC, dI) vwCl [(cHs, .object "MistHeaps$Heap"), (cEl, .object "java/lang/Object")] s := hK
        obtain ⟨er_35, e_36, hL_37⟩ := hw_31
        obtain rfl := (e_36).symm
        subst er_35
        have hk := hpT_k1 (zyt j_8 (by omega)) e_13
        rw [hQ]
        have hP9 := hP.sub (ws' := [(zo13rrirrrr h0 sc kp ik bl go ch bo), (zo10ririliiriririr sc aTp (nI ts) aHl (nI nh) ed mi sn aHs (nI n) aWk (nI wz) aBk (nI bz) aFc), (zaR aHs cHs 8 fHs), (zo1iri bo mdc9_32 aEl (nI (0 + 2))), (zaR aEl cEl 10 fEl9_34)]) [0, 1, 2, 3, 4] rfl
        have hD9 := hD.sub (ws' := [(zo13rrirrrr h0 sc kp ik bl go ch bo), (zo10ririliiriririr sc aTp (nI ts) aHl (nI nh) ed mi sn aHs (nI n) aWk (nI wz) aBk (nI bz) aFc), (zaR aHs cHs 8 fHs), (zo1iri bo mdc9_32 aEl (nI (0 + 2))), (zaR aEl cEl 10 fEl9_34)]) [0, 1, 2, 3, 4] (by decide) rfl
        have hK9 := hK.sub (tys' := [(cHs, .object "MistHeaps$Heap"), (cEl, .object "java/lang/Object")]) [0, 1] rfl
        refine W.widen (k := 1) (n := 10) (by omega) (by omega) ?_
        exact W.iret (v := z * 3 + nI j_8) hx hb hr (fun tQ htQ hWQ => ⟨⟨(z * 3 + nI j_8), (mdc9_32, (0 + 2), fEl9_34), rfl, ⟨(kS1 (m := nI j_8) (v := yv j_8) (x := z) hk).1.trans (ac_0 (n := n) (yk := yk) (yv := yv) (j := j_8) (y := y) (z := z) hn8 (by omega) (by assumption)).1, by omega, by rw [(ac_0 (n := n) (yk := yk) (yv := yv) (j := j_8) (y := y) (z := z) hn8 (by omega) (by assumption)).2, (kS1 (m := nI j_8) (v := yv j_8) (x := z) hk).2]; exact hL_37⟩, by rw [htQ]; exact hP9, va_K.moved hWQ.alike hK9, hD9⟩, hS.F htQ⟩) hS.2.2 dX11_act_62
      · skip
        have hY : Fz dC dI [(zo8iiii (ya j_8) (yk j_8) (nI j_8) (yv j_8) (yc j_8))] [] A s := by have h9 := (hH_ j_8 (by omega)).2; rw [hpE, e_13] at h9; exact h9
        have hPc := hP.sub (ws' := [(zo1iri bo mdc9_3 aEl (nI 0)), (zaR aEl cEl 10 fEl9_5)]) [3, 4] rfl
        have hDc := hD.sub (ws' := [(zo1iri bo mdc9_3 aEl (nI 0)), (zaR aEl cEl 10 fEl9_5)]) [3, 4] (by decide) rfl
        have hKc := hK.sub (tys' := [(cEl, .object "java/lang/Object")]) [1] rfl
        have hFc := va_free (wc := [(zo1iri bo mdc9_3 aEl (nI 0)), (zaR aEl cEl 10 fEl9_5)]) hD hS hA [3, 4] rfl
        refine va_calli (va_runU (As := [.int z, .ref bo]) (rest := []) ⟨hx, hb, hml, hown, hts⟩ (c_X3_doSees_X6_1 l dC dI ad cB bS    bo aEl j_8 (yk j_8) (yv j_8) (yc j_8) z cEl fEl9_5 (ya j_8) 0 mdc9_3 ([] : List Nat) H.size (by omega) (okL_nil)) (va_cwU 2 hts gX11_act_X3_doSees_u233X6 rfl rfl rfl rfl (by decide +kernel) ⟨Nat.le_of_ble_eq_true rfl, Nat.le_of_ble_eq_true rfl⟩) ⟨fun a U g mk q => by obtain ⟨q0, q1, qP, qK, qD, qhI_, qhB_, qhW_, qhZ⟩ := q; exact ⟨q0, q1, qP, va_K.moved (u := U) (U := U.calling g mk a) (Vm.Alike.refl U.vm) qK, qD, qhI_.same rfl rfl, qhB_.same rfl rfl, qhW_.same rfl rfl, qhZ.same rfl rfl⟩, va_recv hY.2.1 (hY.P hS) (ci := 8) (q := (RX6, TX6, 4)) (q0 := 0) rfl rfl, fun U hU hW => ⟨rfl, by rw [hU], by rw [hU]; exact hPc, va_K.moved hW.alike hKc, hDc.weaken (fun _ _ _ _ => trivial), hI_.call hS hU hW (fun q h => hFc q h), hB_.call hS hU hW (fun q h => hFc q h), hW_.call hS hU hW (fun q h => hFc q h), hY.call hS hU hW (fun q h => hFc q h)⟩⟩ rfl rfl hl.1 rfl (lv_room (Nat.le_of_ble_eq_true rfl)) dX11_act_59 ⟨Nat.le_of_ble_eq_true rfl, Nat.le_of_ble_eq_true rfl⟩) hS (fun q _ h => hFc q h) hFc (fun r_38 u tC H1 locs htC hvm hw_39 hB hz1 hk1 hS => ?_)
        obtain ⟨mdc9_40, sz_9_41, fEl9_42⟩ := u
        try dsimp only at hw_39 hB
        obtain ⟨hP1, hK1, hD1⟩ := hB
        rw [htC] at hP1
        have hK1 := va_K.moved hvm.symm hK1
        obtain ⟨hP, hD⟩ := va_join (wr := [(zo13rrirrrr h0 sc kp ik bl go ch bo), (zo10ririliiriririr sc aTp (nI ts) aHl (nI nh) ed mi sn aHs (nI n) aWk (nI wz) aBk (nI bz) aFc), (zaR aHs cHs 8 fHs)]) (w1 := [(zo1iri bo mdc9_40 aEl (nI sz_9_41)), (zaR aEl cEl 10 fEl9_42)]) hP hD [3, 4] [0, 1, 2] rfl rfl (by decide) (by decide) hk1 hFc hP1 hD1
        have hK := (hK.sub (tys' := [(cHs, .object "MistHeaps$Heap")]) [0] rfl).app hK1
        generalize H1 = H at hP hS ⊢
        have hP : va_P (dC, dI) vwCl [(zo13rrirrrr h0 sc kp ik bl go ch bo), (zo10ririliiriririr sc aTp (nI ts) aHl (nI nh) ed mi sn aHs (nI n) aWk (nI wz) aBk (nI bz) aFc), (zaR aHs cHs 8 fHs), (zo1iri bo mdc9_40 aEl (nI sz_9_41)), (zaR aEl cEl 10 fEl9_42)] H := hP
        have hD : va_D A [(zo13rrirrrr h0 sc kp ik bl go ch bo), (zo10ririliiriririr sc aTp (nI ts) aHl (nI nh) ed mi sn aHs (nI n) aWk (nI wz) aBk (nI bz) aFc), (zaR aHs cHs 8 fHs), (zo1iri bo mdc9_40 aEl (nI sz_9_41)), (zaR aEl cEl 10 fEl9_42)] := hD
        have hK : va_K (dC, dI) vwCl [(cHs, .object "MistHeaps$Heap"), (cEl, .object "java/lang/Object")] s := hK
        obtain ⟨er_43, e_44, hL_45⟩ := hw_39
        obtain rfl := (e_44).symm
        subst er_43
        have hk := hpT_k2 (zyt j_8 (by omega)) e_13
        rw [hQ]
        have hP9 := hP.sub (ws' := [(zo13rrirrrr h0 sc kp ik bl go ch bo), (zo10ririliiriririr sc aTp (nI ts) aHl (nI nh) ed mi sn aHs (nI n) aWk (nI wz) aBk (nI bz) aFc), (zaR aHs cHs 8 fHs), (zo1iri bo mdc9_40 aEl (nI (0 + 1))), (zaR aEl cEl 10 fEl9_42)]) [0, 1, 2, 3, 4] rfl
        have hD9 := hD.sub (ws' := [(zo13rrirrrr h0 sc kp ik bl go ch bo), (zo10ririliiriririr sc aTp (nI ts) aHl (nI nh) ed mi sn aHs (nI n) aWk (nI wz) aBk (nI bz) aFc), (zaR aHs cHs 8 fHs), (zo1iri bo mdc9_40 aEl (nI (0 + 1))), (zaR aEl cEl 10 fEl9_42)]) [0, 1, 2, 3, 4] (by decide) rfl
        have hK9 := hK.sub (tys' := [(cHs, .object "MistHeaps$Heap"), (cEl, .object "java/lang/Object")]) [0, 1] rfl
        refine W.widen (k := 1) (n := 10) (by omega) (by omega) ?_
        exact W.iret (v := z + nI j_8) hx hb hr (fun tQ htQ hWQ => ⟨⟨(z + nI j_8), (mdc9_40, (0 + 1), fEl9_42), rfl, ⟨(kS2 (m := nI j_8) (v := yv j_8) (x := z) hk).1.trans (ac_0 (n := n) (yk := yk) (yv := yv) (j := j_8) (y := y) (z := z) hn8 (by omega) (by assumption)).1, by omega, by rw [(ac_0 (n := n) (yk := yk) (yv := yv) (j := j_8) (y := y) (z := z) hn8 (by omega) (by assumption)).2, (kS2 (m := nI j_8) (v := yv j_8) (x := z) hk).2]; exact hL_45⟩, by rw [htQ]; exact hP9, va_K.moved hWQ.alike hK9, hD9⟩, hS.F htQ⟩) hS.2.2 dX11_act_62
      · skip
        have hY : Fz dC dI [(zo9iiii (ya j_8) (yk j_8) (nI j_8) (yv j_8) (yc j_8))] [] A s := by have h9 := (hH_ j_8 (by omega)).2; rw [hpE, e_13] at h9; exact h9
        have hPc := hP.sub (ws' := [(zo1iri bo mdc9_3 aEl (nI 0)), (zaR aEl cEl 10 fEl9_5)]) [3, 4] rfl
        have hDc := hD.sub (ws' := [(zo1iri bo mdc9_3 aEl (nI 0)), (zaR aEl cEl 10 fEl9_5)]) [3, 4] (by decide) rfl
        have hKc := hK.sub (tys' := [(cEl, .object "java/lang/Object")]) [1] rfl
        have hFc := va_free (wc := [(zo1iri bo mdc9_3 aEl (nI 0)), (zaR aEl cEl 10 fEl9_5)]) hD hS hA [3, 4] rfl
        refine va_calli (va_runU (As := [.int z, .ref bo]) (rest := []) ⟨hx, hb, hml, hown, hts⟩ (c_X3_doSees_X7_1 l dC dI ad cB bS    bo aEl j_8 (yk j_8) (yv j_8) (yc j_8) z cEl fEl9_5 (ya j_8) 0 mdc9_3 ([] : List Nat) H.size (by omega) (okL_nil)) (va_cwU 2 hts gX11_act_X3_doSees_u233X7 rfl rfl rfl rfl (by decide +kernel) ⟨Nat.le_of_ble_eq_true rfl, Nat.le_of_ble_eq_true rfl⟩) ⟨fun a U g mk q => by obtain ⟨q0, q1, qP, qK, qD, qhI_, qhB_, qhW_, qhZ⟩ := q; exact ⟨q0, q1, qP, va_K.moved (u := U) (U := U.calling g mk a) (Vm.Alike.refl U.vm) qK, qD, qhI_.same rfl rfl, qhB_.same rfl rfl, qhW_.same rfl rfl, qhZ.same rfl rfl⟩, va_recv hY.2.1 (hY.P hS) (ci := 9) (q := (RX7, TX7, 4)) (q0 := 0) rfl rfl, fun U hU hW => ⟨rfl, by rw [hU], by rw [hU]; exact hPc, va_K.moved hW.alike hKc, hDc.weaken (fun _ _ _ _ => trivial), hI_.call hS hU hW (fun q h => hFc q h), hB_.call hS hU hW (fun q h => hFc q h), hW_.call hS hU hW (fun q h => hFc q h), hY.call hS hU hW (fun q h => hFc q h)⟩⟩ rfl rfl hl.1 rfl (lv_room (Nat.le_of_ble_eq_true rfl)) dX11_act_59 ⟨Nat.le_of_ble_eq_true rfl, Nat.le_of_ble_eq_true rfl⟩) hS (fun q _ h => hFc q h) hFc (fun r_46 u tC H1 locs htC hvm hw_47 hB hz1 hk1 hS => ?_)
        obtain ⟨mdc9_48, sz_9_49, fEl9_50⟩ := u
        try dsimp only at hw_47 hB
        obtain ⟨hP1, hK1, hD1⟩ := hB
        rw [htC] at hP1
        have hK1 := va_K.moved hvm.symm hK1
        obtain ⟨hP, hD⟩ := va_join (wr := [(zo13rrirrrr h0 sc kp ik bl go ch bo), (zo10ririliiriririr sc aTp (nI ts) aHl (nI nh) ed mi sn aHs (nI n) aWk (nI wz) aBk (nI bz) aFc), (zaR aHs cHs 8 fHs)]) (w1 := [(zo1iri bo mdc9_48 aEl (nI sz_9_49)), (zaR aEl cEl 10 fEl9_50)]) hP hD [3, 4] [0, 1, 2] rfl rfl (by decide) (by decide) hk1 hFc hP1 hD1
        have hK := (hK.sub (tys' := [(cHs, .object "MistHeaps$Heap")]) [0] rfl).app hK1
        generalize H1 = H at hP hS ⊢
        have hP : va_P (dC, dI) vwCl [(zo13rrirrrr h0 sc kp ik bl go ch bo), (zo10ririliiriririr sc aTp (nI ts) aHl (nI nh) ed mi sn aHs (nI n) aWk (nI wz) aBk (nI bz) aFc), (zaR aHs cHs 8 fHs), (zo1iri bo mdc9_48 aEl (nI sz_9_49)), (zaR aEl cEl 10 fEl9_50)] H := hP
        have hD : va_D A [(zo13rrirrrr h0 sc kp ik bl go ch bo), (zo10ririliiriririr sc aTp (nI ts) aHl (nI nh) ed mi sn aHs (nI n) aWk (nI wz) aBk (nI bz) aFc), (zaR aHs cHs 8 fHs), (zo1iri bo mdc9_48 aEl (nI sz_9_49)), (zaR aEl cEl 10 fEl9_50)] := hD
        have hK : va_K (dC, dI) vwCl [(cHs, .object "MistHeaps$Heap"), (cEl, .object "java/lang/Object")] s := hK
        obtain ⟨er_51, e_52, hL_53⟩ := hw_47
        obtain rfl := (e_52).symm
        subst er_51
        have hk := hpT_k6 (zyt j_8 (by omega)) e_13
        rw [hQ]
        have hP9 := hP.sub (ws' := [(zo13rrirrrr h0 sc kp ik bl go ch bo), (zo10ririliiriririr sc aTp (nI ts) aHl (nI nh) ed mi sn aHs (nI n) aWk (nI wz) aBk (nI bz) aFc), (zaR aHs cHs 8 fHs), (zo1iri bo mdc9_48 aEl (nI (0 + 1))), (zaR aEl cEl 10 fEl9_50)]) [0, 1, 2, 3, 4] rfl
        have hD9 := hD.sub (ws' := [(zo13rrirrrr h0 sc kp ik bl go ch bo), (zo10ririliiriririr sc aTp (nI ts) aHl (nI nh) ed mi sn aHs (nI n) aWk (nI wz) aBk (nI bz) aFc), (zaR aHs cHs 8 fHs), (zo1iri bo mdc9_48 aEl (nI (0 + 1))), (zaR aEl cEl 10 fEl9_50)]) [0, 1, 2, 3, 4] (by decide) rfl
        have hK9 := hK.sub (tys' := [(cHs, .object "MistHeaps$Heap"), (cEl, .object "java/lang/Object")]) [0, 1] rfl
        refine W.widen (k := 1) (n := 10) (by omega) (by omega) ?_
        exact W.iret (v := z + nI j_8) hx hb hr (fun tQ htQ hWQ => ⟨⟨(z + nI j_8), (mdc9_48, (0 + 1), fEl9_50), rfl, ⟨(kS6 (m := nI j_8) (v := yv j_8) (x := z) hk).1.trans (ac_0 (n := n) (yk := yk) (yv := yv) (j := j_8) (y := y) (z := z) hn8 (by omega) (by assumption)).1, by omega, by rw [(ac_0 (n := n) (yk := yk) (yv := yv) (j := j_8) (y := y) (z := z) hn8 (by omega) (by assumption)).2, (kS6 (m := nI j_8) (v := yv j_8) (x := z) hk).2]; exact hL_53⟩, by rw [htQ]; exact hP9, va_K.moved hWQ.alike hK9, hD9⟩, hS.F htQ⟩) hS.2.2 dX11_act_62
      · skip
        have hY : Fz dC dI [(zo11iiii (ya j_8) (yk j_8) (nI j_8) (yv j_8) (yc j_8))] [] A s := by have h9 := (hH_ j_8 (by omega)).2; rw [hpE, e_13] at h9; exact h9
        have hPc := hP.sub (ws' := [(zo1iri bo mdc9_3 aEl (nI 0)), (zaR aEl cEl 10 fEl9_5)]) [3, 4] rfl
        have hDc := hD.sub (ws' := [(zo1iri bo mdc9_3 aEl (nI 0)), (zaR aEl cEl 10 fEl9_5)]) [3, 4] (by decide) rfl
        have hKc := hK.sub (tys' := [(cEl, .object "java/lang/Object")]) [1] rfl
        have hFc := va_free (wc := [(zo1iri bo mdc9_3 aEl (nI 0)), (zaR aEl cEl 10 fEl9_5)]) hD hS hA [3, 4] rfl
        refine va_calli (va_runU (As := [.int z, .ref bo]) (rest := []) ⟨hx, hb, hml, hown, hts⟩ (c_X9_doSees_X9_1 l dC dI ad cB bS    bo aEl j_8 (yk j_8) (yv j_8) (yc j_8) z cEl fEl9_5 (ya j_8) 0 mdc9_3 ([] : List Nat) H.size (by omega) (okL_nil)) (va_cwO 2 hts gX11_act_X9_doSees_u233X9 rfl rfl rfl kc_xAct1_3 (by decide +kernel) ⟨Nat.le_of_ble_eq_true rfl, Nat.le_of_ble_eq_true rfl⟩) ⟨fun a U g mk q => by obtain ⟨q0, q1, qP, qK, qD, qhI_, qhB_, qhW_, qhZ⟩ := q; exact ⟨q0, q1, qP, va_K.moved (u := U) (U := U.calling g mk a) (Vm.Alike.refl U.vm) qK, qD, qhI_.same rfl rfl, qhB_.same rfl rfl, qhW_.same rfl rfl, qhZ.same rfl rfl⟩, va_recv hY.2.1 (hY.P hS) (ci := 11) (q := (RX9, TX9, 4)) (q0 := 0) rfl rfl, fun U hU hW => ⟨rfl, by rw [hU], by rw [hU]; exact hPc, va_K.moved hW.alike hKc, hDc.weaken (fun _ _ _ _ => trivial), hI_.call hS hU hW (fun q h => hFc q h), hB_.call hS hU hW (fun q h => hFc q h), hW_.call hS hU hW (fun q h => hFc q h), hY.call hS hU hW (fun q h => hFc q h)⟩⟩ rfl rfl hl.1 rfl (lv_room (Nat.le_of_ble_eq_true rfl)) dX11_act_59 ⟨Nat.le_of_ble_eq_true rfl, Nat.le_of_ble_eq_true rfl⟩) hS (fun q _ h => hFc q h) hFc (fun r_54 u tC H1 locs htC hvm hw_55 hB hz1 hk1 hS => ?_)
        obtain ⟨mdc9_56, sz_9_57, fEl9_58⟩ := u
        try dsimp only at hw_55 hB
        obtain ⟨hP1, hK1, hD1⟩ := hB
        rw [htC] at hP1
        have hK1 := va_K.moved hvm.symm hK1
        obtain ⟨hP, hD⟩ := va_join (wr := [(zo13rrirrrr h0 sc kp ik bl go ch bo), (zo10ririliiriririr sc aTp (nI ts) aHl (nI nh) ed mi sn aHs (nI n) aWk (nI wz) aBk (nI bz) aFc), (zaR aHs cHs 8 fHs)]) (w1 := [(zo1iri bo mdc9_56 aEl (nI sz_9_57)), (zaR aEl cEl 10 fEl9_58)]) hP hD [3, 4] [0, 1, 2] rfl rfl (by decide) (by decide) hk1 hFc hP1 hD1
        have hK := (hK.sub (tys' := [(cHs, .object "MistHeaps$Heap")]) [0] rfl).app hK1
        generalize H1 = H at hP hS ⊢
        have hP : va_P (dC, dI) vwCl [(zo13rrirrrr h0 sc kp ik bl go ch bo), (zo10ririliiriririr sc aTp (nI ts) aHl (nI nh) ed mi sn aHs (nI n) aWk (nI wz) aBk (nI bz) aFc), (zaR aHs cHs 8 fHs), (zo1iri bo mdc9_56 aEl (nI sz_9_57)), (zaR aEl cEl 10 fEl9_58)] H := hP
        have hD : va_D A [(zo13rrirrrr h0 sc kp ik bl go ch bo), (zo10ririliiriririr sc aTp (nI ts) aHl (nI nh) ed mi sn aHs (nI n) aWk (nI wz) aBk (nI bz) aFc), (zaR aHs cHs 8 fHs), (zo1iri bo mdc9_56 aEl (nI sz_9_57)), (zaR aEl cEl 10 fEl9_58)] := hD
        have hK : va_K (dC, dI) vwCl [(cHs, .object "MistHeaps$Heap"), (cEl, .object "java/lang/Object")] s := hK
        obtain ⟨er_59, e_60, hL_61⟩ := hw_55
        obtain rfl := (e_60).symm
        subst er_59
        have hk := hpT_k5 (zyt j_8 (by omega)) e_13
        rw [hQ]
        have hP9 := hP.sub (ws' := [(zo13rrirrrr h0 sc kp ik bl go ch bo), (zo10ririliiriririr sc aTp (nI ts) aHl (nI nh) ed mi sn aHs (nI n) aWk (nI wz) aBk (nI bz) aFc), (zaR aHs cHs 8 fHs), (zo1iri bo mdc9_56 aEl (nI (0 + 2))), (zaR aEl cEl 10 fEl9_58)]) [0, 1, 2, 3, 4] rfl
        have hD9 := hD.sub (ws' := [(zo13rrirrrr h0 sc kp ik bl go ch bo), (zo10ririliiriririr sc aTp (nI ts) aHl (nI nh) ed mi sn aHs (nI n) aWk (nI wz) aBk (nI bz) aFc), (zaR aHs cHs 8 fHs), (zo1iri bo mdc9_56 aEl (nI (0 + 2))), (zaR aEl cEl 10 fEl9_58)]) [0, 1, 2, 3, 4] (by decide) rfl
        have hK9 := hK.sub (tys' := [(cHs, .object "MistHeaps$Heap"), (cEl, .object "java/lang/Object")]) [0, 1] rfl
        refine W.widen (k := 1) (n := 10) (by omega) (by omega) ?_
        exact W.iret (v := (z + nI j_8) ^^^ nI j_8) hx hb hr (fun tQ htQ hWQ => ⟨⟨((z + nI j_8) ^^^ nI j_8), (mdc9_56, (0 + 2), fEl9_58), rfl, ⟨(kS5 (m := nI j_8) (v := yv j_8) (x := z) hk).1.trans (ac_0 (n := n) (yk := yk) (yv := yv) (j := j_8) (y := y) (z := z) hn8 (by omega) (by assumption)).1, by omega, by rw [(ac_0 (n := n) (yk := yk) (yv := yv) (j := j_8) (y := y) (z := z) hn8 (by omega) (by assumption)).2, (kS5 (m := nI j_8) (v := yv j_8) (x := z) hk).2]; exact hL_61⟩, by rw [htQ]; exact hP9, va_K.moved hWQ.alike hK9, hD9⟩, hS.F htQ⟩) hS.2.2 dX11_act_62
      · skip
        have hY : Fz dC dI [(zo12iiii (ya j_8) (yk j_8) (nI j_8) (yv j_8) (yc j_8))] [] A s := by have h9 := (hH_ j_8 (by omega)).2; rw [hpE, e_13] at h9; exact h9
        have hPc := hP.sub (ws' := [(zo1iri bo mdc9_3 aEl (nI 0)), (zaR aEl cEl 10 fEl9_5)]) [3, 4] rfl
        have hDc := hD.sub (ws' := [(zo1iri bo mdc9_3 aEl (nI 0)), (zaR aEl cEl 10 fEl9_5)]) [3, 4] (by decide) rfl
        have hKc := hK.sub (tys' := [(cEl, .object "java/lang/Object")]) [1] rfl
        have hFc := va_free (wc := [(zo1iri bo mdc9_3 aEl (nI 0)), (zaR aEl cEl 10 fEl9_5)]) hD hS hA [3, 4] rfl
        refine va_calli (va_runU (As := [.int z, .ref bo]) (rest := []) ⟨hx, hb, hml, hown, hts⟩ (c_X4_doSees_X10_1 l dC dI ad cB bS    bo aEl j_8 (yk j_8) (yv j_8) (yc j_8) z cEl fEl9_5 (ya j_8) 0 mdc9_3 ([] : List Nat) H.size (by omega) (okL_nil)) (va_cwO 2 hts gX11_act_X4_doSees_u233X10 rfl rfl rfl kc_xAct1_3 (by decide +kernel) ⟨Nat.le_of_ble_eq_true rfl, Nat.le_of_ble_eq_true rfl⟩) ⟨fun a U g mk q => by obtain ⟨q0, q1, qP, qK, qD, qhI_, qhB_, qhW_, qhZ⟩ := q; exact ⟨q0, q1, qP, va_K.moved (u := U) (U := U.calling g mk a) (Vm.Alike.refl U.vm) qK, qD, qhI_.same rfl rfl, qhB_.same rfl rfl, qhW_.same rfl rfl, qhZ.same rfl rfl⟩, va_recv hY.2.1 (hY.P hS) (ci := 12) (q := (RX10, TX10, 4)) (q0 := 0) rfl rfl, fun U hU hW => ⟨rfl, by rw [hU], by rw [hU]; exact hPc, va_K.moved hW.alike hKc, hDc.weaken (fun _ _ _ _ => trivial), hI_.call hS hU hW (fun q h => hFc q h), hB_.call hS hU hW (fun q h => hFc q h), hW_.call hS hU hW (fun q h => hFc q h), hY.call hS hU hW (fun q h => hFc q h)⟩⟩ rfl rfl hl.1 rfl (lv_room (Nat.le_of_ble_eq_true rfl)) dX11_act_59 ⟨Nat.le_of_ble_eq_true rfl, Nat.le_of_ble_eq_true rfl⟩) hS (fun q _ h => hFc q h) hFc (fun r_62 u tC H1 locs htC hvm hw_63 hB hz1 hk1 hS => ?_)
        obtain ⟨mdc9_64, sz_9_65, fEl9_66⟩ := u
        try dsimp only at hw_63 hB
        obtain ⟨hP1, hK1, hD1⟩ := hB
        rw [htC] at hP1
        have hK1 := va_K.moved hvm.symm hK1
        obtain ⟨hP, hD⟩ := va_join (wr := [(zo13rrirrrr h0 sc kp ik bl go ch bo), (zo10ririliiriririr sc aTp (nI ts) aHl (nI nh) ed mi sn aHs (nI n) aWk (nI wz) aBk (nI bz) aFc), (zaR aHs cHs 8 fHs)]) (w1 := [(zo1iri bo mdc9_64 aEl (nI sz_9_65)), (zaR aEl cEl 10 fEl9_66)]) hP hD [3, 4] [0, 1, 2] rfl rfl (by decide) (by decide) hk1 hFc hP1 hD1
        have hK := (hK.sub (tys' := [(cHs, .object "MistHeaps$Heap")]) [0] rfl).app hK1
        generalize H1 = H at hP hS ⊢
        have hP : va_P (dC, dI) vwCl [(zo13rrirrrr h0 sc kp ik bl go ch bo), (zo10ririliiriririr sc aTp (nI ts) aHl (nI nh) ed mi sn aHs (nI n) aWk (nI wz) aBk (nI bz) aFc), (zaR aHs cHs 8 fHs), (zo1iri bo mdc9_64 aEl (nI sz_9_65)), (zaR aEl cEl 10 fEl9_66)] H := hP
        have hD : va_D A [(zo13rrirrrr h0 sc kp ik bl go ch bo), (zo10ririliiriririr sc aTp (nI ts) aHl (nI nh) ed mi sn aHs (nI n) aWk (nI wz) aBk (nI bz) aFc), (zaR aHs cHs 8 fHs), (zo1iri bo mdc9_64 aEl (nI sz_9_65)), (zaR aEl cEl 10 fEl9_66)] := hD
        have hK : va_K (dC, dI) vwCl [(cHs, .object "MistHeaps$Heap"), (cEl, .object "java/lang/Object")] s := hK
        obtain ⟨er_67, e_68, hL_69⟩ := hw_63
        obtain rfl := (e_68).symm
        subst er_67
        have hk := hpT_k4 (zyt j_8 (by omega)) e_13
        rw [hQ]
        have hP9 := hP.sub (ws' := [(zo13rrirrrr h0 sc kp ik bl go ch bo), (zo10ririliiriririr sc aTp (nI ts) aHl (nI nh) ed mi sn aHs (nI n) aWk (nI wz) aBk (nI bz) aFc), (zaR aHs cHs 8 fHs), (zo1iri bo mdc9_64 aEl (nI (0 + 2))), (zaR aEl cEl 10 fEl9_66)]) [0, 1, 2, 3, 4] rfl
        have hD9 := hD.sub (ws' := [(zo13rrirrrr h0 sc kp ik bl go ch bo), (zo10ririliiriririr sc aTp (nI ts) aHl (nI nh) ed mi sn aHs (nI n) aWk (nI wz) aBk (nI bz) aFc), (zaR aHs cHs 8 fHs), (zo1iri bo mdc9_64 aEl (nI (0 + 2))), (zaR aEl cEl 10 fEl9_66)]) [0, 1, 2, 3, 4] (by decide) rfl
        have hK9 := hK.sub (tys' := [(cHs, .object "MistHeaps$Heap"), (cEl, .object "java/lang/Object")]) [0, 1] rfl
        refine W.widen (k := 1) (n := 10) (by omega) (by omega) ?_
        exact W.iret (v := z * 3 + nI j_8) hx hb hr (fun tQ htQ hWQ => ⟨⟨(z * 3 + nI j_8), (mdc9_64, (0 + 2), fEl9_66), rfl, ⟨(kS4 (m := nI j_8) (v := yv j_8) (x := z) hk).1.trans (ac_0 (n := n) (yk := yk) (yv := yv) (j := j_8) (y := y) (z := z) hn8 (by omega) (by assumption)).1, by omega, by rw [(ac_0 (n := n) (yk := yk) (yv := yv) (j := j_8) (y := y) (z := z) hn8 (by omega) (by assumption)).2, (kS4 (m := nI j_8) (v := yv j_8) (x := z) hk).2]; exact hL_69⟩, by rw [htQ]; exact hP9, va_K.moved hWQ.alike hK9, hD9⟩, hS.F htQ⟩) hS.2.2 dX11_act_62
    by_cases c_12_1 : y = 1
    · skip
      refine lv_tableIn (tgt := 63) hx hb dX11_act_25 (by rw [c_12_1]; decide) (by rw [c_12_1]; decide) (by rw [c_12_1]; rfl) (by decide) ?_
      refine lv_aload hx hb dX11_act_63 (lv_at hl 0 rfl) ?_
      refine lv_iload_n hx hb dX11_act_65 rfl (lv_at hl 4 rfl) ?_
      refine lv_aload_n hx hb dX11_act_66 rfl (lv_at hl 1 rfl) ?_
      refine va_get (D := (dC, dI)) (ci := 13) (v := .ref bo) (C := RX11) (T := TX11) (N := 7) hx hb hts kc_xAct1_0 hown hK hP 0 rfl rfl 6 (by decide) (hts (.fieldLink RX11 49 "MistHeaps" "bodies" "Ljava/util/ArrayList;") kc_xAct1_1) (fun _ h9 => h9) rfl dX11_act_67 ?_
      rcases (show yi j_8 = 3 ∨ yi j_8 = 5 ∨ yi j_8 = 6 ∨ yi j_8 = 8 ∨ yi j_8 = 9 ∨ yi j_8 = 11 ∨ yi j_8 = 12 from (hH_ j_8 (by omega)).1) with e_70 | e_70 | e_70 | e_70 | e_70 | e_70 | e_70
      · skip
        have hY : Fz dC dI [(zo3iiii (ya j_8) (yk j_8) (nI j_8) (yv j_8) (yc j_8))] [] A s := by have h9 := (hH_ j_8 (by omega)).2; rw [hpE, e_70] at h9; exact h9
        have hPc := hP.sub (ws' := [(zo1iri bo mdc9_3 aEl (nI 0)), (zaR aEl cEl 10 fEl9_5)]) [3, 4] rfl
        have hDc := hD.sub (ws' := [(zo1iri bo mdc9_3 aEl (nI 0)), (zaR aEl cEl 10 fEl9_5)]) [3, 4] (by decide) rfl
        have hKc := hK.sub (tys' := [(cEl, .object "java/lang/Object")]) [1] rfl
        have hFc := va_free (wc := [(zo1iri bo mdc9_3 aEl (nI 0)), (zaR aEl cEl 10 fEl9_5)]) hD hS hA [3, 4] rfl
        refine va_calli (va_runU (As := [.int z, .ref bo]) (rest := []) ⟨hx, hb, hml, hown, hts⟩ (c_X3_doGoes_X1_1 l dC dI ad cB bS    bo aEl j_8 (yk j_8) (yv j_8) (yc j_8) z cEl fEl9_5 (ya j_8) 0 mdc9_3 ([] : List Nat) H.size (by omega) (okL_nil)) (va_cwU 2 hts gX11_act_X3_doGoes_u237X1 rfl rfl rfl rfl (by decide +kernel) ⟨Nat.le_of_ble_eq_true rfl, Nat.le_of_ble_eq_true rfl⟩) ⟨fun a U g mk q => by obtain ⟨q0, q1, qP, qK, qD, qhI_, qhB_, qhW_, qhZ⟩ := q; exact ⟨q0, q1, qP, va_K.moved (u := U) (U := U.calling g mk a) (Vm.Alike.refl U.vm) qK, qD, qhI_.same rfl rfl, qhB_.same rfl rfl, qhW_.same rfl rfl, qhZ.same rfl rfl⟩, va_recv hY.2.1 (hY.P hS) (ci := 3) (q := (RX1, TX1, 4)) (q0 := 0) rfl rfl, fun U hU hW => ⟨rfl, by rw [hU], by rw [hU]; exact hPc, va_K.moved hW.alike hKc, hDc.weaken (fun _ _ _ _ => trivial), hI_.call hS hU hW (fun q h => hFc q h), hB_.call hS hU hW (fun q h => hFc q h), hW_.call hS hU hW (fun q h => hFc q h), hY.call hS hU hW (fun q h => hFc q h)⟩⟩ rfl rfl hl.1 rfl (lv_room (Nat.le_of_ble_eq_true rfl)) dX11_act_70 ⟨Nat.le_of_ble_eq_true rfl, Nat.le_of_ble_eq_true rfl⟩) hS (fun q _ h => hFc q h) hFc (fun r_71 u tC H1 locs htC hvm hw_72 hB hz1 hk1 hS => ?_)
        obtain ⟨mdc9_73, sz_9_74, fEl9_75⟩ := u
        try dsimp only at hw_72 hB
        obtain ⟨hP1, hK1, hD1⟩ := hB
        rw [htC] at hP1
        have hK1 := va_K.moved hvm.symm hK1
        obtain ⟨hP, hD⟩ := va_join (wr := [(zo13rrirrrr h0 sc kp ik bl go ch bo), (zo10ririliiriririr sc aTp (nI ts) aHl (nI nh) ed mi sn aHs (nI n) aWk (nI wz) aBk (nI bz) aFc), (zaR aHs cHs 8 fHs)]) (w1 := [(zo1iri bo mdc9_73 aEl (nI sz_9_74)), (zaR aEl cEl 10 fEl9_75)]) hP hD [3, 4] [0, 1, 2] rfl rfl (by decide) (by decide) hk1 hFc hP1 hD1
        have hK := (hK.sub (tys' := [(cHs, .object "MistHeaps$Heap")]) [0] rfl).app hK1
        generalize H1 = H at hP hS ⊢
        have hP : va_P (dC, dI) vwCl [(zo13rrirrrr h0 sc kp ik bl go ch bo), (zo10ririliiriririr sc aTp (nI ts) aHl (nI nh) ed mi sn aHs (nI n) aWk (nI wz) aBk (nI bz) aFc), (zaR aHs cHs 8 fHs), (zo1iri bo mdc9_73 aEl (nI sz_9_74)), (zaR aEl cEl 10 fEl9_75)] H := hP
        have hD : va_D A [(zo13rrirrrr h0 sc kp ik bl go ch bo), (zo10ririliiriririr sc aTp (nI ts) aHl (nI nh) ed mi sn aHs (nI n) aWk (nI wz) aBk (nI bz) aFc), (zaR aHs cHs 8 fHs), (zo1iri bo mdc9_73 aEl (nI sz_9_74)), (zaR aEl cEl 10 fEl9_75)] := hD
        have hK : va_K (dC, dI) vwCl [(cHs, .object "MistHeaps$Heap"), (cEl, .object "java/lang/Object")] s := hK
        obtain ⟨er_76, e_77, hL_78⟩ := hw_72
        obtain rfl := (e_77).symm
        subst er_76
        have hk := hpT_k3 (zyt j_8 (by omega)) e_70
        rw [hQ]
        have hP9 := hP.sub (ws' := [(zo13rrirrrr h0 sc kp ik bl go ch bo), (zo10ririliiriririr sc aTp (nI ts) aHl (nI nh) ed mi sn aHs (nI n) aWk (nI wz) aBk (nI bz) aFc), (zaR aHs cHs 8 fHs), (zo1iri bo mdc9_73 aEl (nI (0 + 2))), (zaR aEl cEl 10 fEl9_75)]) [0, 1, 2, 3, 4] rfl
        have hD9 := hD.sub (ws' := [(zo13rrirrrr h0 sc kp ik bl go ch bo), (zo10ririliiriririr sc aTp (nI ts) aHl (nI nh) ed mi sn aHs (nI n) aWk (nI wz) aBk (nI bz) aFc), (zaR aHs cHs 8 fHs), (zo1iri bo mdc9_73 aEl (nI (0 + 2))), (zaR aEl cEl 10 fEl9_75)]) [0, 1, 2, 3, 4] (by decide) rfl
        have hK9 := hK.sub (tys' := [(cHs, .object "MistHeaps$Heap"), (cEl, .object "java/lang/Object")]) [0, 1] rfl
        refine W.widen (k := 1) (n := 10) (by omega) (by omega) ?_
        exact W.iret (v := (z + nI j_8) - (yv j_8)) hx hb hr (fun tQ htQ hWQ => ⟨⟨((z + nI j_8) - (yv j_8)), (mdc9_73, (0 + 2), fEl9_75), rfl, ⟨(kG3 (m := nI j_8) (v := yv j_8) (x := z) hk).1.trans (ac_1 (n := n) (yk := yk) (yv := yv) (j := j_8) (y := y) (z := z) hn8 (by omega) (by assumption)).1, by omega, by rw [(ac_1 (n := n) (yk := yk) (yv := yv) (j := j_8) (y := y) (z := z) hn8 (by omega) (by assumption)).2, (kG3 (m := nI j_8) (v := yv j_8) (x := z) hk).2]; exact hL_78⟩, by rw [htQ]; exact hP9, va_K.moved hWQ.alike hK9, hD9⟩, hS.F htQ⟩) hS.2.2 dX11_act_73
      · skip
        have hY : Fz dC dI [(zo5iiii (ya j_8) (yk j_8) (nI j_8) (yv j_8) (yc j_8))] [] A s := by have h9 := (hH_ j_8 (by omega)).2; rw [hpE, e_70] at h9; exact h9
        have hPc := hP.sub (ws' := [(zo1iri bo mdc9_3 aEl (nI 0)), (zaR aEl cEl 10 fEl9_5)]) [3, 4] rfl
        have hDc := hD.sub (ws' := [(zo1iri bo mdc9_3 aEl (nI 0)), (zaR aEl cEl 10 fEl9_5)]) [3, 4] (by decide) rfl
        have hKc := hK.sub (tys' := [(cEl, .object "java/lang/Object")]) [1] rfl
        have hFc := va_free (wc := [(zo1iri bo mdc9_3 aEl (nI 0)), (zaR aEl cEl 10 fEl9_5)]) hD hS hA [3, 4] rfl
        refine va_calli (va_runV (As := [.int z, .ref bo]) (rest := []) ⟨hx, hb, hml, hown, hts⟩ (c_X3_doGoes_X3_1 l dC dI ad cB bS    bo aEl j_8 (yk j_8) (yv j_8) (yc j_8) z cEl fEl9_5 (ya j_8) 0 mdc9_3 ([] : List Nat) H.size (by omega) (okL_nil)) (cwV 2 hts gX11_act_X3_doGoes rfl rfl rfl hd_yX3_doGoes ⟨Nat.le_of_ble_eq_true rfl, Nat.le_of_ble_eq_true rfl⟩) ⟨fun a U g mk q => by obtain ⟨q0, q1, qP, qK, qD, qhI_, qhB_, qhW_, qhZ⟩ := q; exact ⟨q0, q1, qP, va_K.moved (u := U) (U := U.calling g mk a) (Vm.Alike.refl U.vm) qK, qD, qhI_.same rfl rfl, qhB_.same rfl rfl, qhW_.same rfl rfl, qhZ.same rfl rfl⟩, va_recv hY.2.1 (hY.P hS) (ci := 5) (q := (RX3, TX3, 4)) (q0 := 0) rfl rfl, fun U hU hW => ⟨rfl, by rw [hU], by rw [hU]; exact hPc, va_K.moved hW.alike hKc, hDc.weaken (fun _ _ _ _ => trivial), hI_.call hS hU hW (fun q h => hFc q h), hB_.call hS hU hW (fun q h => hFc q h), hW_.call hS hU hW (fun q h => hFc q h), hY.call hS hU hW (fun q h => hFc q h)⟩⟩ rfl rfl hl.1 rfl (lv_room (Nat.le_of_ble_eq_true rfl)) dX11_act_70 ⟨Nat.le_of_ble_eq_true rfl, Nat.le_of_ble_eq_true rfl⟩) hS (fun q _ h => hFc q h) hFc (fun r_79 u tC H1 locs htC hvm hw_80 hB hz1 hk1 hS => ?_)
        obtain ⟨mdc9_81, sz_9_82, fEl9_83⟩ := u
        try dsimp only at hw_80 hB
        obtain ⟨hP1, hK1, hD1⟩ := hB
        rw [htC] at hP1
        have hK1 := va_K.moved hvm.symm hK1
        obtain ⟨hP, hD⟩ := va_join (wr := [(zo13rrirrrr h0 sc kp ik bl go ch bo), (zo10ririliiriririr sc aTp (nI ts) aHl (nI nh) ed mi sn aHs (nI n) aWk (nI wz) aBk (nI bz) aFc), (zaR aHs cHs 8 fHs)]) (w1 := [(zo1iri bo mdc9_81 aEl (nI sz_9_82)), (zaR aEl cEl 10 fEl9_83)]) hP hD [3, 4] [0, 1, 2] rfl rfl (by decide) (by decide) hk1 hFc hP1 hD1
        have hK := (hK.sub (tys' := [(cHs, .object "MistHeaps$Heap")]) [0] rfl).app hK1
        generalize H1 = H at hP hS ⊢
        have hP : va_P (dC, dI) vwCl [(zo13rrirrrr h0 sc kp ik bl go ch bo), (zo10ririliiriririr sc aTp (nI ts) aHl (nI nh) ed mi sn aHs (nI n) aWk (nI wz) aBk (nI bz) aFc), (zaR aHs cHs 8 fHs), (zo1iri bo mdc9_81 aEl (nI sz_9_82)), (zaR aEl cEl 10 fEl9_83)] H := hP
        have hD : va_D A [(zo13rrirrrr h0 sc kp ik bl go ch bo), (zo10ririliiriririr sc aTp (nI ts) aHl (nI nh) ed mi sn aHs (nI n) aWk (nI wz) aBk (nI bz) aFc), (zaR aHs cHs 8 fHs), (zo1iri bo mdc9_81 aEl (nI sz_9_82)), (zaR aEl cEl 10 fEl9_83)] := hD
        have hK : va_K (dC, dI) vwCl [(cHs, .object "MistHeaps$Heap"), (cEl, .object "java/lang/Object")] s := hK
        obtain ⟨er_84, e_85, hL_86⟩ := hw_80
        obtain rfl := (e_85).symm
        subst er_84
        have hk := hpT_k0 (zyt j_8 (by omega)) e_70
        rw [hQ]
        have hP9 := hP.sub (ws' := [(zo13rrirrrr h0 sc kp ik bl go ch bo), (zo10ririliiriririr sc aTp (nI ts) aHl (nI nh) ed mi sn aHs (nI n) aWk (nI wz) aBk (nI bz) aFc), (zaR aHs cHs 8 fHs), (zo1iri bo mdc9_81 aEl (nI (0 + 2))), (zaR aEl cEl 10 fEl9_83)]) [0, 1, 2, 3, 4] rfl
        have hD9 := hD.sub (ws' := [(zo13rrirrrr h0 sc kp ik bl go ch bo), (zo10ririliiriririr sc aTp (nI ts) aHl (nI nh) ed mi sn aHs (nI n) aWk (nI wz) aBk (nI bz) aFc), (zaR aHs cHs 8 fHs), (zo1iri bo mdc9_81 aEl (nI (0 + 2))), (zaR aEl cEl 10 fEl9_83)]) [0, 1, 2, 3, 4] (by decide) rfl
        have hK9 := hK.sub (tys' := [(cHs, .object "MistHeaps$Heap"), (cEl, .object "java/lang/Object")]) [0, 1] rfl
        refine W.widen (k := 1) (n := 10) (by omega) (by omega) ?_
        exact W.iret (v := (z + nI j_8) - (yv j_8)) hx hb hr (fun tQ htQ hWQ => ⟨⟨((z + nI j_8) - (yv j_8)), (mdc9_81, (0 + 2), fEl9_83), rfl, ⟨(kG0 (m := nI j_8) (v := yv j_8) (x := z) hk).1.trans (ac_1 (n := n) (yk := yk) (yv := yv) (j := j_8) (y := y) (z := z) hn8 (by omega) (by assumption)).1, by omega, by rw [(ac_1 (n := n) (yk := yk) (yv := yv) (j := j_8) (y := y) (z := z) hn8 (by omega) (by assumption)).2, (kG0 (m := nI j_8) (v := yv j_8) (x := z) hk).2]; exact hL_86⟩, by rw [htQ]; exact hP9, va_K.moved hWQ.alike hK9, hD9⟩, hS.F htQ⟩) hS.2.2 dX11_act_73
      · skip
        have hY : Fz dC dI [(zo6iiii (ya j_8) (yk j_8) (nI j_8) (yv j_8) (yc j_8))] [] A s := by have h9 := (hH_ j_8 (by omega)).2; rw [hpE, e_70] at h9; exact h9
        have hPc := hP.sub (ws' := [(zo1iri bo mdc9_3 aEl (nI 0)), (zaR aEl cEl 10 fEl9_5)]) [3, 4] rfl
        have hDc := hD.sub (ws' := [(zo1iri bo mdc9_3 aEl (nI 0)), (zaR aEl cEl 10 fEl9_5)]) [3, 4] (by decide) rfl
        have hKc := hK.sub (tys' := [(cEl, .object "java/lang/Object")]) [1] rfl
        have hFc := va_free (wc := [(zo1iri bo mdc9_3 aEl (nI 0)), (zaR aEl cEl 10 fEl9_5)]) hD hS hA [3, 4] rfl
        refine va_calli (va_runU (As := [.int z, .ref bo]) (rest := []) ⟨hx, hb, hml, hown, hts⟩ (c_X3_doGoes_X4_1 l dC dI ad cB bS    bo aEl j_8 (yk j_8) (yv j_8) (yc j_8) z cEl fEl9_5 (ya j_8) 0 mdc9_3 ([] : List Nat) H.size (by omega) (okL_nil)) (va_cwU 2 hts gX11_act_X3_doGoes_u237X4 rfl rfl rfl rfl (by decide +kernel) ⟨Nat.le_of_ble_eq_true rfl, Nat.le_of_ble_eq_true rfl⟩) ⟨fun a U g mk q => by obtain ⟨q0, q1, qP, qK, qD, qhI_, qhB_, qhW_, qhZ⟩ := q; exact ⟨q0, q1, qP, va_K.moved (u := U) (U := U.calling g mk a) (Vm.Alike.refl U.vm) qK, qD, qhI_.same rfl rfl, qhB_.same rfl rfl, qhW_.same rfl rfl, qhZ.same rfl rfl⟩, va_recv hY.2.1 (hY.P hS) (ci := 6) (q := (RX4, TX4, 4)) (q0 := 0) rfl rfl, fun U hU hW => ⟨rfl, by rw [hU], by rw [hU]; exact hPc, va_K.moved hW.alike hKc, hDc.weaken (fun _ _ _ _ => trivial), hI_.call hS hU hW (fun q h => hFc q h), hB_.call hS hU hW (fun q h => hFc q h), hW_.call hS hU hW (fun q h => hFc q h), hY.call hS hU hW (fun q h => hFc q h)⟩⟩ rfl rfl hl.1 rfl (lv_room (Nat.le_of_ble_eq_true rfl)) dX11_act_70 ⟨Nat.le_of_ble_eq_true rfl, Nat.le_of_ble_eq_true rfl⟩) hS (fun q _ h => hFc q h) hFc (fun r_87 u tC H1 locs htC hvm hw_88 hB hz1 hk1 hS => ?_)
        obtain ⟨mdc9_89, sz_9_90, fEl9_91⟩ := u
        try dsimp only at hw_88 hB
        obtain ⟨hP1, hK1, hD1⟩ := hB
        rw [htC] at hP1
        have hK1 := va_K.moved hvm.symm hK1
        obtain ⟨hP, hD⟩ := va_join (wr := [(zo13rrirrrr h0 sc kp ik bl go ch bo), (zo10ririliiriririr sc aTp (nI ts) aHl (nI nh) ed mi sn aHs (nI n) aWk (nI wz) aBk (nI bz) aFc), (zaR aHs cHs 8 fHs)]) (w1 := [(zo1iri bo mdc9_89 aEl (nI sz_9_90)), (zaR aEl cEl 10 fEl9_91)]) hP hD [3, 4] [0, 1, 2] rfl rfl (by decide) (by decide) hk1 hFc hP1 hD1
        have hK := (hK.sub (tys' := [(cHs, .object "MistHeaps$Heap")]) [0] rfl).app hK1
        generalize H1 = H at hP hS ⊢
        have hP : va_P (dC, dI) vwCl [(zo13rrirrrr h0 sc kp ik bl go ch bo), (zo10ririliiriririr sc aTp (nI ts) aHl (nI nh) ed mi sn aHs (nI n) aWk (nI wz) aBk (nI bz) aFc), (zaR aHs cHs 8 fHs), (zo1iri bo mdc9_89 aEl (nI sz_9_90)), (zaR aEl cEl 10 fEl9_91)] H := hP
        have hD : va_D A [(zo13rrirrrr h0 sc kp ik bl go ch bo), (zo10ririliiriririr sc aTp (nI ts) aHl (nI nh) ed mi sn aHs (nI n) aWk (nI wz) aBk (nI bz) aFc), (zaR aHs cHs 8 fHs), (zo1iri bo mdc9_89 aEl (nI sz_9_90)), (zaR aEl cEl 10 fEl9_91)] := hD
        have hK : va_K (dC, dI) vwCl [(cHs, .object "MistHeaps$Heap"), (cEl, .object "java/lang/Object")] s := hK
        obtain ⟨er_92, e_93, hL_94⟩ := hw_88
        obtain rfl := (e_93).symm
        subst er_92
        have hk := hpT_k1 (zyt j_8 (by omega)) e_70
        rw [hQ]
        have hP9 := hP.sub (ws' := [(zo13rrirrrr h0 sc kp ik bl go ch bo), (zo10ririliiriririr sc aTp (nI ts) aHl (nI nh) ed mi sn aHs (nI n) aWk (nI wz) aBk (nI bz) aFc), (zaR aHs cHs 8 fHs), (zo1iri bo mdc9_89 aEl (nI (0 + 3))), (zaR aEl cEl 10 fEl9_91)]) [0, 1, 2, 3, 4] rfl
        have hD9 := hD.sub (ws' := [(zo13rrirrrr h0 sc kp ik bl go ch bo), (zo10ririliiriririr sc aTp (nI ts) aHl (nI nh) ed mi sn aHs (nI n) aWk (nI wz) aBk (nI bz) aFc), (zaR aHs cHs 8 fHs), (zo1iri bo mdc9_89 aEl (nI (0 + 3))), (zaR aEl cEl 10 fEl9_91)]) [0, 1, 2, 3, 4] (by decide) rfl
        have hK9 := hK.sub (tys' := [(cHs, .object "MistHeaps$Heap"), (cEl, .object "java/lang/Object")]) [0, 1] rfl
        refine W.widen (k := 1) (n := 10) (by omega) (by omega) ?_
        exact W.iret (v := (z * 3 + nI j_8) - (yv j_8)) hx hb hr (fun tQ htQ hWQ => ⟨⟨((z * 3 + nI j_8) - (yv j_8)), (mdc9_89, (0 + 3), fEl9_91), rfl, ⟨(kG1 (m := nI j_8) (v := yv j_8) (x := z) hk).1.trans (ac_1 (n := n) (yk := yk) (yv := yv) (j := j_8) (y := y) (z := z) hn8 (by omega) (by assumption)).1, by omega, by rw [(ac_1 (n := n) (yk := yk) (yv := yv) (j := j_8) (y := y) (z := z) hn8 (by omega) (by assumption)).2, (kG1 (m := nI j_8) (v := yv j_8) (x := z) hk).2]; exact hL_94⟩, by rw [htQ]; exact hP9, va_K.moved hWQ.alike hK9, hD9⟩, hS.F htQ⟩) hS.2.2 dX11_act_73
      · skip
        have hY : Fz dC dI [(zo8iiii (ya j_8) (yk j_8) (nI j_8) (yv j_8) (yc j_8))] [] A s := by have h9 := (hH_ j_8 (by omega)).2; rw [hpE, e_70] at h9; exact h9
        have hPc := hP.sub (ws' := [(zo1iri bo mdc9_3 aEl (nI 0)), (zaR aEl cEl 10 fEl9_5)]) [3, 4] rfl
        have hDc := hD.sub (ws' := [(zo1iri bo mdc9_3 aEl (nI 0)), (zaR aEl cEl 10 fEl9_5)]) [3, 4] (by decide) rfl
        have hKc := hK.sub (tys' := [(cEl, .object "java/lang/Object")]) [1] rfl
        have hFc := va_free (wc := [(zo1iri bo mdc9_3 aEl (nI 0)), (zaR aEl cEl 10 fEl9_5)]) hD hS hA [3, 4] rfl
        refine va_calli (va_runU (As := [.int z, .ref bo]) (rest := []) ⟨hx, hb, hml, hown, hts⟩ (c_X6_doGoes_X6_1 l dC dI ad cB bS    bo aEl j_8 (yk j_8) (yv j_8) (yc j_8) z cEl fEl9_5 (ya j_8) 0 mdc9_3 ([] : List Nat) H.size (by omega) (okL_nil)) (va_cwO 2 hts gX11_act_X6_doGoes_u237X6 rfl rfl rfl kc_xAct1_4 (by decide +kernel) ⟨Nat.le_of_ble_eq_true rfl, Nat.le_of_ble_eq_true rfl⟩) ⟨fun a U g mk q => by obtain ⟨q0, q1, qP, qK, qD, qhI_, qhB_, qhW_, qhZ⟩ := q; exact ⟨q0, q1, qP, va_K.moved (u := U) (U := U.calling g mk a) (Vm.Alike.refl U.vm) qK, qD, qhI_.same rfl rfl, qhB_.same rfl rfl, qhW_.same rfl rfl, qhZ.same rfl rfl⟩, va_recv hY.2.1 (hY.P hS) (ci := 8) (q := (RX6, TX6, 4)) (q0 := 0) rfl rfl, fun U hU hW => ⟨rfl, by rw [hU], by rw [hU]; exact hPc, va_K.moved hW.alike hKc, hDc.weaken (fun _ _ _ _ => trivial), hI_.call hS hU hW (fun q h => hFc q h), hB_.call hS hU hW (fun q h => hFc q h), hW_.call hS hU hW (fun q h => hFc q h), hY.call hS hU hW (fun q h => hFc q h)⟩⟩ rfl rfl hl.1 rfl (lv_room (Nat.le_of_ble_eq_true rfl)) dX11_act_70 ⟨Nat.le_of_ble_eq_true rfl, Nat.le_of_ble_eq_true rfl⟩) hS (fun q _ h => hFc q h) hFc (fun r_95 u tC H1 locs htC hvm hw_96 hB hz1 hk1 hS => ?_)
        obtain ⟨mdc9_97, sz_9_98, fEl9_99⟩ := u
        try dsimp only at hw_96 hB
        obtain ⟨hP1, hK1, hD1⟩ := hB
        rw [htC] at hP1
        have hK1 := va_K.moved hvm.symm hK1
        obtain ⟨hP, hD⟩ := va_join (wr := [(zo13rrirrrr h0 sc kp ik bl go ch bo), (zo10ririliiriririr sc aTp (nI ts) aHl (nI nh) ed mi sn aHs (nI n) aWk (nI wz) aBk (nI bz) aFc), (zaR aHs cHs 8 fHs)]) (w1 := [(zo1iri bo mdc9_97 aEl (nI sz_9_98)), (zaR aEl cEl 10 fEl9_99)]) hP hD [3, 4] [0, 1, 2] rfl rfl (by decide) (by decide) hk1 hFc hP1 hD1
        have hK := (hK.sub (tys' := [(cHs, .object "MistHeaps$Heap")]) [0] rfl).app hK1
        generalize H1 = H at hP hS ⊢
        have hP : va_P (dC, dI) vwCl [(zo13rrirrrr h0 sc kp ik bl go ch bo), (zo10ririliiriririr sc aTp (nI ts) aHl (nI nh) ed mi sn aHs (nI n) aWk (nI wz) aBk (nI bz) aFc), (zaR aHs cHs 8 fHs), (zo1iri bo mdc9_97 aEl (nI sz_9_98)), (zaR aEl cEl 10 fEl9_99)] H := hP
        have hD : va_D A [(zo13rrirrrr h0 sc kp ik bl go ch bo), (zo10ririliiriririr sc aTp (nI ts) aHl (nI nh) ed mi sn aHs (nI n) aWk (nI wz) aBk (nI bz) aFc), (zaR aHs cHs 8 fHs), (zo1iri bo mdc9_97 aEl (nI sz_9_98)), (zaR aEl cEl 10 fEl9_99)] := hD
        have hK : va_K (dC, dI) vwCl [(cHs, .object "MistHeaps$Heap"), (cEl, .object "java/lang/Object")] s := hK
        obtain ⟨er_100, e_101, hL_102⟩ := hw_96
        obtain rfl := (e_101).symm
        subst er_100
        have hk := hpT_k2 (zyt j_8 (by omega)) e_70
        rw [hQ]
        have hP9 := hP.sub (ws' := [(zo13rrirrrr h0 sc kp ik bl go ch bo), (zo10ririliiriririr sc aTp (nI ts) aHl (nI nh) ed mi sn aHs (nI n) aWk (nI wz) aBk (nI bz) aFc), (zaR aHs cHs 8 fHs), (zo1iri bo mdc9_97 aEl (nI (0 + 3))), (zaR aEl cEl 10 fEl9_99)]) [0, 1, 2, 3, 4] rfl
        have hD9 := hD.sub (ws' := [(zo13rrirrrr h0 sc kp ik bl go ch bo), (zo10ririliiriririr sc aTp (nI ts) aHl (nI nh) ed mi sn aHs (nI n) aWk (nI wz) aBk (nI bz) aFc), (zaR aHs cHs 8 fHs), (zo1iri bo mdc9_97 aEl (nI (0 + 3))), (zaR aEl cEl 10 fEl9_99)]) [0, 1, 2, 3, 4] (by decide) rfl
        have hK9 := hK.sub (tys' := [(cHs, .object "MistHeaps$Heap"), (cEl, .object "java/lang/Object")]) [0, 1] rfl
        refine W.widen (k := 1) (n := 10) (by omega) (by omega) ?_
        exact W.iret (v := -((z + nI j_8) - (yv j_8))) hx hb hr (fun tQ htQ hWQ => ⟨⟨(-((z + nI j_8) - (yv j_8))), (mdc9_97, (0 + 3), fEl9_99), rfl, ⟨(kG2 (m := nI j_8) (v := yv j_8) (x := z) hk).1.trans (ac_1 (n := n) (yk := yk) (yv := yv) (j := j_8) (y := y) (z := z) hn8 (by omega) (by assumption)).1, by omega, by rw [(ac_1 (n := n) (yk := yk) (yv := yv) (j := j_8) (y := y) (z := z) hn8 (by omega) (by assumption)).2, (kG2 (m := nI j_8) (v := yv j_8) (x := z) hk).2]; exact hL_102⟩, by rw [htQ]; exact hP9, va_K.moved hWQ.alike hK9, hD9⟩, hS.F htQ⟩) hS.2.2 dX11_act_73
      · skip
        have hY : Fz dC dI [(zo9iiii (ya j_8) (yk j_8) (nI j_8) (yv j_8) (yc j_8))] [] A s := by have h9 := (hH_ j_8 (by omega)).2; rw [hpE, e_70] at h9; exact h9
        have hPc := hP.sub (ws' := [(zo1iri bo mdc9_3 aEl (nI 0)), (zaR aEl cEl 10 fEl9_5)]) [3, 4] rfl
        have hDc := hD.sub (ws' := [(zo1iri bo mdc9_3 aEl (nI 0)), (zaR aEl cEl 10 fEl9_5)]) [3, 4] (by decide) rfl
        have hKc := hK.sub (tys' := [(cEl, .object "java/lang/Object")]) [1] rfl
        have hFc := va_free (wc := [(zo1iri bo mdc9_3 aEl (nI 0)), (zaR aEl cEl 10 fEl9_5)]) hD hS hA [3, 4] rfl
        refine va_calli (va_runU (As := [.int z, .ref bo]) (rest := []) ⟨hx, hb, hml, hown, hts⟩ (c_X7_doGoes_X7_1 l dC dI ad cB bS    bo aEl j_8 (yk j_8) (yv j_8) (yc j_8) z cEl fEl9_5 (ya j_8) 0 mdc9_3 ([] : List Nat) H.size (by omega) (okL_nil)) (va_cwO 2 hts gX11_act_X7_doGoes_u237X7 rfl rfl rfl kc_xAct1_4 (by decide +kernel) ⟨Nat.le_of_ble_eq_true rfl, Nat.le_of_ble_eq_true rfl⟩) ⟨fun a U g mk q => by obtain ⟨q0, q1, qP, qK, qD, qhI_, qhB_, qhW_, qhZ⟩ := q; exact ⟨q0, q1, qP, va_K.moved (u := U) (U := U.calling g mk a) (Vm.Alike.refl U.vm) qK, qD, qhI_.same rfl rfl, qhB_.same rfl rfl, qhW_.same rfl rfl, qhZ.same rfl rfl⟩, va_recv hY.2.1 (hY.P hS) (ci := 9) (q := (RX7, TX7, 4)) (q0 := 0) rfl rfl, fun U hU hW => ⟨rfl, by rw [hU], by rw [hU]; exact hPc, va_K.moved hW.alike hKc, hDc.weaken (fun _ _ _ _ => trivial), hI_.call hS hU hW (fun q h => hFc q h), hB_.call hS hU hW (fun q h => hFc q h), hW_.call hS hU hW (fun q h => hFc q h), hY.call hS hU hW (fun q h => hFc q h)⟩⟩ rfl rfl hl.1 rfl (lv_room (Nat.le_of_ble_eq_true rfl)) dX11_act_70 ⟨Nat.le_of_ble_eq_true rfl, Nat.le_of_ble_eq_true rfl⟩) hS (fun q _ h => hFc q h) hFc (fun r_103 u tC H1 locs htC hvm hw_104 hB hz1 hk1 hS => ?_)
        obtain ⟨mdc9_105, sz_9_106, fEl9_107⟩ := u
        try dsimp only at hw_104 hB
        obtain ⟨hP1, hK1, hD1⟩ := hB
        rw [htC] at hP1
        have hK1 := va_K.moved hvm.symm hK1
        obtain ⟨hP, hD⟩ := va_join (wr := [(zo13rrirrrr h0 sc kp ik bl go ch bo), (zo10ririliiriririr sc aTp (nI ts) aHl (nI nh) ed mi sn aHs (nI n) aWk (nI wz) aBk (nI bz) aFc), (zaR aHs cHs 8 fHs)]) (w1 := [(zo1iri bo mdc9_105 aEl (nI sz_9_106)), (zaR aEl cEl 10 fEl9_107)]) hP hD [3, 4] [0, 1, 2] rfl rfl (by decide) (by decide) hk1 hFc hP1 hD1
        have hK := (hK.sub (tys' := [(cHs, .object "MistHeaps$Heap")]) [0] rfl).app hK1
        generalize H1 = H at hP hS ⊢
        have hP : va_P (dC, dI) vwCl [(zo13rrirrrr h0 sc kp ik bl go ch bo), (zo10ririliiriririr sc aTp (nI ts) aHl (nI nh) ed mi sn aHs (nI n) aWk (nI wz) aBk (nI bz) aFc), (zaR aHs cHs 8 fHs), (zo1iri bo mdc9_105 aEl (nI sz_9_106)), (zaR aEl cEl 10 fEl9_107)] H := hP
        have hD : va_D A [(zo13rrirrrr h0 sc kp ik bl go ch bo), (zo10ririliiriririr sc aTp (nI ts) aHl (nI nh) ed mi sn aHs (nI n) aWk (nI wz) aBk (nI bz) aFc), (zaR aHs cHs 8 fHs), (zo1iri bo mdc9_105 aEl (nI sz_9_106)), (zaR aEl cEl 10 fEl9_107)] := hD
        have hK : va_K (dC, dI) vwCl [(cHs, .object "MistHeaps$Heap"), (cEl, .object "java/lang/Object")] s := hK
        obtain ⟨er_108, e_109, hL_110⟩ := hw_104
        obtain rfl := (e_109).symm
        subst er_108
        have hk := hpT_k6 (zyt j_8 (by omega)) e_70
        rw [hQ]
        have hP9 := hP.sub (ws' := [(zo13rrirrrr h0 sc kp ik bl go ch bo), (zo10ririliiriririr sc aTp (nI ts) aHl (nI nh) ed mi sn aHs (nI n) aWk (nI wz) aBk (nI bz) aFc), (zaR aHs cHs 8 fHs), (zo1iri bo mdc9_105 aEl (nI (0 + 3))), (zaR aEl cEl 10 fEl9_107)]) [0, 1, 2, 3, 4] rfl
        have hD9 := hD.sub (ws' := [(zo13rrirrrr h0 sc kp ik bl go ch bo), (zo10ririliiriririr sc aTp (nI ts) aHl (nI nh) ed mi sn aHs (nI n) aWk (nI wz) aBk (nI bz) aFc), (zaR aHs cHs 8 fHs), (zo1iri bo mdc9_105 aEl (nI (0 + 3))), (zaR aEl cEl 10 fEl9_107)]) [0, 1, 2, 3, 4] (by decide) rfl
        have hK9 := hK.sub (tys' := [(cHs, .object "MistHeaps$Heap"), (cEl, .object "java/lang/Object")]) [0, 1] rfl
        refine W.widen (k := 1) (n := 10) (by omega) (by omega) ?_
        exact W.iret (v := ((z + nI j_8) - (yv j_8)) + (yv j_8)) hx hb hr (fun tQ htQ hWQ => ⟨⟨(((z + nI j_8) - (yv j_8)) + (yv j_8)), (mdc9_105, (0 + 3), fEl9_107), rfl, ⟨(kG6 (m := nI j_8) (v := yv j_8) (x := z) hk).1.trans (ac_1 (n := n) (yk := yk) (yv := yv) (j := j_8) (y := y) (z := z) hn8 (by omega) (by assumption)).1, by omega, by rw [(ac_1 (n := n) (yk := yk) (yv := yv) (j := j_8) (y := y) (z := z) hn8 (by omega) (by assumption)).2, (kG6 (m := nI j_8) (v := yv j_8) (x := z) hk).2]; exact hL_110⟩, by rw [htQ]; exact hP9, va_K.moved hWQ.alike hK9, hD9⟩, hS.F htQ⟩) hS.2.2 dX11_act_73
      · skip
        have hY : Fz dC dI [(zo11iiii (ya j_8) (yk j_8) (nI j_8) (yv j_8) (yc j_8))] [] A s := by have h9 := (hH_ j_8 (by omega)).2; rw [hpE, e_70] at h9; exact h9
        have hPc := hP.sub (ws' := [(zo1iri bo mdc9_3 aEl (nI 0)), (zaR aEl cEl 10 fEl9_5)]) [3, 4] rfl
        have hDc := hD.sub (ws' := [(zo1iri bo mdc9_3 aEl (nI 0)), (zaR aEl cEl 10 fEl9_5)]) [3, 4] (by decide) rfl
        have hKc := hK.sub (tys' := [(cEl, .object "java/lang/Object")]) [1] rfl
        have hFc := va_free (wc := [(zo1iri bo mdc9_3 aEl (nI 0)), (zaR aEl cEl 10 fEl9_5)]) hD hS hA [3, 4] rfl
        refine va_calli (va_runU (As := [.int z, .ref bo]) (rest := []) ⟨hx, hb, hml, hown, hts⟩ (c_X6_doGoes_X9_1 l dC dI ad cB bS    bo aEl j_8 (yk j_8) (yv j_8) (yc j_8) z cEl fEl9_5 (ya j_8) 0 mdc9_3 ([] : List Nat) H.size (by omega) (okL_nil)) (va_cwO 2 hts gX11_act_X6_doGoes_u237X9 rfl rfl rfl kc_xAct1_4 (by decide +kernel) ⟨Nat.le_of_ble_eq_true rfl, Nat.le_of_ble_eq_true rfl⟩) ⟨fun a U g mk q => by obtain ⟨q0, q1, qP, qK, qD, qhI_, qhB_, qhW_, qhZ⟩ := q; exact ⟨q0, q1, qP, va_K.moved (u := U) (U := U.calling g mk a) (Vm.Alike.refl U.vm) qK, qD, qhI_.same rfl rfl, qhB_.same rfl rfl, qhW_.same rfl rfl, qhZ.same rfl rfl⟩, va_recv hY.2.1 (hY.P hS) (ci := 11) (q := (RX9, TX9, 4)) (q0 := 0) rfl rfl, fun U hU hW => ⟨rfl, by rw [hU], by rw [hU]; exact hPc, va_K.moved hW.alike hKc, hDc.weaken (fun _ _ _ _ => trivial), hI_.call hS hU hW (fun q h => hFc q h), hB_.call hS hU hW (fun q h => hFc q h), hW_.call hS hU hW (fun q h => hFc q h), hY.call hS hU hW (fun q h => hFc q h)⟩⟩ rfl rfl hl.1 rfl (lv_room (Nat.le_of_ble_eq_true rfl)) dX11_act_70 ⟨Nat.le_of_ble_eq_true rfl, Nat.le_of_ble_eq_true rfl⟩) hS (fun q _ h => hFc q h) hFc (fun r_111 u tC H1 locs htC hvm hw_112 hB hz1 hk1 hS => ?_)
        obtain ⟨mdc9_113, sz_9_114, fEl9_115⟩ := u
        try dsimp only at hw_112 hB
        obtain ⟨hP1, hK1, hD1⟩ := hB
        rw [htC] at hP1
        have hK1 := va_K.moved hvm.symm hK1
        obtain ⟨hP, hD⟩ := va_join (wr := [(zo13rrirrrr h0 sc kp ik bl go ch bo), (zo10ririliiriririr sc aTp (nI ts) aHl (nI nh) ed mi sn aHs (nI n) aWk (nI wz) aBk (nI bz) aFc), (zaR aHs cHs 8 fHs)]) (w1 := [(zo1iri bo mdc9_113 aEl (nI sz_9_114)), (zaR aEl cEl 10 fEl9_115)]) hP hD [3, 4] [0, 1, 2] rfl rfl (by decide) (by decide) hk1 hFc hP1 hD1
        have hK := (hK.sub (tys' := [(cHs, .object "MistHeaps$Heap")]) [0] rfl).app hK1
        generalize H1 = H at hP hS ⊢
        have hP : va_P (dC, dI) vwCl [(zo13rrirrrr h0 sc kp ik bl go ch bo), (zo10ririliiriririr sc aTp (nI ts) aHl (nI nh) ed mi sn aHs (nI n) aWk (nI wz) aBk (nI bz) aFc), (zaR aHs cHs 8 fHs), (zo1iri bo mdc9_113 aEl (nI sz_9_114)), (zaR aEl cEl 10 fEl9_115)] H := hP
        have hD : va_D A [(zo13rrirrrr h0 sc kp ik bl go ch bo), (zo10ririliiriririr sc aTp (nI ts) aHl (nI nh) ed mi sn aHs (nI n) aWk (nI wz) aBk (nI bz) aFc), (zaR aHs cHs 8 fHs), (zo1iri bo mdc9_113 aEl (nI sz_9_114)), (zaR aEl cEl 10 fEl9_115)] := hD
        have hK : va_K (dC, dI) vwCl [(cHs, .object "MistHeaps$Heap"), (cEl, .object "java/lang/Object")] s := hK
        obtain ⟨er_116, e_117, hL_118⟩ := hw_112
        obtain rfl := (e_117).symm
        subst er_116
        have hk := hpT_k5 (zyt j_8 (by omega)) e_70
        rw [hQ]
        have hP9 := hP.sub (ws' := [(zo13rrirrrr h0 sc kp ik bl go ch bo), (zo10ririliiriririr sc aTp (nI ts) aHl (nI nh) ed mi sn aHs (nI n) aWk (nI wz) aBk (nI bz) aFc), (zaR aHs cHs 8 fHs), (zo1iri bo mdc9_113 aEl (nI (0 + 4))), (zaR aEl cEl 10 fEl9_115)]) [0, 1, 2, 3, 4] rfl
        have hD9 := hD.sub (ws' := [(zo13rrirrrr h0 sc kp ik bl go ch bo), (zo10ririliiriririr sc aTp (nI ts) aHl (nI nh) ed mi sn aHs (nI n) aWk (nI wz) aBk (nI bz) aFc), (zaR aHs cHs 8 fHs), (zo1iri bo mdc9_113 aEl (nI (0 + 4))), (zaR aEl cEl 10 fEl9_115)]) [0, 1, 2, 3, 4] (by decide) rfl
        have hK9 := hK.sub (tys' := [(cHs, .object "MistHeaps$Heap"), (cEl, .object "java/lang/Object")]) [0, 1] rfl
        refine W.widen (k := 1) (n := 10) (by omega) (by omega) ?_
        exact W.iret (v := -(((z + nI j_8) ^^^ nI j_8) - (yv j_8))) hx hb hr (fun tQ htQ hWQ => ⟨⟨(-(((z + nI j_8) ^^^ nI j_8) - (yv j_8))), (mdc9_113, (0 + 4), fEl9_115), rfl, ⟨(kG5 (m := nI j_8) (v := yv j_8) (x := z) hk).1.trans (ac_1 (n := n) (yk := yk) (yv := yv) (j := j_8) (y := y) (z := z) hn8 (by omega) (by assumption)).1, by omega, by rw [(ac_1 (n := n) (yk := yk) (yv := yv) (j := j_8) (y := y) (z := z) hn8 (by omega) (by assumption)).2, (kG5 (m := nI j_8) (v := yv j_8) (x := z) hk).2]; exact hL_118⟩, by rw [htQ]; exact hP9, va_K.moved hWQ.alike hK9, hD9⟩, hS.F htQ⟩) hS.2.2 dX11_act_73
      · skip
        have hY : Fz dC dI [(zo12iiii (ya j_8) (yk j_8) (nI j_8) (yv j_8) (yc j_8))] [] A s := by have h9 := (hH_ j_8 (by omega)).2; rw [hpE, e_70] at h9; exact h9
        have hPc := hP.sub (ws' := [(zo1iri bo mdc9_3 aEl (nI 0)), (zaR aEl cEl 10 fEl9_5)]) [3, 4] rfl
        have hDc := hD.sub (ws' := [(zo1iri bo mdc9_3 aEl (nI 0)), (zaR aEl cEl 10 fEl9_5)]) [3, 4] (by decide) rfl
        have hKc := hK.sub (tys' := [(cEl, .object "java/lang/Object")]) [1] rfl
        have hFc := va_free (wc := [(zo1iri bo mdc9_3 aEl (nI 0)), (zaR aEl cEl 10 fEl9_5)]) hD hS hA [3, 4] rfl
        refine va_calli (va_runU (As := [.int z, .ref bo]) (rest := []) ⟨hx, hb, hml, hown, hts⟩ (c_X3_doGoes_X10_1 l dC dI ad cB bS    bo aEl j_8 (yk j_8) (yv j_8) (yc j_8) z cEl fEl9_5 (ya j_8) 0 mdc9_3 ([] : List Nat) H.size (by omega) (okL_nil)) (va_cwU 2 hts gX11_act_X3_doGoes_u237X10 rfl rfl rfl rfl (by decide +kernel) ⟨Nat.le_of_ble_eq_true rfl, Nat.le_of_ble_eq_true rfl⟩) ⟨fun a U g mk q => by obtain ⟨q0, q1, qP, qK, qD, qhI_, qhB_, qhW_, qhZ⟩ := q; exact ⟨q0, q1, qP, va_K.moved (u := U) (U := U.calling g mk a) (Vm.Alike.refl U.vm) qK, qD, qhI_.same rfl rfl, qhB_.same rfl rfl, qhW_.same rfl rfl, qhZ.same rfl rfl⟩, va_recv hY.2.1 (hY.P hS) (ci := 12) (q := (RX10, TX10, 4)) (q0 := 0) rfl rfl, fun U hU hW => ⟨rfl, by rw [hU], by rw [hU]; exact hPc, va_K.moved hW.alike hKc, hDc.weaken (fun _ _ _ _ => trivial), hI_.call hS hU hW (fun q h => hFc q h), hB_.call hS hU hW (fun q h => hFc q h), hW_.call hS hU hW (fun q h => hFc q h), hY.call hS hU hW (fun q h => hFc q h)⟩⟩ rfl rfl hl.1 rfl (lv_room (Nat.le_of_ble_eq_true rfl)) dX11_act_70 ⟨Nat.le_of_ble_eq_true rfl, Nat.le_of_ble_eq_true rfl⟩) hS (fun q _ h => hFc q h) hFc (fun r_119 u tC H1 locs htC hvm hw_120 hB hz1 hk1 hS => ?_)
        obtain ⟨mdc9_121, sz_9_122, fEl9_123⟩ := u
        try dsimp only at hw_120 hB
        obtain ⟨hP1, hK1, hD1⟩ := hB
        rw [htC] at hP1
        have hK1 := va_K.moved hvm.symm hK1
        obtain ⟨hP, hD⟩ := va_join (wr := [(zo13rrirrrr h0 sc kp ik bl go ch bo), (zo10ririliiriririr sc aTp (nI ts) aHl (nI nh) ed mi sn aHs (nI n) aWk (nI wz) aBk (nI bz) aFc), (zaR aHs cHs 8 fHs)]) (w1 := [(zo1iri bo mdc9_121 aEl (nI sz_9_122)), (zaR aEl cEl 10 fEl9_123)]) hP hD [3, 4] [0, 1, 2] rfl rfl (by decide) (by decide) hk1 hFc hP1 hD1
        have hK := (hK.sub (tys' := [(cHs, .object "MistHeaps$Heap")]) [0] rfl).app hK1
        generalize H1 = H at hP hS ⊢
        have hP : va_P (dC, dI) vwCl [(zo13rrirrrr h0 sc kp ik bl go ch bo), (zo10ririliiriririr sc aTp (nI ts) aHl (nI nh) ed mi sn aHs (nI n) aWk (nI wz) aBk (nI bz) aFc), (zaR aHs cHs 8 fHs), (zo1iri bo mdc9_121 aEl (nI sz_9_122)), (zaR aEl cEl 10 fEl9_123)] H := hP
        have hD : va_D A [(zo13rrirrrr h0 sc kp ik bl go ch bo), (zo10ririliiriririr sc aTp (nI ts) aHl (nI nh) ed mi sn aHs (nI n) aWk (nI wz) aBk (nI bz) aFc), (zaR aHs cHs 8 fHs), (zo1iri bo mdc9_121 aEl (nI sz_9_122)), (zaR aEl cEl 10 fEl9_123)] := hD
        have hK : va_K (dC, dI) vwCl [(cHs, .object "MistHeaps$Heap"), (cEl, .object "java/lang/Object")] s := hK
        obtain ⟨er_124, e_125, hL_126⟩ := hw_120
        obtain rfl := (e_125).symm
        subst er_124
        have hk := hpT_k4 (zyt j_8 (by omega)) e_70
        rw [hQ]
        have hP9 := hP.sub (ws' := [(zo13rrirrrr h0 sc kp ik bl go ch bo), (zo10ririliiriririr sc aTp (nI ts) aHl (nI nh) ed mi sn aHs (nI n) aWk (nI wz) aBk (nI bz) aFc), (zaR aHs cHs 8 fHs), (zo1iri bo mdc9_121 aEl (nI (0 + 3))), (zaR aEl cEl 10 fEl9_123)]) [0, 1, 2, 3, 4] rfl
        have hD9 := hD.sub (ws' := [(zo13rrirrrr h0 sc kp ik bl go ch bo), (zo10ririliiriririr sc aTp (nI ts) aHl (nI nh) ed mi sn aHs (nI n) aWk (nI wz) aBk (nI bz) aFc), (zaR aHs cHs 8 fHs), (zo1iri bo mdc9_121 aEl (nI (0 + 3))), (zaR aEl cEl 10 fEl9_123)]) [0, 1, 2, 3, 4] (by decide) rfl
        have hK9 := hK.sub (tys' := [(cHs, .object "MistHeaps$Heap"), (cEl, .object "java/lang/Object")]) [0, 1] rfl
        refine W.widen (k := 1) (n := 10) (by omega) (by omega) ?_
        exact W.iret (v := (z * 3 + nI j_8) - (yv j_8)) hx hb hr (fun tQ htQ hWQ => ⟨⟨((z * 3 + nI j_8) - (yv j_8)), (mdc9_121, (0 + 3), fEl9_123), rfl, ⟨(kG4 (m := nI j_8) (v := yv j_8) (x := z) hk).1.trans (ac_1 (n := n) (yk := yk) (yv := yv) (j := j_8) (y := y) (z := z) hn8 (by omega) (by assumption)).1, by omega, by rw [(ac_1 (n := n) (yk := yk) (yv := yv) (j := j_8) (y := y) (z := z) hn8 (by omega) (by assumption)).2, (kG4 (m := nI j_8) (v := yv j_8) (x := z) hk).2]; exact hL_126⟩, by rw [htQ]; exact hP9, va_K.moved hWQ.alike hK9, hD9⟩, hS.F htQ⟩) hS.2.2 dX11_act_73
    by_cases c_12_2 : y = 2
    · skip
      refine lv_tableIn (tgt := 74) hx hb dX11_act_25 (by rw [c_12_2]; decide) (by rw [c_12_2]; decide) (by rw [c_12_2]; rfl) (by decide) ?_
      refine lv_aload hx hb dX11_act_74 (lv_at hl 0 rfl) ?_
      refine lv_iload_n hx hb dX11_act_76 rfl (lv_at hl 4 rfl) ?_
      refine lv_aload_n hx hb dX11_act_77 rfl (lv_at hl 1 rfl) ?_
      refine va_get (D := (dC, dI)) (ci := 13) (v := .ref bo) (C := RX11) (T := TX11) (N := 7) hx hb hts kc_xAct1_0 hown hK hP 0 rfl rfl 6 (by decide) (hts (.fieldLink RX11 49 "MistHeaps" "bodies" "Ljava/util/ArrayList;") kc_xAct1_1) (fun _ h9 => h9) rfl dX11_act_78 ?_
      rcases (show yi j_8 = 3 ∨ yi j_8 = 5 ∨ yi j_8 = 6 ∨ yi j_8 = 8 ∨ yi j_8 = 9 ∨ yi j_8 = 11 ∨ yi j_8 = 12 from (hH_ j_8 (by omega)).1) with e_127 | e_127 | e_127 | e_127 | e_127 | e_127 | e_127
      · skip
        have hY : Fz dC dI [(zo3iiii (ya j_8) (yk j_8) (nI j_8) (yv j_8) (yc j_8))] [] A s := by have h9 := (hH_ j_8 (by omega)).2; rw [hpE, e_127] at h9; exact h9
        have hPc := hP.sub (ws' := [(zo1iri bo mdc9_3 aEl (nI 0)), (zaR aEl cEl 10 fEl9_5)]) [3, 4] rfl
        have hDc := hD.sub (ws' := [(zo1iri bo mdc9_3 aEl (nI 0)), (zaR aEl cEl 10 fEl9_5)]) [3, 4] (by decide) rfl
        have hKc := hK.sub (tys' := [(cEl, .object "java/lang/Object")]) [1] rfl
        have hFc := va_free (wc := [(zo1iri bo mdc9_3 aEl (nI 0)), (zaR aEl cEl 10 fEl9_5)]) hD hS hA [3, 4] rfl
        refine va_calli (va_runU (As := [.int z, .ref bo]) (rest := []) ⟨hx, hb, hml, hown, hts⟩ (c_X1_doLooks_X1_1 l dC dI ad cB bS    bo aEl j_8 (yk j_8) (yv j_8) (yc j_8) z cEl fEl9_5 (ya j_8) 0 mdc9_3 ([] : List Nat) H.size (by omega) (okL_nil)) (va_cwO 2 hts gX11_act_X1_doLooks_u240X1 rfl rfl rfl kc_xAct1_5 (by decide +kernel) ⟨Nat.le_of_ble_eq_true rfl, Nat.le_of_ble_eq_true rfl⟩) ⟨fun a U g mk q => by obtain ⟨q0, q1, qP, qK, qD, qhI_, qhB_, qhW_, qhZ⟩ := q; exact ⟨q0, q1, qP, va_K.moved (u := U) (U := U.calling g mk a) (Vm.Alike.refl U.vm) qK, qD, qhI_.same rfl rfl, qhB_.same rfl rfl, qhW_.same rfl rfl, qhZ.same rfl rfl⟩, va_recv hY.2.1 (hY.P hS) (ci := 3) (q := (RX1, TX1, 4)) (q0 := 0) rfl rfl, fun U hU hW => ⟨rfl, by rw [hU], by rw [hU]; exact hPc, va_K.moved hW.alike hKc, hDc.weaken (fun _ _ _ _ => trivial), hI_.call hS hU hW (fun q h => hFc q h), hB_.call hS hU hW (fun q h => hFc q h), hW_.call hS hU hW (fun q h => hFc q h), hY.call hS hU hW (fun q h => hFc q h)⟩⟩ rfl rfl hl.1 rfl (lv_room (Nat.le_of_ble_eq_true rfl)) dX11_act_81 ⟨Nat.le_of_ble_eq_true rfl, Nat.le_of_ble_eq_true rfl⟩) hS (fun q _ h => hFc q h) hFc (fun r_128 u tC H1 locs htC hvm hw_129 hB hz1 hk1 hS => ?_)
        obtain ⟨mdc9_130, sz_9_131, fEl9_132⟩ := u
        try dsimp only at hw_129 hB
        obtain ⟨hP1, hK1, hD1⟩ := hB
        rw [htC] at hP1
        have hK1 := va_K.moved hvm.symm hK1
        obtain ⟨hP, hD⟩ := va_join (wr := [(zo13rrirrrr h0 sc kp ik bl go ch bo), (zo10ririliiriririr sc aTp (nI ts) aHl (nI nh) ed mi sn aHs (nI n) aWk (nI wz) aBk (nI bz) aFc), (zaR aHs cHs 8 fHs)]) (w1 := [(zo1iri bo mdc9_130 aEl (nI sz_9_131)), (zaR aEl cEl 10 fEl9_132)]) hP hD [3, 4] [0, 1, 2] rfl rfl (by decide) (by decide) hk1 hFc hP1 hD1
        have hK := (hK.sub (tys' := [(cHs, .object "MistHeaps$Heap")]) [0] rfl).app hK1
        generalize H1 = H at hP hS ⊢
        have hP : va_P (dC, dI) vwCl [(zo13rrirrrr h0 sc kp ik bl go ch bo), (zo10ririliiriririr sc aTp (nI ts) aHl (nI nh) ed mi sn aHs (nI n) aWk (nI wz) aBk (nI bz) aFc), (zaR aHs cHs 8 fHs), (zo1iri bo mdc9_130 aEl (nI sz_9_131)), (zaR aEl cEl 10 fEl9_132)] H := hP
        have hD : va_D A [(zo13rrirrrr h0 sc kp ik bl go ch bo), (zo10ririliiriririr sc aTp (nI ts) aHl (nI nh) ed mi sn aHs (nI n) aWk (nI wz) aBk (nI bz) aFc), (zaR aHs cHs 8 fHs), (zo1iri bo mdc9_130 aEl (nI sz_9_131)), (zaR aEl cEl 10 fEl9_132)] := hD
        have hK : va_K (dC, dI) vwCl [(cHs, .object "MistHeaps$Heap"), (cEl, .object "java/lang/Object")] s := hK
        obtain ⟨er_133, e_134, hL_135⟩ := hw_129
        obtain rfl := (e_134).symm
        subst er_133
        have hk := hpT_k3 (zyt j_8 (by omega)) e_127
        rw [hQ]
        have hP9 := hP.sub (ws' := [(zo13rrirrrr h0 sc kp ik bl go ch bo), (zo10ririliiriririr sc aTp (nI ts) aHl (nI nh) ed mi sn aHs (nI n) aWk (nI wz) aBk (nI bz) aFc), (zaR aHs cHs 8 fHs), (zo1iri bo mdc9_130 aEl (nI (0 + 4))), (zaR aEl cEl 10 fEl9_132)]) [0, 1, 2, 3, 4] rfl
        have hD9 := hD.sub (ws' := [(zo13rrirrrr h0 sc kp ik bl go ch bo), (zo10ririliiriririr sc aTp (nI ts) aHl (nI nh) ed mi sn aHs (nI n) aWk (nI wz) aBk (nI bz) aFc), (zaR aHs cHs 8 fHs), (zo1iri bo mdc9_130 aEl (nI (0 + 4))), (zaR aEl cEl 10 fEl9_132)]) [0, 1, 2, 3, 4] (by decide) rfl
        have hK9 := hK.sub (tys' := [(cHs, .object "MistHeaps$Heap"), (cEl, .object "java/lang/Object")]) [0, 1] rfl
        refine W.widen (k := 1) (n := 10) (by omega) (by omega) ?_
        exact W.iret (v := (((z + nI j_8) - (yv j_8)) * 2) ^^^ 7) hx hb hr (fun tQ htQ hWQ => ⟨⟨((((z + nI j_8) - (yv j_8)) * 2) ^^^ 7), (mdc9_130, (0 + 4), fEl9_132), rfl, ⟨(kL3 (m := nI j_8) (v := yv j_8) (x := z) hk).1.trans (ac_2 (n := n) (yk := yk) (yv := yv) (j := j_8) (y := y) (z := z) hn8 (by omega) (by assumption)).1, by omega, by rw [(ac_2 (n := n) (yk := yk) (yv := yv) (j := j_8) (y := y) (z := z) hn8 (by omega) (by assumption)).2, (kL3 (m := nI j_8) (v := yv j_8) (x := z) hk).2]; exact hL_135⟩, by rw [htQ]; exact hP9, va_K.moved hWQ.alike hK9, hD9⟩, hS.F htQ⟩) hS.2.2 dX11_act_84
      · skip
        have hY : Fz dC dI [(zo5iiii (ya j_8) (yk j_8) (nI j_8) (yv j_8) (yc j_8))] [] A s := by have h9 := (hH_ j_8 (by omega)).2; rw [hpE, e_127] at h9; exact h9
        have hPc := hP.sub (ws' := [(zo1iri bo mdc9_3 aEl (nI 0)), (zaR aEl cEl 10 fEl9_5)]) [3, 4] rfl
        have hDc := hD.sub (ws' := [(zo1iri bo mdc9_3 aEl (nI 0)), (zaR aEl cEl 10 fEl9_5)]) [3, 4] (by decide) rfl
        have hKc := hK.sub (tys' := [(cEl, .object "java/lang/Object")]) [1] rfl
        have hFc := va_free (wc := [(zo1iri bo mdc9_3 aEl (nI 0)), (zaR aEl cEl 10 fEl9_5)]) hD hS hA [3, 4] rfl
        refine va_calli (va_runV (As := [.int z, .ref bo]) (rest := []) ⟨hx, hb, hml, hown, hts⟩ (c_X3_doLooks_X3_1 l dC dI ad cB bS    bo aEl j_8 (yk j_8) (yv j_8) (yc j_8) z cEl fEl9_5 (ya j_8) 0 mdc9_3 ([] : List Nat) H.size (by omega) (okL_nil)) (cwV 2 hts gX11_act_X3_doLooks rfl rfl rfl hd_yX3_doLooks ⟨Nat.le_of_ble_eq_true rfl, Nat.le_of_ble_eq_true rfl⟩) ⟨fun a U g mk q => by obtain ⟨q0, q1, qP, qK, qD, qhI_, qhB_, qhW_, qhZ⟩ := q; exact ⟨q0, q1, qP, va_K.moved (u := U) (U := U.calling g mk a) (Vm.Alike.refl U.vm) qK, qD, qhI_.same rfl rfl, qhB_.same rfl rfl, qhW_.same rfl rfl, qhZ.same rfl rfl⟩, va_recv hY.2.1 (hY.P hS) (ci := 5) (q := (RX3, TX3, 4)) (q0 := 0) rfl rfl, fun U hU hW => ⟨rfl, by rw [hU], by rw [hU]; exact hPc, va_K.moved hW.alike hKc, hDc.weaken (fun _ _ _ _ => trivial), hI_.call hS hU hW (fun q h => hFc q h), hB_.call hS hU hW (fun q h => hFc q h), hW_.call hS hU hW (fun q h => hFc q h), hY.call hS hU hW (fun q h => hFc q h)⟩⟩ rfl rfl hl.1 rfl (lv_room (Nat.le_of_ble_eq_true rfl)) dX11_act_81 ⟨Nat.le_of_ble_eq_true rfl, Nat.le_of_ble_eq_true rfl⟩) hS (fun q _ h => hFc q h) hFc (fun r_136 u tC H1 locs htC hvm hw_137 hB hz1 hk1 hS => ?_)
        obtain ⟨mdc9_138, sz_9_139, fEl9_140⟩ := u
        try dsimp only at hw_137 hB
        obtain ⟨hP1, hK1, hD1⟩ := hB
        rw [htC] at hP1
        have hK1 := va_K.moved hvm.symm hK1
        obtain ⟨hP, hD⟩ := va_join (wr := [(zo13rrirrrr h0 sc kp ik bl go ch bo), (zo10ririliiriririr sc aTp (nI ts) aHl (nI nh) ed mi sn aHs (nI n) aWk (nI wz) aBk (nI bz) aFc), (zaR aHs cHs 8 fHs)]) (w1 := [(zo1iri bo mdc9_138 aEl (nI sz_9_139)), (zaR aEl cEl 10 fEl9_140)]) hP hD [3, 4] [0, 1, 2] rfl rfl (by decide) (by decide) hk1 hFc hP1 hD1
        have hK := (hK.sub (tys' := [(cHs, .object "MistHeaps$Heap")]) [0] rfl).app hK1
        generalize H1 = H at hP hS ⊢
        have hP : va_P (dC, dI) vwCl [(zo13rrirrrr h0 sc kp ik bl go ch bo), (zo10ririliiriririr sc aTp (nI ts) aHl (nI nh) ed mi sn aHs (nI n) aWk (nI wz) aBk (nI bz) aFc), (zaR aHs cHs 8 fHs), (zo1iri bo mdc9_138 aEl (nI sz_9_139)), (zaR aEl cEl 10 fEl9_140)] H := hP
        have hD : va_D A [(zo13rrirrrr h0 sc kp ik bl go ch bo), (zo10ririliiriririr sc aTp (nI ts) aHl (nI nh) ed mi sn aHs (nI n) aWk (nI wz) aBk (nI bz) aFc), (zaR aHs cHs 8 fHs), (zo1iri bo mdc9_138 aEl (nI sz_9_139)), (zaR aEl cEl 10 fEl9_140)] := hD
        have hK : va_K (dC, dI) vwCl [(cHs, .object "MistHeaps$Heap"), (cEl, .object "java/lang/Object")] s := hK
        obtain ⟨er_141, e_142, hL_143⟩ := hw_137
        obtain rfl := (e_142).symm
        subst er_141
        have hk := hpT_k0 (zyt j_8 (by omega)) e_127
        rw [hQ]
        have hP9 := hP.sub (ws' := [(zo13rrirrrr h0 sc kp ik bl go ch bo), (zo10ririliiriririr sc aTp (nI ts) aHl (nI nh) ed mi sn aHs (nI n) aWk (nI wz) aBk (nI bz) aFc), (zaR aHs cHs 8 fHs), (zo1iri bo mdc9_138 aEl (nI (0 + 3))), (zaR aEl cEl 10 fEl9_140)]) [0, 1, 2, 3, 4] rfl
        have hD9 := hD.sub (ws' := [(zo13rrirrrr h0 sc kp ik bl go ch bo), (zo10ririliiriririr sc aTp (nI ts) aHl (nI nh) ed mi sn aHs (nI n) aWk (nI wz) aBk (nI bz) aFc), (zaR aHs cHs 8 fHs), (zo1iri bo mdc9_138 aEl (nI (0 + 3))), (zaR aEl cEl 10 fEl9_140)]) [0, 1, 2, 3, 4] (by decide) rfl
        have hK9 := hK.sub (tys' := [(cHs, .object "MistHeaps$Heap"), (cEl, .object "java/lang/Object")]) [0, 1] rfl
        refine W.widen (k := 1) (n := 10) (by omega) (by omega) ?_
        exact W.iret (v := ((z + nI j_8) - (yv j_8)) * 2) hx hb hr (fun tQ htQ hWQ => ⟨⟨(((z + nI j_8) - (yv j_8)) * 2), (mdc9_138, (0 + 3), fEl9_140), rfl, ⟨(kL0 (m := nI j_8) (v := yv j_8) (x := z) hk).1.trans (ac_2 (n := n) (yk := yk) (yv := yv) (j := j_8) (y := y) (z := z) hn8 (by omega) (by assumption)).1, by omega, by rw [(ac_2 (n := n) (yk := yk) (yv := yv) (j := j_8) (y := y) (z := z) hn8 (by omega) (by assumption)).2, (kL0 (m := nI j_8) (v := yv j_8) (x := z) hk).2]; exact hL_143⟩, by rw [htQ]; exact hP9, va_K.moved hWQ.alike hK9, hD9⟩, hS.F htQ⟩) hS.2.2 dX11_act_84
      · skip
        have hY : Fz dC dI [(zo6iiii (ya j_8) (yk j_8) (nI j_8) (yv j_8) (yc j_8))] [] A s := by have h9 := (hH_ j_8 (by omega)).2; rw [hpE, e_127] at h9; exact h9
        have hPc := hP.sub (ws' := [(zo1iri bo mdc9_3 aEl (nI 0)), (zaR aEl cEl 10 fEl9_5)]) [3, 4] rfl
        have hDc := hD.sub (ws' := [(zo1iri bo mdc9_3 aEl (nI 0)), (zaR aEl cEl 10 fEl9_5)]) [3, 4] (by decide) rfl
        have hKc := hK.sub (tys' := [(cEl, .object "java/lang/Object")]) [1] rfl
        have hFc := va_free (wc := [(zo1iri bo mdc9_3 aEl (nI 0)), (zaR aEl cEl 10 fEl9_5)]) hD hS hA [3, 4] rfl
        refine va_calli (va_runU (As := [.int z, .ref bo]) (rest := []) ⟨hx, hb, hml, hown, hts⟩ (c_X3_doLooks_X4_1 l dC dI ad cB bS    bo aEl j_8 (yk j_8) (yv j_8) (yc j_8) z cEl fEl9_5 (ya j_8) 0 mdc9_3 ([] : List Nat) H.size (by omega) (okL_nil)) (va_cwU 2 hts gX11_act_X3_doLooks_u240X4 rfl rfl rfl rfl (by decide +kernel) ⟨Nat.le_of_ble_eq_true rfl, Nat.le_of_ble_eq_true rfl⟩) ⟨fun a U g mk q => by obtain ⟨q0, q1, qP, qK, qD, qhI_, qhB_, qhW_, qhZ⟩ := q; exact ⟨q0, q1, qP, va_K.moved (u := U) (U := U.calling g mk a) (Vm.Alike.refl U.vm) qK, qD, qhI_.same rfl rfl, qhB_.same rfl rfl, qhW_.same rfl rfl, qhZ.same rfl rfl⟩, va_recv hY.2.1 (hY.P hS) (ci := 6) (q := (RX4, TX4, 4)) (q0 := 0) rfl rfl, fun U hU hW => ⟨rfl, by rw [hU], by rw [hU]; exact hPc, va_K.moved hW.alike hKc, hDc.weaken (fun _ _ _ _ => trivial), hI_.call hS hU hW (fun q h => hFc q h), hB_.call hS hU hW (fun q h => hFc q h), hW_.call hS hU hW (fun q h => hFc q h), hY.call hS hU hW (fun q h => hFc q h)⟩⟩ rfl rfl hl.1 rfl (lv_room (Nat.le_of_ble_eq_true rfl)) dX11_act_81 ⟨Nat.le_of_ble_eq_true rfl, Nat.le_of_ble_eq_true rfl⟩) hS (fun q _ h => hFc q h) hFc (fun r_144 u tC H1 locs htC hvm hw_145 hB hz1 hk1 hS => ?_)
        obtain ⟨mdc9_146, sz_9_147, fEl9_148⟩ := u
        try dsimp only at hw_145 hB
        obtain ⟨hP1, hK1, hD1⟩ := hB
        rw [htC] at hP1
        have hK1 := va_K.moved hvm.symm hK1
        obtain ⟨hP, hD⟩ := va_join (wr := [(zo13rrirrrr h0 sc kp ik bl go ch bo), (zo10ririliiriririr sc aTp (nI ts) aHl (nI nh) ed mi sn aHs (nI n) aWk (nI wz) aBk (nI bz) aFc), (zaR aHs cHs 8 fHs)]) (w1 := [(zo1iri bo mdc9_146 aEl (nI sz_9_147)), (zaR aEl cEl 10 fEl9_148)]) hP hD [3, 4] [0, 1, 2] rfl rfl (by decide) (by decide) hk1 hFc hP1 hD1
        have hK := (hK.sub (tys' := [(cHs, .object "MistHeaps$Heap")]) [0] rfl).app hK1
        generalize H1 = H at hP hS ⊢
        have hP : va_P (dC, dI) vwCl [(zo13rrirrrr h0 sc kp ik bl go ch bo), (zo10ririliiriririr sc aTp (nI ts) aHl (nI nh) ed mi sn aHs (nI n) aWk (nI wz) aBk (nI bz) aFc), (zaR aHs cHs 8 fHs), (zo1iri bo mdc9_146 aEl (nI sz_9_147)), (zaR aEl cEl 10 fEl9_148)] H := hP
        have hD : va_D A [(zo13rrirrrr h0 sc kp ik bl go ch bo), (zo10ririliiriririr sc aTp (nI ts) aHl (nI nh) ed mi sn aHs (nI n) aWk (nI wz) aBk (nI bz) aFc), (zaR aHs cHs 8 fHs), (zo1iri bo mdc9_146 aEl (nI sz_9_147)), (zaR aEl cEl 10 fEl9_148)] := hD
        have hK : va_K (dC, dI) vwCl [(cHs, .object "MistHeaps$Heap"), (cEl, .object "java/lang/Object")] s := hK
        obtain ⟨er_149, e_150, hL_151⟩ := hw_145
        obtain rfl := (e_150).symm
        subst er_149
        have hk := hpT_k1 (zyt j_8 (by omega)) e_127
        rw [hQ]
        have hP9 := hP.sub (ws' := [(zo13rrirrrr h0 sc kp ik bl go ch bo), (zo10ririliiriririr sc aTp (nI ts) aHl (nI nh) ed mi sn aHs (nI n) aWk (nI wz) aBk (nI bz) aFc), (zaR aHs cHs 8 fHs), (zo1iri bo mdc9_146 aEl (nI (0 + 4))), (zaR aEl cEl 10 fEl9_148)]) [0, 1, 2, 3, 4] rfl
        have hD9 := hD.sub (ws' := [(zo13rrirrrr h0 sc kp ik bl go ch bo), (zo10ririliiriririr sc aTp (nI ts) aHl (nI nh) ed mi sn aHs (nI n) aWk (nI wz) aBk (nI bz) aFc), (zaR aHs cHs 8 fHs), (zo1iri bo mdc9_146 aEl (nI (0 + 4))), (zaR aEl cEl 10 fEl9_148)]) [0, 1, 2, 3, 4] (by decide) rfl
        have hK9 := hK.sub (tys' := [(cHs, .object "MistHeaps$Heap"), (cEl, .object "java/lang/Object")]) [0, 1] rfl
        refine W.widen (k := 1) (n := 10) (by omega) (by omega) ?_
        exact W.iret (v := ((z * 3 + nI j_8) - (yv j_8)) * 2) hx hb hr (fun tQ htQ hWQ => ⟨⟨(((z * 3 + nI j_8) - (yv j_8)) * 2), (mdc9_146, (0 + 4), fEl9_148), rfl, ⟨(kL1 (m := nI j_8) (v := yv j_8) (x := z) hk).1.trans (ac_2 (n := n) (yk := yk) (yv := yv) (j := j_8) (y := y) (z := z) hn8 (by omega) (by assumption)).1, by omega, by rw [(ac_2 (n := n) (yk := yk) (yv := yv) (j := j_8) (y := y) (z := z) hn8 (by omega) (by assumption)).2, (kL1 (m := nI j_8) (v := yv j_8) (x := z) hk).2]; exact hL_151⟩, by rw [htQ]; exact hP9, va_K.moved hWQ.alike hK9, hD9⟩, hS.F htQ⟩) hS.2.2 dX11_act_84
      · skip
        have hY : Fz dC dI [(zo8iiii (ya j_8) (yk j_8) (nI j_8) (yv j_8) (yc j_8))] [] A s := by have h9 := (hH_ j_8 (by omega)).2; rw [hpE, e_127] at h9; exact h9
        have hPc := hP.sub (ws' := [(zo1iri bo mdc9_3 aEl (nI 0)), (zaR aEl cEl 10 fEl9_5)]) [3, 4] rfl
        have hDc := hD.sub (ws' := [(zo1iri bo mdc9_3 aEl (nI 0)), (zaR aEl cEl 10 fEl9_5)]) [3, 4] (by decide) rfl
        have hKc := hK.sub (tys' := [(cEl, .object "java/lang/Object")]) [1] rfl
        have hFc := va_free (wc := [(zo1iri bo mdc9_3 aEl (nI 0)), (zaR aEl cEl 10 fEl9_5)]) hD hS hA [3, 4] rfl
        refine va_calli (va_runU (As := [.int z, .ref bo]) (rest := []) ⟨hx, hb, hml, hown, hts⟩ (c_X3_doLooks_X6_1 l dC dI ad cB bS    bo aEl j_8 (yk j_8) (yv j_8) (yc j_8) z cEl fEl9_5 (ya j_8) 0 mdc9_3 ([] : List Nat) H.size (by omega) (okL_nil)) (va_cwU 2 hts gX11_act_X3_doLooks_u240X6 rfl rfl rfl rfl (by decide +kernel) ⟨Nat.le_of_ble_eq_true rfl, Nat.le_of_ble_eq_true rfl⟩) ⟨fun a U g mk q => by obtain ⟨q0, q1, qP, qK, qD, qhI_, qhB_, qhW_, qhZ⟩ := q; exact ⟨q0, q1, qP, va_K.moved (u := U) (U := U.calling g mk a) (Vm.Alike.refl U.vm) qK, qD, qhI_.same rfl rfl, qhB_.same rfl rfl, qhW_.same rfl rfl, qhZ.same rfl rfl⟩, va_recv hY.2.1 (hY.P hS) (ci := 8) (q := (RX6, TX6, 4)) (q0 := 0) rfl rfl, fun U hU hW => ⟨rfl, by rw [hU], by rw [hU]; exact hPc, va_K.moved hW.alike hKc, hDc.weaken (fun _ _ _ _ => trivial), hI_.call hS hU hW (fun q h => hFc q h), hB_.call hS hU hW (fun q h => hFc q h), hW_.call hS hU hW (fun q h => hFc q h), hY.call hS hU hW (fun q h => hFc q h)⟩⟩ rfl rfl hl.1 rfl (lv_room (Nat.le_of_ble_eq_true rfl)) dX11_act_81 ⟨Nat.le_of_ble_eq_true rfl, Nat.le_of_ble_eq_true rfl⟩) hS (fun q _ h => hFc q h) hFc (fun r_152 u tC H1 locs htC hvm hw_153 hB hz1 hk1 hS => ?_)
        obtain ⟨mdc9_154, sz_9_155, fEl9_156⟩ := u
        try dsimp only at hw_153 hB
        obtain ⟨hP1, hK1, hD1⟩ := hB
        rw [htC] at hP1
        have hK1 := va_K.moved hvm.symm hK1
        obtain ⟨hP, hD⟩ := va_join (wr := [(zo13rrirrrr h0 sc kp ik bl go ch bo), (zo10ririliiriririr sc aTp (nI ts) aHl (nI nh) ed mi sn aHs (nI n) aWk (nI wz) aBk (nI bz) aFc), (zaR aHs cHs 8 fHs)]) (w1 := [(zo1iri bo mdc9_154 aEl (nI sz_9_155)), (zaR aEl cEl 10 fEl9_156)]) hP hD [3, 4] [0, 1, 2] rfl rfl (by decide) (by decide) hk1 hFc hP1 hD1
        have hK := (hK.sub (tys' := [(cHs, .object "MistHeaps$Heap")]) [0] rfl).app hK1
        generalize H1 = H at hP hS ⊢
        have hP : va_P (dC, dI) vwCl [(zo13rrirrrr h0 sc kp ik bl go ch bo), (zo10ririliiriririr sc aTp (nI ts) aHl (nI nh) ed mi sn aHs (nI n) aWk (nI wz) aBk (nI bz) aFc), (zaR aHs cHs 8 fHs), (zo1iri bo mdc9_154 aEl (nI sz_9_155)), (zaR aEl cEl 10 fEl9_156)] H := hP
        have hD : va_D A [(zo13rrirrrr h0 sc kp ik bl go ch bo), (zo10ririliiriririr sc aTp (nI ts) aHl (nI nh) ed mi sn aHs (nI n) aWk (nI wz) aBk (nI bz) aFc), (zaR aHs cHs 8 fHs), (zo1iri bo mdc9_154 aEl (nI sz_9_155)), (zaR aEl cEl 10 fEl9_156)] := hD
        have hK : va_K (dC, dI) vwCl [(cHs, .object "MistHeaps$Heap"), (cEl, .object "java/lang/Object")] s := hK
        obtain ⟨er_157, e_158, hL_159⟩ := hw_153
        obtain rfl := (e_158).symm
        subst er_157
        have hk := hpT_k2 (zyt j_8 (by omega)) e_127
        rw [hQ]
        have hP9 := hP.sub (ws' := [(zo13rrirrrr h0 sc kp ik bl go ch bo), (zo10ririliiriririr sc aTp (nI ts) aHl (nI nh) ed mi sn aHs (nI n) aWk (nI wz) aBk (nI bz) aFc), (zaR aHs cHs 8 fHs), (zo1iri bo mdc9_154 aEl (nI (0 + 4))), (zaR aEl cEl 10 fEl9_156)]) [0, 1, 2, 3, 4] rfl
        have hD9 := hD.sub (ws' := [(zo13rrirrrr h0 sc kp ik bl go ch bo), (zo10ririliiriririr sc aTp (nI ts) aHl (nI nh) ed mi sn aHs (nI n) aWk (nI wz) aBk (nI bz) aFc), (zaR aHs cHs 8 fHs), (zo1iri bo mdc9_154 aEl (nI (0 + 4))), (zaR aEl cEl 10 fEl9_156)]) [0, 1, 2, 3, 4] (by decide) rfl
        have hK9 := hK.sub (tys' := [(cHs, .object "MistHeaps$Heap"), (cEl, .object "java/lang/Object")]) [0, 1] rfl
        refine W.widen (k := 1) (n := 10) (by omega) (by omega) ?_
        exact W.iret (v := (-((z + nI j_8) - (yv j_8))) * 2) hx hb hr (fun tQ htQ hWQ => ⟨⟨((-((z + nI j_8) - (yv j_8))) * 2), (mdc9_154, (0 + 4), fEl9_156), rfl, ⟨(kL2 (m := nI j_8) (v := yv j_8) (x := z) hk).1.trans (ac_2 (n := n) (yk := yk) (yv := yv) (j := j_8) (y := y) (z := z) hn8 (by omega) (by assumption)).1, by omega, by rw [(ac_2 (n := n) (yk := yk) (yv := yv) (j := j_8) (y := y) (z := z) hn8 (by omega) (by assumption)).2, (kL2 (m := nI j_8) (v := yv j_8) (x := z) hk).2]; exact hL_159⟩, by rw [htQ]; exact hP9, va_K.moved hWQ.alike hK9, hD9⟩, hS.F htQ⟩) hS.2.2 dX11_act_84
      · skip
        have hY : Fz dC dI [(zo9iiii (ya j_8) (yk j_8) (nI j_8) (yv j_8) (yc j_8))] [] A s := by have h9 := (hH_ j_8 (by omega)).2; rw [hpE, e_127] at h9; exact h9
        have hPc := hP.sub (ws' := [(zo1iri bo mdc9_3 aEl (nI 0)), (zaR aEl cEl 10 fEl9_5)]) [3, 4] rfl
        have hDc := hD.sub (ws' := [(zo1iri bo mdc9_3 aEl (nI 0)), (zaR aEl cEl 10 fEl9_5)]) [3, 4] (by decide) rfl
        have hKc := hK.sub (tys' := [(cEl, .object "java/lang/Object")]) [1] rfl
        have hFc := va_free (wc := [(zo1iri bo mdc9_3 aEl (nI 0)), (zaR aEl cEl 10 fEl9_5)]) hD hS hA [3, 4] rfl
        refine va_calli (va_runU (As := [.int z, .ref bo]) (rest := []) ⟨hx, hb, hml, hown, hts⟩ (c_X1_doLooks_X7_1 l dC dI ad cB bS    bo aEl j_8 (yk j_8) (yv j_8) (yc j_8) z cEl fEl9_5 (ya j_8) 0 mdc9_3 ([] : List Nat) H.size (by omega) (okL_nil)) (va_cwO 2 hts gX11_act_X1_doLooks_u240X7 rfl rfl rfl kc_xAct1_5 (by decide +kernel) ⟨Nat.le_of_ble_eq_true rfl, Nat.le_of_ble_eq_true rfl⟩) ⟨fun a U g mk q => by obtain ⟨q0, q1, qP, qK, qD, qhI_, qhB_, qhW_, qhZ⟩ := q; exact ⟨q0, q1, qP, va_K.moved (u := U) (U := U.calling g mk a) (Vm.Alike.refl U.vm) qK, qD, qhI_.same rfl rfl, qhB_.same rfl rfl, qhW_.same rfl rfl, qhZ.same rfl rfl⟩, va_recv hY.2.1 (hY.P hS) (ci := 9) (q := (RX7, TX7, 4)) (q0 := 0) rfl rfl, fun U hU hW => ⟨rfl, by rw [hU], by rw [hU]; exact hPc, va_K.moved hW.alike hKc, hDc.weaken (fun _ _ _ _ => trivial), hI_.call hS hU hW (fun q h => hFc q h), hB_.call hS hU hW (fun q h => hFc q h), hW_.call hS hU hW (fun q h => hFc q h), hY.call hS hU hW (fun q h => hFc q h)⟩⟩ rfl rfl hl.1 rfl (lv_room (Nat.le_of_ble_eq_true rfl)) dX11_act_81 ⟨Nat.le_of_ble_eq_true rfl, Nat.le_of_ble_eq_true rfl⟩) hS (fun q _ h => hFc q h) hFc (fun r_160 u tC H1 locs htC hvm hw_161 hB hz1 hk1 hS => ?_)
        obtain ⟨mdc9_162, sz_9_163, fEl9_164⟩ := u
        try dsimp only at hw_161 hB
        obtain ⟨hP1, hK1, hD1⟩ := hB
        rw [htC] at hP1
        have hK1 := va_K.moved hvm.symm hK1
        obtain ⟨hP, hD⟩ := va_join (wr := [(zo13rrirrrr h0 sc kp ik bl go ch bo), (zo10ririliiriririr sc aTp (nI ts) aHl (nI nh) ed mi sn aHs (nI n) aWk (nI wz) aBk (nI bz) aFc), (zaR aHs cHs 8 fHs)]) (w1 := [(zo1iri bo mdc9_162 aEl (nI sz_9_163)), (zaR aEl cEl 10 fEl9_164)]) hP hD [3, 4] [0, 1, 2] rfl rfl (by decide) (by decide) hk1 hFc hP1 hD1
        have hK := (hK.sub (tys' := [(cHs, .object "MistHeaps$Heap")]) [0] rfl).app hK1
        generalize H1 = H at hP hS ⊢
        have hP : va_P (dC, dI) vwCl [(zo13rrirrrr h0 sc kp ik bl go ch bo), (zo10ririliiriririr sc aTp (nI ts) aHl (nI nh) ed mi sn aHs (nI n) aWk (nI wz) aBk (nI bz) aFc), (zaR aHs cHs 8 fHs), (zo1iri bo mdc9_162 aEl (nI sz_9_163)), (zaR aEl cEl 10 fEl9_164)] H := hP
        have hD : va_D A [(zo13rrirrrr h0 sc kp ik bl go ch bo), (zo10ririliiriririr sc aTp (nI ts) aHl (nI nh) ed mi sn aHs (nI n) aWk (nI wz) aBk (nI bz) aFc), (zaR aHs cHs 8 fHs), (zo1iri bo mdc9_162 aEl (nI sz_9_163)), (zaR aEl cEl 10 fEl9_164)] := hD
        have hK : va_K (dC, dI) vwCl [(cHs, .object "MistHeaps$Heap"), (cEl, .object "java/lang/Object")] s := hK
        obtain ⟨er_165, e_166, hL_167⟩ := hw_161
        obtain rfl := (e_166).symm
        subst er_165
        have hk := hpT_k6 (zyt j_8 (by omega)) e_127
        rw [hQ]
        have hP9 := hP.sub (ws' := [(zo13rrirrrr h0 sc kp ik bl go ch bo), (zo10ririliiriririr sc aTp (nI ts) aHl (nI nh) ed mi sn aHs (nI n) aWk (nI wz) aBk (nI bz) aFc), (zaR aHs cHs 8 fHs), (zo1iri bo mdc9_162 aEl (nI (0 + 5))), (zaR aEl cEl 10 fEl9_164)]) [0, 1, 2, 3, 4] rfl
        have hD9 := hD.sub (ws' := [(zo13rrirrrr h0 sc kp ik bl go ch bo), (zo10ririliiriririr sc aTp (nI ts) aHl (nI nh) ed mi sn aHs (nI n) aWk (nI wz) aBk (nI bz) aFc), (zaR aHs cHs 8 fHs), (zo1iri bo mdc9_162 aEl (nI (0 + 5))), (zaR aEl cEl 10 fEl9_164)]) [0, 1, 2, 3, 4] (by decide) rfl
        have hK9 := hK.sub (tys' := [(cHs, .object "MistHeaps$Heap"), (cEl, .object "java/lang/Object")]) [0, 1] rfl
        refine W.widen (k := 1) (n := 10) (by omega) (by omega) ?_
        exact W.iret (v := ((((z + nI j_8) - (yv j_8)) + (yv j_8)) * 2) ^^^ 7) hx hb hr (fun tQ htQ hWQ => ⟨⟨(((((z + nI j_8) - (yv j_8)) + (yv j_8)) * 2) ^^^ 7), (mdc9_162, (0 + 5), fEl9_164), rfl, ⟨(kL6 (m := nI j_8) (v := yv j_8) (x := z) hk).1.trans (ac_2 (n := n) (yk := yk) (yv := yv) (j := j_8) (y := y) (z := z) hn8 (by omega) (by assumption)).1, by omega, by rw [(ac_2 (n := n) (yk := yk) (yv := yv) (j := j_8) (y := y) (z := z) hn8 (by omega) (by assumption)).2, (kL6 (m := nI j_8) (v := yv j_8) (x := z) hk).2]; exact hL_167⟩, by rw [htQ]; exact hP9, va_K.moved hWQ.alike hK9, hD9⟩, hS.F htQ⟩) hS.2.2 dX11_act_84
      · skip
        have hY : Fz dC dI [(zo11iiii (ya j_8) (yk j_8) (nI j_8) (yv j_8) (yc j_8))] [] A s := by have h9 := (hH_ j_8 (by omega)).2; rw [hpE, e_127] at h9; exact h9
        have hPc := hP.sub (ws' := [(zo1iri bo mdc9_3 aEl (nI 0)), (zaR aEl cEl 10 fEl9_5)]) [3, 4] rfl
        have hDc := hD.sub (ws' := [(zo1iri bo mdc9_3 aEl (nI 0)), (zaR aEl cEl 10 fEl9_5)]) [3, 4] (by decide) rfl
        have hKc := hK.sub (tys' := [(cEl, .object "java/lang/Object")]) [1] rfl
        have hFc := va_free (wc := [(zo1iri bo mdc9_3 aEl (nI 0)), (zaR aEl cEl 10 fEl9_5)]) hD hS hA [3, 4] rfl
        refine va_calli (va_runU (As := [.int z, .ref bo]) (rest := []) ⟨hx, hb, hml, hown, hts⟩ (c_X3_doLooks_X9_1 l dC dI ad cB bS    bo aEl j_8 (yk j_8) (yv j_8) (yc j_8) z cEl fEl9_5 (ya j_8) 0 mdc9_3 ([] : List Nat) H.size (by omega) (okL_nil)) (va_cwU 2 hts gX11_act_X3_doLooks_u240X9 rfl rfl rfl rfl (by decide +kernel) ⟨Nat.le_of_ble_eq_true rfl, Nat.le_of_ble_eq_true rfl⟩) ⟨fun a U g mk q => by obtain ⟨q0, q1, qP, qK, qD, qhI_, qhB_, qhW_, qhZ⟩ := q; exact ⟨q0, q1, qP, va_K.moved (u := U) (U := U.calling g mk a) (Vm.Alike.refl U.vm) qK, qD, qhI_.same rfl rfl, qhB_.same rfl rfl, qhW_.same rfl rfl, qhZ.same rfl rfl⟩, va_recv hY.2.1 (hY.P hS) (ci := 11) (q := (RX9, TX9, 4)) (q0 := 0) rfl rfl, fun U hU hW => ⟨rfl, by rw [hU], by rw [hU]; exact hPc, va_K.moved hW.alike hKc, hDc.weaken (fun _ _ _ _ => trivial), hI_.call hS hU hW (fun q h => hFc q h), hB_.call hS hU hW (fun q h => hFc q h), hW_.call hS hU hW (fun q h => hFc q h), hY.call hS hU hW (fun q h => hFc q h)⟩⟩ rfl rfl hl.1 rfl (lv_room (Nat.le_of_ble_eq_true rfl)) dX11_act_81 ⟨Nat.le_of_ble_eq_true rfl, Nat.le_of_ble_eq_true rfl⟩) hS (fun q _ h => hFc q h) hFc (fun r_168 u tC H1 locs htC hvm hw_169 hB hz1 hk1 hS => ?_)
        obtain ⟨mdc9_170, sz_9_171, fEl9_172⟩ := u
        try dsimp only at hw_169 hB
        obtain ⟨hP1, hK1, hD1⟩ := hB
        rw [htC] at hP1
        have hK1 := va_K.moved hvm.symm hK1
        obtain ⟨hP, hD⟩ := va_join (wr := [(zo13rrirrrr h0 sc kp ik bl go ch bo), (zo10ririliiriririr sc aTp (nI ts) aHl (nI nh) ed mi sn aHs (nI n) aWk (nI wz) aBk (nI bz) aFc), (zaR aHs cHs 8 fHs)]) (w1 := [(zo1iri bo mdc9_170 aEl (nI sz_9_171)), (zaR aEl cEl 10 fEl9_172)]) hP hD [3, 4] [0, 1, 2] rfl rfl (by decide) (by decide) hk1 hFc hP1 hD1
        have hK := (hK.sub (tys' := [(cHs, .object "MistHeaps$Heap")]) [0] rfl).app hK1
        generalize H1 = H at hP hS ⊢
        have hP : va_P (dC, dI) vwCl [(zo13rrirrrr h0 sc kp ik bl go ch bo), (zo10ririliiriririr sc aTp (nI ts) aHl (nI nh) ed mi sn aHs (nI n) aWk (nI wz) aBk (nI bz) aFc), (zaR aHs cHs 8 fHs), (zo1iri bo mdc9_170 aEl (nI sz_9_171)), (zaR aEl cEl 10 fEl9_172)] H := hP
        have hD : va_D A [(zo13rrirrrr h0 sc kp ik bl go ch bo), (zo10ririliiriririr sc aTp (nI ts) aHl (nI nh) ed mi sn aHs (nI n) aWk (nI wz) aBk (nI bz) aFc), (zaR aHs cHs 8 fHs), (zo1iri bo mdc9_170 aEl (nI sz_9_171)), (zaR aEl cEl 10 fEl9_172)] := hD
        have hK : va_K (dC, dI) vwCl [(cHs, .object "MistHeaps$Heap"), (cEl, .object "java/lang/Object")] s := hK
        obtain ⟨er_173, e_174, hL_175⟩ := hw_169
        obtain rfl := (e_174).symm
        subst er_173
        have hk := hpT_k5 (zyt j_8 (by omega)) e_127
        rw [hQ]
        have hP9 := hP.sub (ws' := [(zo13rrirrrr h0 sc kp ik bl go ch bo), (zo10ririliiriririr sc aTp (nI ts) aHl (nI nh) ed mi sn aHs (nI n) aWk (nI wz) aBk (nI bz) aFc), (zaR aHs cHs 8 fHs), (zo1iri bo mdc9_170 aEl (nI (0 + 5))), (zaR aEl cEl 10 fEl9_172)]) [0, 1, 2, 3, 4] rfl
        have hD9 := hD.sub (ws' := [(zo13rrirrrr h0 sc kp ik bl go ch bo), (zo10ririliiriririr sc aTp (nI ts) aHl (nI nh) ed mi sn aHs (nI n) aWk (nI wz) aBk (nI bz) aFc), (zaR aHs cHs 8 fHs), (zo1iri bo mdc9_170 aEl (nI (0 + 5))), (zaR aEl cEl 10 fEl9_172)]) [0, 1, 2, 3, 4] (by decide) rfl
        have hK9 := hK.sub (tys' := [(cHs, .object "MistHeaps$Heap"), (cEl, .object "java/lang/Object")]) [0, 1] rfl
        refine W.widen (k := 1) (n := 10) (by omega) (by omega) ?_
        exact W.iret (v := (-(((z + nI j_8) ^^^ nI j_8) - (yv j_8))) * 2) hx hb hr (fun tQ htQ hWQ => ⟨⟨((-(((z + nI j_8) ^^^ nI j_8) - (yv j_8))) * 2), (mdc9_170, (0 + 5), fEl9_172), rfl, ⟨(kL5 (m := nI j_8) (v := yv j_8) (x := z) hk).1.trans (ac_2 (n := n) (yk := yk) (yv := yv) (j := j_8) (y := y) (z := z) hn8 (by omega) (by assumption)).1, by omega, by rw [(ac_2 (n := n) (yk := yk) (yv := yv) (j := j_8) (y := y) (z := z) hn8 (by omega) (by assumption)).2, (kL5 (m := nI j_8) (v := yv j_8) (x := z) hk).2]; exact hL_175⟩, by rw [htQ]; exact hP9, va_K.moved hWQ.alike hK9, hD9⟩, hS.F htQ⟩) hS.2.2 dX11_act_84
      · skip
        have hY : Fz dC dI [(zo12iiii (ya j_8) (yk j_8) (nI j_8) (yv j_8) (yc j_8))] [] A s := by have h9 := (hH_ j_8 (by omega)).2; rw [hpE, e_127] at h9; exact h9
        have hPc := hP.sub (ws' := [(zo1iri bo mdc9_3 aEl (nI 0)), (zaR aEl cEl 10 fEl9_5)]) [3, 4] rfl
        have hDc := hD.sub (ws' := [(zo1iri bo mdc9_3 aEl (nI 0)), (zaR aEl cEl 10 fEl9_5)]) [3, 4] (by decide) rfl
        have hKc := hK.sub (tys' := [(cEl, .object "java/lang/Object")]) [1] rfl
        have hFc := va_free (wc := [(zo1iri bo mdc9_3 aEl (nI 0)), (zaR aEl cEl 10 fEl9_5)]) hD hS hA [3, 4] rfl
        refine va_calli (va_runU (As := [.int z, .ref bo]) (rest := []) ⟨hx, hb, hml, hown, hts⟩ (c_X10_doLooks_X10_1 l dC dI ad cB bS    bo aEl j_8 (yk j_8) (yv j_8) (yc j_8) z cEl fEl9_5 (ya j_8) 0 mdc9_3 ([] : List Nat) H.size (by omega) (okL_nil)) (va_cwO 2 hts gX11_act_X10_doLooks_u240X10 rfl rfl rfl kc_xAct1_5 (by decide +kernel) ⟨Nat.le_of_ble_eq_true rfl, Nat.le_of_ble_eq_true rfl⟩) ⟨fun a U g mk q => by obtain ⟨q0, q1, qP, qK, qD, qhI_, qhB_, qhW_, qhZ⟩ := q; exact ⟨q0, q1, qP, va_K.moved (u := U) (U := U.calling g mk a) (Vm.Alike.refl U.vm) qK, qD, qhI_.same rfl rfl, qhB_.same rfl rfl, qhW_.same rfl rfl, qhZ.same rfl rfl⟩, va_recv hY.2.1 (hY.P hS) (ci := 12) (q := (RX10, TX10, 4)) (q0 := 0) rfl rfl, fun U hU hW => ⟨rfl, by rw [hU], by rw [hU]; exact hPc, va_K.moved hW.alike hKc, hDc.weaken (fun _ _ _ _ => trivial), hI_.call hS hU hW (fun q h => hFc q h), hB_.call hS hU hW (fun q h => hFc q h), hW_.call hS hU hW (fun q h => hFc q h), hY.call hS hU hW (fun q h => hFc q h)⟩⟩ rfl rfl hl.1 rfl (lv_room (Nat.le_of_ble_eq_true rfl)) dX11_act_81 ⟨Nat.le_of_ble_eq_true rfl, Nat.le_of_ble_eq_true rfl⟩) hS (fun q _ h => hFc q h) hFc (fun r_176 u tC H1 locs htC hvm hw_177 hB hz1 hk1 hS => ?_)
        obtain ⟨mdc9_178, sz_9_179, fEl9_180⟩ := u
        try dsimp only at hw_177 hB
        obtain ⟨hP1, hK1, hD1⟩ := hB
        rw [htC] at hP1
        have hK1 := va_K.moved hvm.symm hK1
        obtain ⟨hP, hD⟩ := va_join (wr := [(zo13rrirrrr h0 sc kp ik bl go ch bo), (zo10ririliiriririr sc aTp (nI ts) aHl (nI nh) ed mi sn aHs (nI n) aWk (nI wz) aBk (nI bz) aFc), (zaR aHs cHs 8 fHs)]) (w1 := [(zo1iri bo mdc9_178 aEl (nI sz_9_179)), (zaR aEl cEl 10 fEl9_180)]) hP hD [3, 4] [0, 1, 2] rfl rfl (by decide) (by decide) hk1 hFc hP1 hD1
        have hK := (hK.sub (tys' := [(cHs, .object "MistHeaps$Heap")]) [0] rfl).app hK1
        generalize H1 = H at hP hS ⊢
        have hP : va_P (dC, dI) vwCl [(zo13rrirrrr h0 sc kp ik bl go ch bo), (zo10ririliiriririr sc aTp (nI ts) aHl (nI nh) ed mi sn aHs (nI n) aWk (nI wz) aBk (nI bz) aFc), (zaR aHs cHs 8 fHs), (zo1iri bo mdc9_178 aEl (nI sz_9_179)), (zaR aEl cEl 10 fEl9_180)] H := hP
        have hD : va_D A [(zo13rrirrrr h0 sc kp ik bl go ch bo), (zo10ririliiriririr sc aTp (nI ts) aHl (nI nh) ed mi sn aHs (nI n) aWk (nI wz) aBk (nI bz) aFc), (zaR aHs cHs 8 fHs), (zo1iri bo mdc9_178 aEl (nI sz_9_179)), (zaR aEl cEl 10 fEl9_180)] := hD
        have hK : va_K (dC, dI) vwCl [(cHs, .object "MistHeaps$Heap"), (cEl, .object "java/lang/Object")] s := hK
        obtain ⟨er_181, e_182, hL_183⟩ := hw_177
        obtain rfl := (e_182).symm
        subst er_181
        have hk := hpT_k4 (zyt j_8 (by omega)) e_127
        rw [hQ]
        have hP9 := hP.sub (ws' := [(zo13rrirrrr h0 sc kp ik bl go ch bo), (zo10ririliiriririr sc aTp (nI ts) aHl (nI nh) ed mi sn aHs (nI n) aWk (nI wz) aBk (nI bz) aFc), (zaR aHs cHs 8 fHs), (zo1iri bo mdc9_178 aEl (nI (0 + 7))), (zaR aEl cEl 10 fEl9_180)]) [0, 1, 2, 3, 4] rfl
        have hD9 := hD.sub (ws' := [(zo13rrirrrr h0 sc kp ik bl go ch bo), (zo10ririliiriririr sc aTp (nI ts) aHl (nI nh) ed mi sn aHs (nI n) aWk (nI wz) aBk (nI bz) aFc), (zaR aHs cHs 8 fHs), (zo1iri bo mdc9_178 aEl (nI (0 + 7))), (zaR aEl cEl 10 fEl9_180)]) [0, 1, 2, 3, 4] (by decide) rfl
        have hK9 := hK.sub (tys' := [(cHs, .object "MistHeaps$Heap"), (cEl, .object "java/lang/Object")]) [0, 1] rfl
        refine W.widen (k := 1) (n := 10) (by omega) (by omega) ?_
        exact W.iret (v := ((((z - 1) * 3 + nI j_8) - (yv j_8)) * 2) + (2 * 3 + nI j_8)) hx hb hr (fun tQ htQ hWQ => ⟨⟨(((((z - 1) * 3 + nI j_8) - (yv j_8)) * 2) + (2 * 3 + nI j_8)), (mdc9_178, (0 + 7), fEl9_180), rfl, ⟨(kL4 (m := nI j_8) (v := yv j_8) (x := z) hk).1.trans (ac_2 (n := n) (yk := yk) (yv := yv) (j := j_8) (y := y) (z := z) hn8 (by omega) (by assumption)).1, by omega, by rw [(ac_2 (n := n) (yk := yk) (yv := yv) (j := j_8) (y := y) (z := z) hn8 (by omega) (by assumption)).2, (kL4 (m := nI j_8) (v := yv j_8) (x := z) hk).2]; exact hL_183⟩, by rw [htQ]; exact hP9, va_K.moved hWQ.alike hK9, hD9⟩, hS.F htQ⟩) hS.2.2 dX11_act_84
    refine lv_tableOut (tgt := 85) hx hb dX11_act_25 (sw_out 0 2 y (fun k hk => by
      match k, hk with
      | 0, _ => exact c_12_0
      | 1, _ => exact c_12_1
      | 2, _ => exact c_12_2
      | k + 3, hk => exact absurd hk (by omega))) (by decide) ?_
    refine lv_iconst (v := 0) hx hb dX11_act_85 (by decide) ?_
    rw [hQ]
    have hP9 := hP.sub (ws' := [(zo13rrirrrr h0 sc kp ik bl go ch bo), (zo10ririliiriririr sc aTp (nI ts) aHl (nI nh) ed mi sn aHs (nI n) aWk (nI wz) aBk (nI bz) aFc), (zaR aHs cHs 8 fHs), (zo1iri bo mdc9_3 aEl (nI 0)), (zaR aEl cEl 10 fEl9_5)]) [0, 1, 2, 3, 4] rfl
    have hD9 := hD.sub (ws' := [(zo13rrirrrr h0 sc kp ik bl go ch bo), (zo10ririliiriririr sc aTp (nI ts) aHl (nI nh) ed mi sn aHs (nI n) aWk (nI wz) aBk (nI bz) aFc), (zaR aHs cHs 8 fHs), (zo1iri bo mdc9_3 aEl (nI 0)), (zaR aEl cEl 10 fEl9_5)]) [0, 1, 2, 3, 4] (by decide) rfl
    have hK9 := hK.sub (tys' := [(cHs, .object "MistHeaps$Heap"), (cEl, .object "java/lang/Object")]) [0, 1] rfl
    refine W.widen (k := 1) (n := 10) (by omega) (by omega) ?_
    exact W.iret (v := 0) hx hb hr (fun tQ htQ hWQ => ⟨⟨0, (mdc9_3, 0, fEl9_5), rfl, ⟨(ac_bad (n := n) (yk := yk) (yv := yv) (j := j_8) (y := y) (z := z) (by omega) (by assumption) (by assumption) (by assumption)).1, by omega, by rw [(ac_bad (n := n) (yk := yk) (yv := yv) (j := j_8) (y := y) (z := z) (by omega) (by assumption) (by assumption) (by assumption)).2]; exact okL_nil⟩, by rw [htQ]; exact hP9, va_K.moved hWQ.alike hK9, hD9⟩, hS.F htQ⟩) hS.2.2 dX11_act_86
  · skip
    refine qq_as (v := .null) rfl ?_
    refine lv_astoreN (lv' := [(4, .null), (0, .ref h0), (1, .int x), (2, .int y), (3, .int z)]) hx hb dX11_act_15 hl (by decide) rfl (fun ls hl => ?_)
    refine lv_aloadN hx hb dX11_act_17 (lv_at hl 0 rfl) ?_
    refine lv_ifnonnullN hx hb dX11_act_19 ?_
    refine lv_iconst (v := 0) hx hb dX11_act_22 (by decide) ?_
    rw [hQ]
    have hP9 := hP.sub (ws' := [(zo13rrirrrr h0 sc kp ik bl go ch bo), (zo10ririliiriririr sc aTp (nI ts) aHl (nI nh) ed mi sn aHs (nI n) aWk (nI wz) aBk (nI bz) aFc), (zaR aHs cHs 8 fHs), (zo1iri bo mdc9_3 aEl (nI 0)), (zaR aEl cEl 10 fEl9_5)]) [0, 1, 2, 3, 4] rfl
    have hD9 := hD.sub (ws' := [(zo13rrirrrr h0 sc kp ik bl go ch bo), (zo10ririliiriririr sc aTp (nI ts) aHl (nI nh) ed mi sn aHs (nI n) aWk (nI wz) aBk (nI bz) aFc), (zaR aHs cHs 8 fHs), (zo1iri bo mdc9_3 aEl (nI 0)), (zaR aEl cEl 10 fEl9_5)]) [0, 1, 2, 3, 4] (by decide) rfl
    have hK9 := hK.sub (tys' := [(cHs, .object "MistHeaps$Heap"), (cEl, .object "java/lang/Object")]) [0, 1] rfl
    refine W.widen (k := 1) (n := 10) (by omega) (by omega) ?_
    exact W.iret (v := 0) hx hb hr (fun tQ htQ hWQ => ⟨⟨0, (mdc9_3, 0, fEl9_5), rfl, ⟨(ac_no (n := n) (yk := yk) (yv := yv) (x := x) (y := y) (z := z) (by assumption)).1, by omega, by rw [(ac_no (n := n) (yk := yk) (yv := yv) (x := x) (y := y) (z := z) (by assumption)).2]; exact okL_nil⟩, by rw [htQ]; exact hP9, va_K.moved hWQ.alike hK9, hD9⟩, hS.F htQ⟩) hS.2.2 dX11_act_23

theorem kc_xAct0_0 : ∀ w ∈ wsX110, w ∈ wsX11_act := fun w h => List.mem_cons_of_mem _ (gin_wsX110 w h)
theorem kc_xAct0_1 : (.fieldLink RX11 49 "MistHeaps" "bodies" "Ljava/util/ArrayList;" : Cond) ∈ wsX11_act := kc_of 334 rfl rfl rfl
theorem kc_xAct0_2 : (.fieldLink RX11 14 "MistHeaps" "scene" "LMistHeaps$Scene;" : Cond) ∈ wsX11_act := kc_of 328 rfl rfl rfl
theorem kc_xAct0_3 : (.code yX3_doSees cX3_doSees 3 (some .int) : Cond) ∈ wsX11_act := kc_of 1025 rfl rfl rfl
theorem kc_xAct0_4 : (.code yX3_doGoes cX3_doGoes 3 (some .int) : Cond) ∈ wsX11_act := kc_of 1049 rfl rfl rfl
theorem kc_xAct0_5 : (.code yX3_doLooks cX3_doLooks 3 (some .int) : Cond) ∈ wsX11_act := kc_of 1077 rfl rfl rfl
set_option maxHeartbeats 4000000 in
set_option maxRecDepth 100000 in
theorem c_xAct0 (l : Launch) (dC : Nat → ClassId) (dI : Nat → Nat → Nat) (ad : Nat → Nat) (cB bS : Nat)    (h0 : Nat) (sc : Nat) (kp : Nat) (bl : Nat) (go : Nat) (ch : Nat) (bo : Nat) (aTp : Nat) (aHl : Nat) (aHs : Nat) (aWk : Nat) (aBk : Nat) (aFc : Nat) (ts : Nat) (nh : Nat) (n : Nat) (wz : Nat) (bz : Nat) (mi : Int32) (sn : Int32) (ik : Int32) (x : Int32) (y : Int32) (z : Int32) (ed : Int64) (cHs : ClassId) (yk : Nat → Int32) (yv : Nat → Int32) (yc : Nat → Int32) (fHs : Nat → Option Nat) (yi : Nat → Nat) (ya : Nat → Nat) (mdc : Int32) (sz : Nat) (zhs : ∀ k0, k0 < n → fHs k0 = some (ya k0)) (hn8 : n ≤ 8) (zyt : ∀ k0, k0 < n → hpT (yi k0) (yk k0)) : Met l yX11_act wsX11_act ({ frames := 8, cells := 1, slots := 10, locals := 176 } : Room) (va_Pc [.ref h0, .int x, .int y, .int z] (fun U => U.heap.size = sz ∧ va_P (dC, dI) vwCl [(zo13rrirrrr h0 sc kp ik bl go ch bo), (zo10ririliiriririr sc aTp (nI ts) aHl (nI nh) ed mi sn aHs (nI n) aWk (nI wz) aBk (nI bz) aFc), (zaR aHs cHs 8 fHs), (zo1iri bo mdc bS 0)] U.heap ∧ va_K (dC, dI) vwCl [(cHs, .object "MistHeaps$Heap")] U ∧ va_D (fun _ => True) [(zo13rrirrrr h0 sc kp ik bl go ch bo), (zo10ririliiriririr sc aTp (nI ts) aHl (nI nh) ed mi sn aHs (nI n) aWk (nI wz) aBk (nI bz) aFc), (zaR aHs cHs 8 fHs), (zo1iri bo mdc bS 0)] ∧ Gi ad cB bS (va_A [(zo13rrirrrr h0 sc kp ik bl go ch bo), (zo10ririliiriririr sc aTp (nI ts) aHl (nI nh) ed mi sn aHs (nI n) aWk (nI wz) aBk (nI bz) aFc), (zaR aHs cHs 8 fHs), (zo1iri bo mdc bS 0)] sz) U ∧ Gb (va_A [(zo13rrirrrr h0 sc kp ik bl go ch bo), (zo10ririliiriririr sc aTp (nI ts) aHl (nI nh) ed mi sn aHs (nI n) aWk (nI wz) aBk (nI bz) aFc), (zaR aHs cHs 8 fHs), (zo1iri bo mdc bS 0)] sz) U ∧ Gw (va_A [(zo13rrirrrr h0 sc kp ik bl go ch bo), (zo10ririliiriririr sc aTp (nI ts) aHl (nI nh) ed mi sn aHs (nI n) aWk (nI wz) aBk (nI bz) aFc), (zaR aHs cHs 8 fHs), (zo1iri bo mdc bS 0)] sz) U ∧ Hs dC dI n yi ya yk yv yc (va_A [(zo13rrirrrr h0 sc kp ik bl go ch bo), (zo10ririliiriririr sc aTp (nI ts) aHl (nI nh) ed mi sn aHs (nI n) aWk (nI wz) aBk (nI bz) aFc), (zaR aHs cHs 8 fHs), (zo1iri bo mdc bS 0)] sz) U)) (va_Qi (fun (r : Int32) (u : (va_W) × (List (ClassId × FieldType))) => match u with | (L9, K9) => r = acR n yk yv x y z ∧ ((∃ mdc7 : Int32, L9 = [(zo1iri bo mdc7 bS 0)] ∧ K9 = [] ∧ acT n yk x y = []) ∨ (∃ (mdc7 : Int32) (aEl7 : Nat) (cEl7 : ClassId) (sz7 : Nat) (fEl7 : Nat → Option Nat), L9 = [(zo1iri bo mdc7 aEl7 (nI sz7)), (zaR aEl7 cEl7 10 fEl7)] ∧ K9 = [(cEl7, .object "java/lang/Object")] ∧ sz7 ≤ 10 ∧ okL ad fEl7 sz7 (acT n yk x y)))) (fun (u : (va_W) × (List (ClassId × FieldType))) (t : State) => match u with | (L9, K9) => va_P (dC, dI) vwCl ([(zo13rrirrrr h0 sc kp ik bl go ch bo), (zo10ririliiriririr sc aTp (nI ts) aHl (nI nh) ed mi sn aHs (nI n) aWk (nI wz) aBk (nI bz) aFc), (zaR aHs cHs 8 fHs)] ++ L9) t.heap ∧ va_K (dC, dI) vwCl ([(cHs, .object "MistHeaps$Heap")] ++ K9) t ∧ va_D (va_A [(zo13rrirrrr h0 sc kp ik bl go ch bo), (zo10ririliiriririr sc aTp (nI ts) aHl (nI nh) ed mi sn aHs (nI n) aWk (nI wz) aBk (nI bz) aFc), (zaR aHs cHs 8 fHs), (zo1iri bo mdc bS 0)] sz) ([(zo13rrirrrr h0 sc kp ik bl go ch bo), (zo10ririliiriririr sc aTp (nI ts) aHl (nI nh) ed mi sn aHs (nI n) aWk (nI wz) aBk (nI bz) aFc), (zaR aHs cHs 8 fHs)] ++ L9)) (va_A [(zo13rrirrrr h0 sc kp ik bl go ch bo), (zo10ririliiriririr sc aTp (nI ts) aHl (nI nh) ed mi sn aHs (nI n) aWk (nI wz) aBk (nI bz) aFc), (zaR aHs cHs 8 fHs), (zo1iri bo mdc bS 0)] sz)) 1 10 (va_A [(zo13rrirrrr h0 sc kp ik bl go ch bo), (zo10ririliiriririr sc aTp (nI ts) aHl (nI nh) ed mi sn aHs (nI n) aWk (nI wz) aBk (nI bz) aFc), (zaR aHs cHs 8 fHs), (zo1iri bo mdc bS 0)] sz) := by
  refine met_ofQ (cc := cX11_act) (maxL := 5) (ret := (some .int)) (by decide) rfl ?_
  intro p e s m args below meth c s₁ Q B hml hv hQ
  obtain ⟨rfl, hsz, hP, hK, hD0, hI_, hB_, hW_, hH_⟩ := hv
  have hx := B.exec
  have hb := B.bytes
  have hr := B.returns
  have hts := atoms_spec (ws := wsX11_act) B.pre
  have hown : s.vm.findClass RX11 = some m.cls := findClass_of_methodNamed B.named
  have hlocks := B.notSynchronized
  subst hsz
  have hD := hD0.self (sz := s.heap.size)
  generalize hAe : va_A [(zo13rrirrrr h0 sc kp ik bl go ch bo), (zo10ririliiriririr sc aTp (nI ts) aHl (nI nh) ed mi sn aHs (nI n) aWk (nI wz) aBk (nI bz) aFc), (zaR aHs cHs 8 fHs), (zo1iri bo mdc bS 0)] s.heap.size = A at hD hQ hI_ hB_ hW_ hH_ ⊢
  have hA : ∀ q : Nat, s.heap.size ≤ q → A q := fun q h => by rw [← hAe]; exact Or.inr h
  have hS : va_S A s.heap s.heap [] := va_S.rf
  have hl := lv_entry [.ref h0, .int x, .int y, .int z] (n := 5) (Nat.le_of_ble_eq_true rfl)
  rw [lg_entry_eq]
  generalize (lg_sl [.ref h0, .int x, .int y, .int z] ++ List.replicate (5 - (lg_sl [.ref h0, .int x, .int y, .int z]).length) Slot.unset).toArray = ls at hl ⊢
  generalize hag : ([.ref h0, .int x, .int y, .int z] : List Value).toArray = args at hts hQ ⊢
  have hl : lv_has ls 5 [(0, .ref h0), (1, .int x), (2, .int y), (3, .int z)] := hl
  obtain ⟨H, hH⟩ : ∃ H : Heap, H = s.heap := ⟨_, rfl⟩
  rw [← hH] at hP
  rw [← hH]
  have hS : va_S A s.heap H [] := by rw [hH]; exact hS
  obtain ⟨locs, hlo⟩ : ∃ L : List Loc, L = [] := ⟨_, rfl⟩
  rw [← hlo] at hS
  rw [← hlo]
  clear hH hlo
  refine lv_aload_n hx hb dX11_act_0 rfl (lv_at hl 0 rfl) ?_
  refine va_get (D := (dC, dI)) (ci := 13) (v := .ref bo) (C := RX11) (T := TX11) (N := 7) hx hb hts kc_xAct0_0 hown hK hP 0 rfl rfl 6 (by decide) (hts (.fieldLink RX11 49 "MistHeaps" "bodies" "Ljava/util/ArrayList;") kc_xAct0_1) (fun _ h9 => h9) rfl dX11_act_1 ?_
  have hPc := hP.sub (ws' := [(zo1iri bo mdc bS 0)]) [3] rfl
  have hDc := hD.sub (ws' := [(zo1iri bo mdc bS 0)]) [3] (by decide) rfl
  have hKc := hK.sub (tys' := []) [] rfl
  have hFc := va_free (wc := [(zo1iri bo mdc bS 0)]) hD hS hA [3] rfl
  refine va_callv (va_runV (As := []) (rest := []) ⟨hx, hb, hml, hown, hts⟩ (c_lclear0 l dC dI bo bS mdc H.size) (cwV 0 hts gX11_act_Jx4a65c_clear_da8c8 rfl rfl rfl hd_yJx4a65c_clear_da8c8 ⟨Nat.le_of_ble_eq_true rfl, Nat.le_of_ble_eq_true rfl⟩) ⟨fun a U g mk q => by obtain ⟨q0, q1, qP, qK, qD⟩ := q; exact ⟨q0, q1, qP, va_K.moved (u := U) (U := U.calling g mk a) (Vm.Alike.refl U.vm) qK, qD⟩, va_recv hK hP (ci := 1) (q := (RJx4a65c, TJx4a65c, 3)) (q0 := 3) rfl rfl, fun U hU hW => ⟨rfl, by rw [hU], by rw [hU]; exact hPc, va_K.moved hW.alike hKc, hDc.weaken (fun _ _ _ _ => trivial)⟩⟩ rfl rfl hl.1 rfl (lv_room (Nat.le_of_ble_eq_true rfl)) dX11_act_4 ⟨Nat.le_of_ble_eq_true rfl, Nat.le_of_ble_eq_true rfl⟩) hS (fun q _ h => hFc q h) hFc (fun u tC H1 locs htC hvm hw_2 hB hz1 hk1 hS => ?_)
  obtain ⟨mdc9_3, rfl⟩ : ∃ z, z = u := ⟨_, rfl⟩
  try dsimp only at hw_2 hB
  obtain ⟨hP1, hK1, hD1⟩ := hB
  rw [htC] at hP1
  have hK1 := va_K.moved hvm.symm hK1
  obtain ⟨hP, hD⟩ := va_join (wr := [(zo13rrirrrr h0 sc kp ik bl go ch bo), (zo10ririliiriririr sc aTp (nI ts) aHl (nI nh) ed mi sn aHs (nI n) aWk (nI wz) aBk (nI bz) aFc), (zaR aHs cHs 8 fHs)]) (w1 := [(zo1iri bo mdc9_3 bS 0)]) hP hD [3] [0, 1, 2] rfl rfl (by decide) (by decide) hk1 hFc hP1 hD1
  have hK := (hK.sub (tys' := [(cHs, .object "MistHeaps$Heap")]) [0] rfl).app hK1
  generalize H1 = H at hP hS ⊢
  have hP : va_P (dC, dI) vwCl [(zo13rrirrrr h0 sc kp ik bl go ch bo), (zo10ririliiriririr sc aTp (nI ts) aHl (nI nh) ed mi sn aHs (nI n) aWk (nI wz) aBk (nI bz) aFc), (zaR aHs cHs 8 fHs), (zo1iri bo mdc9_3 bS 0)] H := hP
  have hD : va_D A [(zo13rrirrrr h0 sc kp ik bl go ch bo), (zo10ririliiriririr sc aTp (nI ts) aHl (nI nh) ed mi sn aHs (nI n) aWk (nI wz) aBk (nI bz) aFc), (zaR aHs cHs 8 fHs), (zo1iri bo mdc9_3 bS 0)] := hD
  have hK : va_K (dC, dI) vwCl [(cHs, .object "MistHeaps$Heap")] s := hK
  refine lv_aload_n hx hb dX11_act_7 rfl (lv_at hl 0 rfl) ?_
  refine va_get (D := (dC, dI)) (ci := 13) (v := .ref sc) (C := RX11) (T := TX11) (N := 7) hx hb hts kc_xAct0_0 hown hK hP 0 rfl rfl 0 (by decide) (hts (.fieldLink RX11 14 "MistHeaps" "scene" "LMistHeaps$Scene;") kc_xAct0_2) (fun _ h9 => h9) rfl dX11_act_8 ?_
  refine lv_iload_n hx hb dX11_act_11 rfl (lv_at hl 1 rfl) ?_
  have hPc := hP.sub (ws' := [(zo10ririliiriririr sc aTp (nI ts) aHl (nI nh) ed mi sn aHs (nI n) aWk (nI wz) aBk (nI bz) aFc), (zaR aHs cHs 8 fHs)]) [1, 2] rfl
  have hKc := hK.sub (tys' := [(cHs, .object "MistHeaps$Heap")]) [0] rfl
  refine va_csq (va_runV (As := [.int x]) (rest := []) ⟨hx, hb, hml, hown, hts⟩ (c_heapAt l dC dI sc aTp aHl aHs aWk aBk aFc ts nh n wz bz mi sn x ed cHs fHs ya (zhs) (hn8)) (cwV 1 hts gX11_act_X8_heapAt rfl rfl rfl hd_yX8_heapAt ⟨Nat.le_of_ble_eq_true rfl, Nat.le_of_ble_eq_true rfl⟩) ⟨fun a U g mk q => by obtain ⟨q0, qP, qK⟩ := q; exact ⟨q0, qP, va_K.moved (u := U) (U := U.calling g mk a) (Vm.Alike.refl U.vm) qK⟩, va_recv hK hP (ci := 10) (q := (RX8, TX8, 14)) (q0 := 1) rfl rfl, fun U hU hW => ⟨rfl, by rw [hU]; exact hPc, va_K.moved hW.alike hKc⟩⟩ rfl rfl hl.1 rfl (lv_room (Nat.le_of_ble_eq_true rfl)) dX11_act_12 ⟨Nat.le_of_ble_eq_true rfl, Nat.le_of_ble_eq_true rfl⟩).run (fun r_4 hw_5 => ?_)
  rcases hw_5 with ⟨j_6, hj_7, rfl, rfl⟩ | ⟨rfl, h_9⟩
  · skip
    refine qq_as (v := .ref (ya j_6)) rfl ?_
    refine lv_astore (lv' := [(4, .ref (ya j_6)), (0, .ref h0), (1, .int (nI j_6)), (2, .int y), (3, .int z)]) hx hb dX11_act_15 hl (by decide) rfl (fun ls hl => ?_)
    refine lv_aload hx hb dX11_act_17 (lv_at hl 0 rfl) ?_
    refine lv_ifnonnull (tgt := 24) hx hb dX11_act_19 (by decide) ?_
    refine lv_iload_n hx hb dX11_act_24 rfl (lv_at hl 3 rfl) ?_
    by_cases c_10_0 : y = 0
    · skip
      refine lv_tableIn (tgt := 52) hx hb dX11_act_25 (by rw [c_10_0]; decide) (by rw [c_10_0]; decide) (by rw [c_10_0]; rfl) (by decide) ?_
      refine lv_aload hx hb dX11_act_52 (lv_at hl 0 rfl) ?_
      refine lv_iload_n hx hb dX11_act_54 rfl (lv_at hl 4 rfl) ?_
      refine lv_aload_n hx hb dX11_act_55 rfl (lv_at hl 1 rfl) ?_
      refine va_get (D := (dC, dI)) (ci := 13) (v := .ref bo) (C := RX11) (T := TX11) (N := 7) hx hb hts kc_xAct0_0 hown hK hP 0 rfl rfl 6 (by decide) (hts (.fieldLink RX11 49 "MistHeaps" "bodies" "Ljava/util/ArrayList;") kc_xAct0_1) (fun _ h9 => h9) rfl dX11_act_56 ?_
      rcases (show yi j_6 = 3 ∨ yi j_6 = 5 ∨ yi j_6 = 6 ∨ yi j_6 = 8 ∨ yi j_6 = 9 ∨ yi j_6 = 11 ∨ yi j_6 = 12 from (hH_ j_6 (by omega)).1) with e_11 | e_11 | e_11 | e_11 | e_11 | e_11 | e_11
      · skip
        have hY : Fz dC dI [(zo3iiii (ya j_6) (yk j_6) (nI j_6) (yv j_6) (yc j_6))] [] A s := by have h9 := (hH_ j_6 (by omega)).2; rw [hpE, e_11] at h9; exact h9
        have hPc := hP.sub (ws' := [(zo1iri bo mdc9_3 bS 0)]) [3] rfl
        have hDc := hD.sub (ws' := [(zo1iri bo mdc9_3 bS 0)]) [3] (by decide) rfl
        have hKc := hK.sub (tys' := []) [] rfl
        have hFc := va_free (wc := [(zo1iri bo mdc9_3 bS 0)]) hD hS hA [3] rfl
        refine va_calli (va_runU (As := [.int z, .ref bo]) (rest := []) ⟨hx, hb, hml, hown, hts⟩ (c_X3_doSees_X1_0 l dC dI ad cB bS    bo j_6 (yk j_6) (yv j_6) (yc j_6) z (ya j_6) mdc9_3 H.size) (va_cwU 2 hts gX11_act_X3_doSees_u233X1 rfl rfl rfl rfl (by decide +kernel) ⟨Nat.le_of_ble_eq_true rfl, Nat.le_of_ble_eq_true rfl⟩) ⟨fun a U g mk q => by obtain ⟨q0, q1, qP, qK, qD, qhI_, qhB_, qhW_, qhZ⟩ := q; exact ⟨q0, q1, qP, va_K.moved (u := U) (U := U.calling g mk a) (Vm.Alike.refl U.vm) qK, qD, qhI_.same rfl rfl, qhB_.same rfl rfl, qhW_.same rfl rfl, qhZ.same rfl rfl⟩, va_recv hY.2.1 (hY.P hS) (ci := 3) (q := (RX1, TX1, 4)) (q0 := 0) rfl rfl, fun U hU hW => ⟨rfl, by rw [hU], by rw [hU]; exact hPc, va_K.moved hW.alike hKc, hDc.weaken (fun _ _ _ _ => trivial), hI_.call hS hU hW (fun q h => hFc q h), hB_.call hS hU hW (fun q h => hFc q h), hW_.call hS hU hW (fun q h => hFc q h), hY.call hS hU hW (fun q h => hFc q h)⟩⟩ rfl rfl hl.1 rfl (lv_room (Nat.le_of_ble_eq_true rfl)) dX11_act_59 ⟨Nat.le_of_ble_eq_true rfl, Nat.le_of_ble_eq_true rfl⟩) hS (fun q _ h => hFc q h) hFc (fun r_12 u tC H1 locs htC hvm hw_13 hB hz1 hk1 hS => ?_)
        obtain ⟨mdc9_14, aEl9_15, cEl9_16, sz_9_17, fEl9_18⟩ := u
        try dsimp only at hw_13 hB
        obtain ⟨hP1, hK1, hD1⟩ := hB
        rw [htC] at hP1
        have hK1 := va_K.moved hvm.symm hK1
        obtain ⟨hP, hD⟩ := va_join (wr := [(zo13rrirrrr h0 sc kp ik bl go ch bo), (zo10ririliiriririr sc aTp (nI ts) aHl (nI nh) ed mi sn aHs (nI n) aWk (nI wz) aBk (nI bz) aFc), (zaR aHs cHs 8 fHs)]) (w1 := [(zo1iri bo mdc9_14 aEl9_15 (nI sz_9_17)), (zaR aEl9_15 cEl9_16 10 fEl9_18)]) hP hD [3] [0, 1, 2] rfl rfl (by decide) (by decide) hk1 hFc hP1 hD1
        have hK := (hK.sub (tys' := [(cHs, .object "MistHeaps$Heap")]) [0] rfl).app hK1
        generalize H1 = H at hP hS ⊢
        have hP : va_P (dC, dI) vwCl [(zo13rrirrrr h0 sc kp ik bl go ch bo), (zo10ririliiriririr sc aTp (nI ts) aHl (nI nh) ed mi sn aHs (nI n) aWk (nI wz) aBk (nI bz) aFc), (zaR aHs cHs 8 fHs), (zo1iri bo mdc9_14 aEl9_15 (nI sz_9_17)), (zaR aEl9_15 cEl9_16 10 fEl9_18)] H := hP
        have hD : va_D A [(zo13rrirrrr h0 sc kp ik bl go ch bo), (zo10ririliiriririr sc aTp (nI ts) aHl (nI nh) ed mi sn aHs (nI n) aWk (nI wz) aBk (nI bz) aFc), (zaR aHs cHs 8 fHs), (zo1iri bo mdc9_14 aEl9_15 (nI sz_9_17)), (zaR aEl9_15 cEl9_16 10 fEl9_18)] := hD
        have hK : va_K (dC, dI) vwCl [(cHs, .object "MistHeaps$Heap"), (cEl9_16, .object "java/lang/Object")] s := hK
        refine W.widen (k := 1) (n := 10) (by omega) (by omega) ?_
        obtain ⟨er_19, e_20, hL_21⟩ := hw_13
        obtain rfl := (e_20).symm
        subst er_19
        have hk := hpT_k3 (zyt j_6 (by omega)) e_11
        rw [hQ]
        have hP9 := hP.sub (ws' := [(zo13rrirrrr h0 sc kp ik bl go ch bo), (zo10ririliiriririr sc aTp (nI ts) aHl (nI nh) ed mi sn aHs (nI n) aWk (nI wz) aBk (nI bz) aFc), (zaR aHs cHs 8 fHs), (zo1iri bo mdc9_14 aEl9_15 (nI 1)), (zaR aEl9_15 cEl9_16 10 fEl9_18)]) [0, 1, 2, 3, 4] rfl
        have hD9 := hD.sub (ws' := [(zo13rrirrrr h0 sc kp ik bl go ch bo), (zo10ririliiriririr sc aTp (nI ts) aHl (nI nh) ed mi sn aHs (nI n) aWk (nI wz) aBk (nI bz) aFc), (zaR aHs cHs 8 fHs), (zo1iri bo mdc9_14 aEl9_15 (nI 1)), (zaR aEl9_15 cEl9_16 10 fEl9_18)]) [0, 1, 2, 3, 4] (by decide) rfl
        have hK9 := hK.sub (tys' := [(cHs, .object "MistHeaps$Heap"), (cEl9_16, .object "java/lang/Object")]) [0, 1] rfl
        refine W.widen (k := 1) (n := 10) (by omega) (by omega) ?_
        exact W.iret (v := z + nI j_6) hx hb hr (fun tQ htQ hWQ => ⟨⟨(z + nI j_6), ([(zo1iri bo mdc9_14 aEl9_15 (nI 1)), (zaR aEl9_15 cEl9_16 10 fEl9_18)], [(cEl9_16, .object "java/lang/Object")]), rfl, ⟨(kS3 (m := nI j_6) (v := yv j_6) (x := z) hk).1.trans (ac_0 (n := n) (yk := yk) (yv := yv) (j := j_6) (y := y) (z := z) hn8 (by omega) (by assumption)).1, Or.inr ⟨_, _, _, _, _, rfl, rfl, by omega, by rw [(ac_0 (n := n) (yk := yk) (yv := yv) (j := j_6) (y := y) (z := z) hn8 (by omega) (by assumption)).2, (kS3 (m := nI j_6) (v := yv j_6) (x := z) hk).2]; exact hL_21⟩⟩, by rw [htQ]; exact hP9, va_K.moved hWQ.alike hK9, hD9⟩, hS.F htQ⟩) hS.2.2 dX11_act_62
      · skip
        have hY : Fz dC dI [(zo5iiii (ya j_6) (yk j_6) (nI j_6) (yv j_6) (yc j_6))] [] A s := by have h9 := (hH_ j_6 (by omega)).2; rw [hpE, e_11] at h9; exact h9
        have hPc := hP.sub (ws' := [(zo1iri bo mdc9_3 bS 0)]) [3] rfl
        have hDc := hD.sub (ws' := [(zo1iri bo mdc9_3 bS 0)]) [3] (by decide) rfl
        have hKc := hK.sub (tys' := []) [] rfl
        have hFc := va_free (wc := [(zo1iri bo mdc9_3 bS 0)]) hD hS hA [3] rfl
        refine va_calli (va_runV (As := [.int z, .ref bo]) (rest := []) ⟨hx, hb, hml, hown, hts⟩ (c_X3_doSees_X3_0 l dC dI ad cB bS    bo j_6 (yk j_6) (yv j_6) (yc j_6) z (ya j_6) mdc9_3 H.size) (cwV 2 hts gX11_act_X3_doSees rfl rfl rfl hd_yX3_doSees ⟨Nat.le_of_ble_eq_true rfl, Nat.le_of_ble_eq_true rfl⟩) ⟨fun a U g mk q => by obtain ⟨q0, q1, qP, qK, qD, qhI_, qhB_, qhW_, qhZ⟩ := q; exact ⟨q0, q1, qP, va_K.moved (u := U) (U := U.calling g mk a) (Vm.Alike.refl U.vm) qK, qD, qhI_.same rfl rfl, qhB_.same rfl rfl, qhW_.same rfl rfl, qhZ.same rfl rfl⟩, va_recv hY.2.1 (hY.P hS) (ci := 5) (q := (RX3, TX3, 4)) (q0 := 0) rfl rfl, fun U hU hW => ⟨rfl, by rw [hU], by rw [hU]; exact hPc, va_K.moved hW.alike hKc, hDc.weaken (fun _ _ _ _ => trivial), hI_.call hS hU hW (fun q h => hFc q h), hB_.call hS hU hW (fun q h => hFc q h), hW_.call hS hU hW (fun q h => hFc q h), hY.call hS hU hW (fun q h => hFc q h)⟩⟩ rfl rfl hl.1 rfl (lv_room (Nat.le_of_ble_eq_true rfl)) dX11_act_59 ⟨Nat.le_of_ble_eq_true rfl, Nat.le_of_ble_eq_true rfl⟩) hS (fun q _ h => hFc q h) hFc (fun r_22 u tC H1 locs htC hvm hw_23 hB hz1 hk1 hS => ?_)
        obtain ⟨mdc9_24, aEl9_25, cEl9_26, sz_9_27, fEl9_28⟩ := u
        try dsimp only at hw_23 hB
        obtain ⟨hP1, hK1, hD1⟩ := hB
        rw [htC] at hP1
        have hK1 := va_K.moved hvm.symm hK1
        obtain ⟨hP, hD⟩ := va_join (wr := [(zo13rrirrrr h0 sc kp ik bl go ch bo), (zo10ririliiriririr sc aTp (nI ts) aHl (nI nh) ed mi sn aHs (nI n) aWk (nI wz) aBk (nI bz) aFc), (zaR aHs cHs 8 fHs)]) (w1 := [(zo1iri bo mdc9_24 aEl9_25 (nI sz_9_27)), (zaR aEl9_25 cEl9_26 10 fEl9_28)]) hP hD [3] [0, 1, 2] rfl rfl (by decide) (by decide) hk1 hFc hP1 hD1
        have hK := (hK.sub (tys' := [(cHs, .object "MistHeaps$Heap")]) [0] rfl).app hK1
        generalize H1 = H at hP hS ⊢
        have hP : va_P (dC, dI) vwCl [(zo13rrirrrr h0 sc kp ik bl go ch bo), (zo10ririliiriririr sc aTp (nI ts) aHl (nI nh) ed mi sn aHs (nI n) aWk (nI wz) aBk (nI bz) aFc), (zaR aHs cHs 8 fHs), (zo1iri bo mdc9_24 aEl9_25 (nI sz_9_27)), (zaR aEl9_25 cEl9_26 10 fEl9_28)] H := hP
        have hD : va_D A [(zo13rrirrrr h0 sc kp ik bl go ch bo), (zo10ririliiriririr sc aTp (nI ts) aHl (nI nh) ed mi sn aHs (nI n) aWk (nI wz) aBk (nI bz) aFc), (zaR aHs cHs 8 fHs), (zo1iri bo mdc9_24 aEl9_25 (nI sz_9_27)), (zaR aEl9_25 cEl9_26 10 fEl9_28)] := hD
        have hK : va_K (dC, dI) vwCl [(cHs, .object "MistHeaps$Heap"), (cEl9_26, .object "java/lang/Object")] s := hK
        refine W.widen (k := 1) (n := 10) (by omega) (by omega) ?_
        obtain ⟨er_29, e_30, hL_31⟩ := hw_23
        obtain rfl := (e_30).symm
        subst er_29
        have hk := hpT_k0 (zyt j_6 (by omega)) e_11
        rw [hQ]
        have hP9 := hP.sub (ws' := [(zo13rrirrrr h0 sc kp ik bl go ch bo), (zo10ririliiriririr sc aTp (nI ts) aHl (nI nh) ed mi sn aHs (nI n) aWk (nI wz) aBk (nI bz) aFc), (zaR aHs cHs 8 fHs), (zo1iri bo mdc9_24 aEl9_25 (nI 1)), (zaR aEl9_25 cEl9_26 10 fEl9_28)]) [0, 1, 2, 3, 4] rfl
        have hD9 := hD.sub (ws' := [(zo13rrirrrr h0 sc kp ik bl go ch bo), (zo10ririliiriririr sc aTp (nI ts) aHl (nI nh) ed mi sn aHs (nI n) aWk (nI wz) aBk (nI bz) aFc), (zaR aHs cHs 8 fHs), (zo1iri bo mdc9_24 aEl9_25 (nI 1)), (zaR aEl9_25 cEl9_26 10 fEl9_28)]) [0, 1, 2, 3, 4] (by decide) rfl
        have hK9 := hK.sub (tys' := [(cHs, .object "MistHeaps$Heap"), (cEl9_26, .object "java/lang/Object")]) [0, 1] rfl
        refine W.widen (k := 1) (n := 10) (by omega) (by omega) ?_
        exact W.iret (v := z + nI j_6) hx hb hr (fun tQ htQ hWQ => ⟨⟨(z + nI j_6), ([(zo1iri bo mdc9_24 aEl9_25 (nI 1)), (zaR aEl9_25 cEl9_26 10 fEl9_28)], [(cEl9_26, .object "java/lang/Object")]), rfl, ⟨(kS0 (m := nI j_6) (v := yv j_6) (x := z) hk).1.trans (ac_0 (n := n) (yk := yk) (yv := yv) (j := j_6) (y := y) (z := z) hn8 (by omega) (by assumption)).1, Or.inr ⟨_, _, _, _, _, rfl, rfl, by omega, by rw [(ac_0 (n := n) (yk := yk) (yv := yv) (j := j_6) (y := y) (z := z) hn8 (by omega) (by assumption)).2, (kS0 (m := nI j_6) (v := yv j_6) (x := z) hk).2]; exact hL_31⟩⟩, by rw [htQ]; exact hP9, va_K.moved hWQ.alike hK9, hD9⟩, hS.F htQ⟩) hS.2.2 dX11_act_62
      · skip
        have hY : Fz dC dI [(zo6iiii (ya j_6) (yk j_6) (nI j_6) (yv j_6) (yc j_6))] [] A s := by have h9 := (hH_ j_6 (by omega)).2; rw [hpE, e_11] at h9; exact h9
        have hPc := hP.sub (ws' := [(zo1iri bo mdc9_3 bS 0)]) [3] rfl
        have hDc := hD.sub (ws' := [(zo1iri bo mdc9_3 bS 0)]) [3] (by decide) rfl
        have hKc := hK.sub (tys' := []) [] rfl
        have hFc := va_free (wc := [(zo1iri bo mdc9_3 bS 0)]) hD hS hA [3] rfl
        refine va_calli (va_runU (As := [.int z, .ref bo]) (rest := []) ⟨hx, hb, hml, hown, hts⟩ (c_X4_doSees_X4_0 l dC dI ad cB bS    bo j_6 (yk j_6) (yv j_6) (yc j_6) z (ya j_6) mdc9_3 H.size) (va_cwO 2 hts gX11_act_X4_doSees_u233X4 rfl rfl rfl kc_xAct0_3 (by decide +kernel) ⟨Nat.le_of_ble_eq_true rfl, Nat.le_of_ble_eq_true rfl⟩) ⟨fun a U g mk q => by obtain ⟨q0, q1, qP, qK, qD, qhI_, qhB_, qhW_, qhZ⟩ := q; exact ⟨q0, q1, qP, va_K.moved (u := U) (U := U.calling g mk a) (Vm.Alike.refl U.vm) qK, qD, qhI_.same rfl rfl, qhB_.same rfl rfl, qhW_.same rfl rfl, qhZ.same rfl rfl⟩, va_recv hY.2.1 (hY.P hS) (ci := 6) (q := (RX4, TX4, 4)) (q0 := 0) rfl rfl, fun U hU hW => ⟨rfl, by rw [hU], by rw [hU]; exact hPc, va_K.moved hW.alike hKc, hDc.weaken (fun _ _ _ _ => trivial), hI_.call hS hU hW (fun q h => hFc q h), hB_.call hS hU hW (fun q h => hFc q h), hW_.call hS hU hW (fun q h => hFc q h), hY.call hS hU hW (fun q h => hFc q h)⟩⟩ rfl rfl hl.1 rfl (lv_room (Nat.le_of_ble_eq_true rfl)) dX11_act_59 ⟨Nat.le_of_ble_eq_true rfl, Nat.le_of_ble_eq_true rfl⟩) hS (fun q _ h => hFc q h) hFc (fun r_32 u tC H1 locs htC hvm hw_33 hB hz1 hk1 hS => ?_)
        obtain ⟨mdc9_34, aEl9_35, cEl9_36, sz_9_37, fEl9_38⟩ := u
        try dsimp only at hw_33 hB
        obtain ⟨hP1, hK1, hD1⟩ := hB
        rw [htC] at hP1
        have hK1 := va_K.moved hvm.symm hK1
        obtain ⟨hP, hD⟩ := va_join (wr := [(zo13rrirrrr h0 sc kp ik bl go ch bo), (zo10ririliiriririr sc aTp (nI ts) aHl (nI nh) ed mi sn aHs (nI n) aWk (nI wz) aBk (nI bz) aFc), (zaR aHs cHs 8 fHs)]) (w1 := [(zo1iri bo mdc9_34 aEl9_35 (nI sz_9_37)), (zaR aEl9_35 cEl9_36 10 fEl9_38)]) hP hD [3] [0, 1, 2] rfl rfl (by decide) (by decide) hk1 hFc hP1 hD1
        have hK := (hK.sub (tys' := [(cHs, .object "MistHeaps$Heap")]) [0] rfl).app hK1
        generalize H1 = H at hP hS ⊢
        have hP : va_P (dC, dI) vwCl [(zo13rrirrrr h0 sc kp ik bl go ch bo), (zo10ririliiriririr sc aTp (nI ts) aHl (nI nh) ed mi sn aHs (nI n) aWk (nI wz) aBk (nI bz) aFc), (zaR aHs cHs 8 fHs), (zo1iri bo mdc9_34 aEl9_35 (nI sz_9_37)), (zaR aEl9_35 cEl9_36 10 fEl9_38)] H := hP
        have hD : va_D A [(zo13rrirrrr h0 sc kp ik bl go ch bo), (zo10ririliiriririr sc aTp (nI ts) aHl (nI nh) ed mi sn aHs (nI n) aWk (nI wz) aBk (nI bz) aFc), (zaR aHs cHs 8 fHs), (zo1iri bo mdc9_34 aEl9_35 (nI sz_9_37)), (zaR aEl9_35 cEl9_36 10 fEl9_38)] := hD
        have hK : va_K (dC, dI) vwCl [(cHs, .object "MistHeaps$Heap"), (cEl9_36, .object "java/lang/Object")] s := hK
        refine W.widen (k := 1) (n := 10) (by omega) (by omega) ?_
        obtain ⟨er_39, e_40, hL_41⟩ := hw_33
        obtain rfl := (e_40).symm
        subst er_39
        have hk := hpT_k1 (zyt j_6 (by omega)) e_11
        rw [hQ]
        have hP9 := hP.sub (ws' := [(zo13rrirrrr h0 sc kp ik bl go ch bo), (zo10ririliiriririr sc aTp (nI ts) aHl (nI nh) ed mi sn aHs (nI n) aWk (nI wz) aBk (nI bz) aFc), (zaR aHs cHs 8 fHs), (zo1iri bo mdc9_34 aEl9_35 (nI 2)), (zaR aEl9_35 cEl9_36 10 fEl9_38)]) [0, 1, 2, 3, 4] rfl
        have hD9 := hD.sub (ws' := [(zo13rrirrrr h0 sc kp ik bl go ch bo), (zo10ririliiriririr sc aTp (nI ts) aHl (nI nh) ed mi sn aHs (nI n) aWk (nI wz) aBk (nI bz) aFc), (zaR aHs cHs 8 fHs), (zo1iri bo mdc9_34 aEl9_35 (nI 2)), (zaR aEl9_35 cEl9_36 10 fEl9_38)]) [0, 1, 2, 3, 4] (by decide) rfl
        have hK9 := hK.sub (tys' := [(cHs, .object "MistHeaps$Heap"), (cEl9_36, .object "java/lang/Object")]) [0, 1] rfl
        refine W.widen (k := 1) (n := 10) (by omega) (by omega) ?_
        exact W.iret (v := z * 3 + nI j_6) hx hb hr (fun tQ htQ hWQ => ⟨⟨(z * 3 + nI j_6), ([(zo1iri bo mdc9_34 aEl9_35 (nI 2)), (zaR aEl9_35 cEl9_36 10 fEl9_38)], [(cEl9_36, .object "java/lang/Object")]), rfl, ⟨(kS1 (m := nI j_6) (v := yv j_6) (x := z) hk).1.trans (ac_0 (n := n) (yk := yk) (yv := yv) (j := j_6) (y := y) (z := z) hn8 (by omega) (by assumption)).1, Or.inr ⟨_, _, _, _, _, rfl, rfl, by omega, by rw [(ac_0 (n := n) (yk := yk) (yv := yv) (j := j_6) (y := y) (z := z) hn8 (by omega) (by assumption)).2, (kS1 (m := nI j_6) (v := yv j_6) (x := z) hk).2]; exact hL_41⟩⟩, by rw [htQ]; exact hP9, va_K.moved hWQ.alike hK9, hD9⟩, hS.F htQ⟩) hS.2.2 dX11_act_62
      · skip
        have hY : Fz dC dI [(zo8iiii (ya j_6) (yk j_6) (nI j_6) (yv j_6) (yc j_6))] [] A s := by have h9 := (hH_ j_6 (by omega)).2; rw [hpE, e_11] at h9; exact h9
        have hPc := hP.sub (ws' := [(zo1iri bo mdc9_3 bS 0)]) [3] rfl
        have hDc := hD.sub (ws' := [(zo1iri bo mdc9_3 bS 0)]) [3] (by decide) rfl
        have hKc := hK.sub (tys' := []) [] rfl
        have hFc := va_free (wc := [(zo1iri bo mdc9_3 bS 0)]) hD hS hA [3] rfl
        refine va_calli (va_runU (As := [.int z, .ref bo]) (rest := []) ⟨hx, hb, hml, hown, hts⟩ (c_X3_doSees_X6_0 l dC dI ad cB bS    bo j_6 (yk j_6) (yv j_6) (yc j_6) z (ya j_6) mdc9_3 H.size) (va_cwU 2 hts gX11_act_X3_doSees_u233X6 rfl rfl rfl rfl (by decide +kernel) ⟨Nat.le_of_ble_eq_true rfl, Nat.le_of_ble_eq_true rfl⟩) ⟨fun a U g mk q => by obtain ⟨q0, q1, qP, qK, qD, qhI_, qhB_, qhW_, qhZ⟩ := q; exact ⟨q0, q1, qP, va_K.moved (u := U) (U := U.calling g mk a) (Vm.Alike.refl U.vm) qK, qD, qhI_.same rfl rfl, qhB_.same rfl rfl, qhW_.same rfl rfl, qhZ.same rfl rfl⟩, va_recv hY.2.1 (hY.P hS) (ci := 8) (q := (RX6, TX6, 4)) (q0 := 0) rfl rfl, fun U hU hW => ⟨rfl, by rw [hU], by rw [hU]; exact hPc, va_K.moved hW.alike hKc, hDc.weaken (fun _ _ _ _ => trivial), hI_.call hS hU hW (fun q h => hFc q h), hB_.call hS hU hW (fun q h => hFc q h), hW_.call hS hU hW (fun q h => hFc q h), hY.call hS hU hW (fun q h => hFc q h)⟩⟩ rfl rfl hl.1 rfl (lv_room (Nat.le_of_ble_eq_true rfl)) dX11_act_59 ⟨Nat.le_of_ble_eq_true rfl, Nat.le_of_ble_eq_true rfl⟩) hS (fun q _ h => hFc q h) hFc (fun r_42 u tC H1 locs htC hvm hw_43 hB hz1 hk1 hS => ?_)
        obtain ⟨mdc9_44, aEl9_45, cEl9_46, sz_9_47, fEl9_48⟩ := u
        try dsimp only at hw_43 hB
        obtain ⟨hP1, hK1, hD1⟩ := hB
        rw [htC] at hP1
        have hK1 := va_K.moved hvm.symm hK1
        obtain ⟨hP, hD⟩ := va_join (wr := [(zo13rrirrrr h0 sc kp ik bl go ch bo), (zo10ririliiriririr sc aTp (nI ts) aHl (nI nh) ed mi sn aHs (nI n) aWk (nI wz) aBk (nI bz) aFc), (zaR aHs cHs 8 fHs)]) (w1 := [(zo1iri bo mdc9_44 aEl9_45 (nI sz_9_47)), (zaR aEl9_45 cEl9_46 10 fEl9_48)]) hP hD [3] [0, 1, 2] rfl rfl (by decide) (by decide) hk1 hFc hP1 hD1
        have hK := (hK.sub (tys' := [(cHs, .object "MistHeaps$Heap")]) [0] rfl).app hK1
        generalize H1 = H at hP hS ⊢
        have hP : va_P (dC, dI) vwCl [(zo13rrirrrr h0 sc kp ik bl go ch bo), (zo10ririliiriririr sc aTp (nI ts) aHl (nI nh) ed mi sn aHs (nI n) aWk (nI wz) aBk (nI bz) aFc), (zaR aHs cHs 8 fHs), (zo1iri bo mdc9_44 aEl9_45 (nI sz_9_47)), (zaR aEl9_45 cEl9_46 10 fEl9_48)] H := hP
        have hD : va_D A [(zo13rrirrrr h0 sc kp ik bl go ch bo), (zo10ririliiriririr sc aTp (nI ts) aHl (nI nh) ed mi sn aHs (nI n) aWk (nI wz) aBk (nI bz) aFc), (zaR aHs cHs 8 fHs), (zo1iri bo mdc9_44 aEl9_45 (nI sz_9_47)), (zaR aEl9_45 cEl9_46 10 fEl9_48)] := hD
        have hK : va_K (dC, dI) vwCl [(cHs, .object "MistHeaps$Heap"), (cEl9_46, .object "java/lang/Object")] s := hK
        refine W.widen (k := 1) (n := 10) (by omega) (by omega) ?_
        obtain ⟨er_49, e_50, hL_51⟩ := hw_43
        obtain rfl := (e_50).symm
        subst er_49
        have hk := hpT_k2 (zyt j_6 (by omega)) e_11
        rw [hQ]
        have hP9 := hP.sub (ws' := [(zo13rrirrrr h0 sc kp ik bl go ch bo), (zo10ririliiriririr sc aTp (nI ts) aHl (nI nh) ed mi sn aHs (nI n) aWk (nI wz) aBk (nI bz) aFc), (zaR aHs cHs 8 fHs), (zo1iri bo mdc9_44 aEl9_45 (nI 1)), (zaR aEl9_45 cEl9_46 10 fEl9_48)]) [0, 1, 2, 3, 4] rfl
        have hD9 := hD.sub (ws' := [(zo13rrirrrr h0 sc kp ik bl go ch bo), (zo10ririliiriririr sc aTp (nI ts) aHl (nI nh) ed mi sn aHs (nI n) aWk (nI wz) aBk (nI bz) aFc), (zaR aHs cHs 8 fHs), (zo1iri bo mdc9_44 aEl9_45 (nI 1)), (zaR aEl9_45 cEl9_46 10 fEl9_48)]) [0, 1, 2, 3, 4] (by decide) rfl
        have hK9 := hK.sub (tys' := [(cHs, .object "MistHeaps$Heap"), (cEl9_46, .object "java/lang/Object")]) [0, 1] rfl
        refine W.widen (k := 1) (n := 10) (by omega) (by omega) ?_
        exact W.iret (v := z + nI j_6) hx hb hr (fun tQ htQ hWQ => ⟨⟨(z + nI j_6), ([(zo1iri bo mdc9_44 aEl9_45 (nI 1)), (zaR aEl9_45 cEl9_46 10 fEl9_48)], [(cEl9_46, .object "java/lang/Object")]), rfl, ⟨(kS2 (m := nI j_6) (v := yv j_6) (x := z) hk).1.trans (ac_0 (n := n) (yk := yk) (yv := yv) (j := j_6) (y := y) (z := z) hn8 (by omega) (by assumption)).1, Or.inr ⟨_, _, _, _, _, rfl, rfl, by omega, by rw [(ac_0 (n := n) (yk := yk) (yv := yv) (j := j_6) (y := y) (z := z) hn8 (by omega) (by assumption)).2, (kS2 (m := nI j_6) (v := yv j_6) (x := z) hk).2]; exact hL_51⟩⟩, by rw [htQ]; exact hP9, va_K.moved hWQ.alike hK9, hD9⟩, hS.F htQ⟩) hS.2.2 dX11_act_62
      · skip
        have hY : Fz dC dI [(zo9iiii (ya j_6) (yk j_6) (nI j_6) (yv j_6) (yc j_6))] [] A s := by have h9 := (hH_ j_6 (by omega)).2; rw [hpE, e_11] at h9; exact h9
        have hPc := hP.sub (ws' := [(zo1iri bo mdc9_3 bS 0)]) [3] rfl
        have hDc := hD.sub (ws' := [(zo1iri bo mdc9_3 bS 0)]) [3] (by decide) rfl
        have hKc := hK.sub (tys' := []) [] rfl
        have hFc := va_free (wc := [(zo1iri bo mdc9_3 bS 0)]) hD hS hA [3] rfl
        refine va_calli (va_runU (As := [.int z, .ref bo]) (rest := []) ⟨hx, hb, hml, hown, hts⟩ (c_X3_doSees_X7_0 l dC dI ad cB bS    bo j_6 (yk j_6) (yv j_6) (yc j_6) z (ya j_6) mdc9_3 H.size) (va_cwU 2 hts gX11_act_X3_doSees_u233X7 rfl rfl rfl rfl (by decide +kernel) ⟨Nat.le_of_ble_eq_true rfl, Nat.le_of_ble_eq_true rfl⟩) ⟨fun a U g mk q => by obtain ⟨q0, q1, qP, qK, qD, qhI_, qhB_, qhW_, qhZ⟩ := q; exact ⟨q0, q1, qP, va_K.moved (u := U) (U := U.calling g mk a) (Vm.Alike.refl U.vm) qK, qD, qhI_.same rfl rfl, qhB_.same rfl rfl, qhW_.same rfl rfl, qhZ.same rfl rfl⟩, va_recv hY.2.1 (hY.P hS) (ci := 9) (q := (RX7, TX7, 4)) (q0 := 0) rfl rfl, fun U hU hW => ⟨rfl, by rw [hU], by rw [hU]; exact hPc, va_K.moved hW.alike hKc, hDc.weaken (fun _ _ _ _ => trivial), hI_.call hS hU hW (fun q h => hFc q h), hB_.call hS hU hW (fun q h => hFc q h), hW_.call hS hU hW (fun q h => hFc q h), hY.call hS hU hW (fun q h => hFc q h)⟩⟩ rfl rfl hl.1 rfl (lv_room (Nat.le_of_ble_eq_true rfl)) dX11_act_59 ⟨Nat.le_of_ble_eq_true rfl, Nat.le_of_ble_eq_true rfl⟩) hS (fun q _ h => hFc q h) hFc (fun r_52 u tC H1 locs htC hvm hw_53 hB hz1 hk1 hS => ?_)
        obtain ⟨mdc9_54, aEl9_55, cEl9_56, sz_9_57, fEl9_58⟩ := u
        try dsimp only at hw_53 hB
        obtain ⟨hP1, hK1, hD1⟩ := hB
        rw [htC] at hP1
        have hK1 := va_K.moved hvm.symm hK1
        obtain ⟨hP, hD⟩ := va_join (wr := [(zo13rrirrrr h0 sc kp ik bl go ch bo), (zo10ririliiriririr sc aTp (nI ts) aHl (nI nh) ed mi sn aHs (nI n) aWk (nI wz) aBk (nI bz) aFc), (zaR aHs cHs 8 fHs)]) (w1 := [(zo1iri bo mdc9_54 aEl9_55 (nI sz_9_57)), (zaR aEl9_55 cEl9_56 10 fEl9_58)]) hP hD [3] [0, 1, 2] rfl rfl (by decide) (by decide) hk1 hFc hP1 hD1
        have hK := (hK.sub (tys' := [(cHs, .object "MistHeaps$Heap")]) [0] rfl).app hK1
        generalize H1 = H at hP hS ⊢
        have hP : va_P (dC, dI) vwCl [(zo13rrirrrr h0 sc kp ik bl go ch bo), (zo10ririliiriririr sc aTp (nI ts) aHl (nI nh) ed mi sn aHs (nI n) aWk (nI wz) aBk (nI bz) aFc), (zaR aHs cHs 8 fHs), (zo1iri bo mdc9_54 aEl9_55 (nI sz_9_57)), (zaR aEl9_55 cEl9_56 10 fEl9_58)] H := hP
        have hD : va_D A [(zo13rrirrrr h0 sc kp ik bl go ch bo), (zo10ririliiriririr sc aTp (nI ts) aHl (nI nh) ed mi sn aHs (nI n) aWk (nI wz) aBk (nI bz) aFc), (zaR aHs cHs 8 fHs), (zo1iri bo mdc9_54 aEl9_55 (nI sz_9_57)), (zaR aEl9_55 cEl9_56 10 fEl9_58)] := hD
        have hK : va_K (dC, dI) vwCl [(cHs, .object "MistHeaps$Heap"), (cEl9_56, .object "java/lang/Object")] s := hK
        refine W.widen (k := 1) (n := 10) (by omega) (by omega) ?_
        obtain ⟨er_59, e_60, hL_61⟩ := hw_53
        obtain rfl := (e_60).symm
        subst er_59
        have hk := hpT_k6 (zyt j_6 (by omega)) e_11
        rw [hQ]
        have hP9 := hP.sub (ws' := [(zo13rrirrrr h0 sc kp ik bl go ch bo), (zo10ririliiriririr sc aTp (nI ts) aHl (nI nh) ed mi sn aHs (nI n) aWk (nI wz) aBk (nI bz) aFc), (zaR aHs cHs 8 fHs), (zo1iri bo mdc9_54 aEl9_55 (nI 1)), (zaR aEl9_55 cEl9_56 10 fEl9_58)]) [0, 1, 2, 3, 4] rfl
        have hD9 := hD.sub (ws' := [(zo13rrirrrr h0 sc kp ik bl go ch bo), (zo10ririliiriririr sc aTp (nI ts) aHl (nI nh) ed mi sn aHs (nI n) aWk (nI wz) aBk (nI bz) aFc), (zaR aHs cHs 8 fHs), (zo1iri bo mdc9_54 aEl9_55 (nI 1)), (zaR aEl9_55 cEl9_56 10 fEl9_58)]) [0, 1, 2, 3, 4] (by decide) rfl
        have hK9 := hK.sub (tys' := [(cHs, .object "MistHeaps$Heap"), (cEl9_56, .object "java/lang/Object")]) [0, 1] rfl
        refine W.widen (k := 1) (n := 10) (by omega) (by omega) ?_
        exact W.iret (v := z + nI j_6) hx hb hr (fun tQ htQ hWQ => ⟨⟨(z + nI j_6), ([(zo1iri bo mdc9_54 aEl9_55 (nI 1)), (zaR aEl9_55 cEl9_56 10 fEl9_58)], [(cEl9_56, .object "java/lang/Object")]), rfl, ⟨(kS6 (m := nI j_6) (v := yv j_6) (x := z) hk).1.trans (ac_0 (n := n) (yk := yk) (yv := yv) (j := j_6) (y := y) (z := z) hn8 (by omega) (by assumption)).1, Or.inr ⟨_, _, _, _, _, rfl, rfl, by omega, by rw [(ac_0 (n := n) (yk := yk) (yv := yv) (j := j_6) (y := y) (z := z) hn8 (by omega) (by assumption)).2, (kS6 (m := nI j_6) (v := yv j_6) (x := z) hk).2]; exact hL_61⟩⟩, by rw [htQ]; exact hP9, va_K.moved hWQ.alike hK9, hD9⟩, hS.F htQ⟩) hS.2.2 dX11_act_62
      · skip
        have hY : Fz dC dI [(zo11iiii (ya j_6) (yk j_6) (nI j_6) (yv j_6) (yc j_6))] [] A s := by have h9 := (hH_ j_6 (by omega)).2; rw [hpE, e_11] at h9; exact h9
        have hPc := hP.sub (ws' := [(zo1iri bo mdc9_3 bS 0)]) [3] rfl
        have hDc := hD.sub (ws' := [(zo1iri bo mdc9_3 bS 0)]) [3] (by decide) rfl
        have hKc := hK.sub (tys' := []) [] rfl
        have hFc := va_free (wc := [(zo1iri bo mdc9_3 bS 0)]) hD hS hA [3] rfl
        refine va_calli (va_runU (As := [.int z, .ref bo]) (rest := []) ⟨hx, hb, hml, hown, hts⟩ (c_X9_doSees_X9_0 l dC dI ad cB bS    bo j_6 (yk j_6) (yv j_6) (yc j_6) z (ya j_6) mdc9_3 H.size) (va_cwO 2 hts gX11_act_X9_doSees_u233X9 rfl rfl rfl kc_xAct0_3 (by decide +kernel) ⟨Nat.le_of_ble_eq_true rfl, Nat.le_of_ble_eq_true rfl⟩) ⟨fun a U g mk q => by obtain ⟨q0, q1, qP, qK, qD, qhI_, qhB_, qhW_, qhZ⟩ := q; exact ⟨q0, q1, qP, va_K.moved (u := U) (U := U.calling g mk a) (Vm.Alike.refl U.vm) qK, qD, qhI_.same rfl rfl, qhB_.same rfl rfl, qhW_.same rfl rfl, qhZ.same rfl rfl⟩, va_recv hY.2.1 (hY.P hS) (ci := 11) (q := (RX9, TX9, 4)) (q0 := 0) rfl rfl, fun U hU hW => ⟨rfl, by rw [hU], by rw [hU]; exact hPc, va_K.moved hW.alike hKc, hDc.weaken (fun _ _ _ _ => trivial), hI_.call hS hU hW (fun q h => hFc q h), hB_.call hS hU hW (fun q h => hFc q h), hW_.call hS hU hW (fun q h => hFc q h), hY.call hS hU hW (fun q h => hFc q h)⟩⟩ rfl rfl hl.1 rfl (lv_room (Nat.le_of_ble_eq_true rfl)) dX11_act_59 ⟨Nat.le_of_ble_eq_true rfl, Nat.le_of_ble_eq_true rfl⟩) hS (fun q _ h => hFc q h) hFc (fun r_62 u tC H1 locs htC hvm hw_63 hB hz1 hk1 hS => ?_)
        obtain ⟨mdc9_64, aEl9_65, cEl9_66, sz_9_67, fEl9_68⟩ := u
        try dsimp only at hw_63 hB
        obtain ⟨hP1, hK1, hD1⟩ := hB
        rw [htC] at hP1
        have hK1 := va_K.moved hvm.symm hK1
        obtain ⟨hP, hD⟩ := va_join (wr := [(zo13rrirrrr h0 sc kp ik bl go ch bo), (zo10ririliiriririr sc aTp (nI ts) aHl (nI nh) ed mi sn aHs (nI n) aWk (nI wz) aBk (nI bz) aFc), (zaR aHs cHs 8 fHs)]) (w1 := [(zo1iri bo mdc9_64 aEl9_65 (nI sz_9_67)), (zaR aEl9_65 cEl9_66 10 fEl9_68)]) hP hD [3] [0, 1, 2] rfl rfl (by decide) (by decide) hk1 hFc hP1 hD1
        have hK := (hK.sub (tys' := [(cHs, .object "MistHeaps$Heap")]) [0] rfl).app hK1
        generalize H1 = H at hP hS ⊢
        have hP : va_P (dC, dI) vwCl [(zo13rrirrrr h0 sc kp ik bl go ch bo), (zo10ririliiriririr sc aTp (nI ts) aHl (nI nh) ed mi sn aHs (nI n) aWk (nI wz) aBk (nI bz) aFc), (zaR aHs cHs 8 fHs), (zo1iri bo mdc9_64 aEl9_65 (nI sz_9_67)), (zaR aEl9_65 cEl9_66 10 fEl9_68)] H := hP
        have hD : va_D A [(zo13rrirrrr h0 sc kp ik bl go ch bo), (zo10ririliiriririr sc aTp (nI ts) aHl (nI nh) ed mi sn aHs (nI n) aWk (nI wz) aBk (nI bz) aFc), (zaR aHs cHs 8 fHs), (zo1iri bo mdc9_64 aEl9_65 (nI sz_9_67)), (zaR aEl9_65 cEl9_66 10 fEl9_68)] := hD
        have hK : va_K (dC, dI) vwCl [(cHs, .object "MistHeaps$Heap"), (cEl9_66, .object "java/lang/Object")] s := hK
        refine W.widen (k := 1) (n := 10) (by omega) (by omega) ?_
        obtain ⟨er_69, e_70, hL_71⟩ := hw_63
        obtain rfl := (e_70).symm
        subst er_69
        have hk := hpT_k5 (zyt j_6 (by omega)) e_11
        rw [hQ]
        have hP9 := hP.sub (ws' := [(zo13rrirrrr h0 sc kp ik bl go ch bo), (zo10ririliiriririr sc aTp (nI ts) aHl (nI nh) ed mi sn aHs (nI n) aWk (nI wz) aBk (nI bz) aFc), (zaR aHs cHs 8 fHs), (zo1iri bo mdc9_64 aEl9_65 (nI 2)), (zaR aEl9_65 cEl9_66 10 fEl9_68)]) [0, 1, 2, 3, 4] rfl
        have hD9 := hD.sub (ws' := [(zo13rrirrrr h0 sc kp ik bl go ch bo), (zo10ririliiriririr sc aTp (nI ts) aHl (nI nh) ed mi sn aHs (nI n) aWk (nI wz) aBk (nI bz) aFc), (zaR aHs cHs 8 fHs), (zo1iri bo mdc9_64 aEl9_65 (nI 2)), (zaR aEl9_65 cEl9_66 10 fEl9_68)]) [0, 1, 2, 3, 4] (by decide) rfl
        have hK9 := hK.sub (tys' := [(cHs, .object "MistHeaps$Heap"), (cEl9_66, .object "java/lang/Object")]) [0, 1] rfl
        refine W.widen (k := 1) (n := 10) (by omega) (by omega) ?_
        exact W.iret (v := (z + nI j_6) ^^^ nI j_6) hx hb hr (fun tQ htQ hWQ => ⟨⟨((z + nI j_6) ^^^ nI j_6), ([(zo1iri bo mdc9_64 aEl9_65 (nI 2)), (zaR aEl9_65 cEl9_66 10 fEl9_68)], [(cEl9_66, .object "java/lang/Object")]), rfl, ⟨(kS5 (m := nI j_6) (v := yv j_6) (x := z) hk).1.trans (ac_0 (n := n) (yk := yk) (yv := yv) (j := j_6) (y := y) (z := z) hn8 (by omega) (by assumption)).1, Or.inr ⟨_, _, _, _, _, rfl, rfl, by omega, by rw [(ac_0 (n := n) (yk := yk) (yv := yv) (j := j_6) (y := y) (z := z) hn8 (by omega) (by assumption)).2, (kS5 (m := nI j_6) (v := yv j_6) (x := z) hk).2]; exact hL_71⟩⟩, by rw [htQ]; exact hP9, va_K.moved hWQ.alike hK9, hD9⟩, hS.F htQ⟩) hS.2.2 dX11_act_62
      · skip
        have hY : Fz dC dI [(zo12iiii (ya j_6) (yk j_6) (nI j_6) (yv j_6) (yc j_6))] [] A s := by have h9 := (hH_ j_6 (by omega)).2; rw [hpE, e_11] at h9; exact h9
        have hPc := hP.sub (ws' := [(zo1iri bo mdc9_3 bS 0)]) [3] rfl
        have hDc := hD.sub (ws' := [(zo1iri bo mdc9_3 bS 0)]) [3] (by decide) rfl
        have hKc := hK.sub (tys' := []) [] rfl
        have hFc := va_free (wc := [(zo1iri bo mdc9_3 bS 0)]) hD hS hA [3] rfl
        refine va_calli (va_runU (As := [.int z, .ref bo]) (rest := []) ⟨hx, hb, hml, hown, hts⟩ (c_X4_doSees_X10_0 l dC dI ad cB bS    bo j_6 (yk j_6) (yv j_6) (yc j_6) z (ya j_6) mdc9_3 H.size) (va_cwO 2 hts gX11_act_X4_doSees_u233X10 rfl rfl rfl kc_xAct0_3 (by decide +kernel) ⟨Nat.le_of_ble_eq_true rfl, Nat.le_of_ble_eq_true rfl⟩) ⟨fun a U g mk q => by obtain ⟨q0, q1, qP, qK, qD, qhI_, qhB_, qhW_, qhZ⟩ := q; exact ⟨q0, q1, qP, va_K.moved (u := U) (U := U.calling g mk a) (Vm.Alike.refl U.vm) qK, qD, qhI_.same rfl rfl, qhB_.same rfl rfl, qhW_.same rfl rfl, qhZ.same rfl rfl⟩, va_recv hY.2.1 (hY.P hS) (ci := 12) (q := (RX10, TX10, 4)) (q0 := 0) rfl rfl, fun U hU hW => ⟨rfl, by rw [hU], by rw [hU]; exact hPc, va_K.moved hW.alike hKc, hDc.weaken (fun _ _ _ _ => trivial), hI_.call hS hU hW (fun q h => hFc q h), hB_.call hS hU hW (fun q h => hFc q h), hW_.call hS hU hW (fun q h => hFc q h), hY.call hS hU hW (fun q h => hFc q h)⟩⟩ rfl rfl hl.1 rfl (lv_room (Nat.le_of_ble_eq_true rfl)) dX11_act_59 ⟨Nat.le_of_ble_eq_true rfl, Nat.le_of_ble_eq_true rfl⟩) hS (fun q _ h => hFc q h) hFc (fun r_72 u tC H1 locs htC hvm hw_73 hB hz1 hk1 hS => ?_)
        obtain ⟨mdc9_74, aEl9_75, cEl9_76, sz_9_77, fEl9_78⟩ := u
        try dsimp only at hw_73 hB
        obtain ⟨hP1, hK1, hD1⟩ := hB
        rw [htC] at hP1
        have hK1 := va_K.moved hvm.symm hK1
        obtain ⟨hP, hD⟩ := va_join (wr := [(zo13rrirrrr h0 sc kp ik bl go ch bo), (zo10ririliiriririr sc aTp (nI ts) aHl (nI nh) ed mi sn aHs (nI n) aWk (nI wz) aBk (nI bz) aFc), (zaR aHs cHs 8 fHs)]) (w1 := [(zo1iri bo mdc9_74 aEl9_75 (nI sz_9_77)), (zaR aEl9_75 cEl9_76 10 fEl9_78)]) hP hD [3] [0, 1, 2] rfl rfl (by decide) (by decide) hk1 hFc hP1 hD1
        have hK := (hK.sub (tys' := [(cHs, .object "MistHeaps$Heap")]) [0] rfl).app hK1
        generalize H1 = H at hP hS ⊢
        have hP : va_P (dC, dI) vwCl [(zo13rrirrrr h0 sc kp ik bl go ch bo), (zo10ririliiriririr sc aTp (nI ts) aHl (nI nh) ed mi sn aHs (nI n) aWk (nI wz) aBk (nI bz) aFc), (zaR aHs cHs 8 fHs), (zo1iri bo mdc9_74 aEl9_75 (nI sz_9_77)), (zaR aEl9_75 cEl9_76 10 fEl9_78)] H := hP
        have hD : va_D A [(zo13rrirrrr h0 sc kp ik bl go ch bo), (zo10ririliiriririr sc aTp (nI ts) aHl (nI nh) ed mi sn aHs (nI n) aWk (nI wz) aBk (nI bz) aFc), (zaR aHs cHs 8 fHs), (zo1iri bo mdc9_74 aEl9_75 (nI sz_9_77)), (zaR aEl9_75 cEl9_76 10 fEl9_78)] := hD
        have hK : va_K (dC, dI) vwCl [(cHs, .object "MistHeaps$Heap"), (cEl9_76, .object "java/lang/Object")] s := hK
        refine W.widen (k := 1) (n := 10) (by omega) (by omega) ?_
        obtain ⟨er_79, e_80, hL_81⟩ := hw_73
        obtain rfl := (e_80).symm
        subst er_79
        have hk := hpT_k4 (zyt j_6 (by omega)) e_11
        rw [hQ]
        have hP9 := hP.sub (ws' := [(zo13rrirrrr h0 sc kp ik bl go ch bo), (zo10ririliiriririr sc aTp (nI ts) aHl (nI nh) ed mi sn aHs (nI n) aWk (nI wz) aBk (nI bz) aFc), (zaR aHs cHs 8 fHs), (zo1iri bo mdc9_74 aEl9_75 (nI 2)), (zaR aEl9_75 cEl9_76 10 fEl9_78)]) [0, 1, 2, 3, 4] rfl
        have hD9 := hD.sub (ws' := [(zo13rrirrrr h0 sc kp ik bl go ch bo), (zo10ririliiriririr sc aTp (nI ts) aHl (nI nh) ed mi sn aHs (nI n) aWk (nI wz) aBk (nI bz) aFc), (zaR aHs cHs 8 fHs), (zo1iri bo mdc9_74 aEl9_75 (nI 2)), (zaR aEl9_75 cEl9_76 10 fEl9_78)]) [0, 1, 2, 3, 4] (by decide) rfl
        have hK9 := hK.sub (tys' := [(cHs, .object "MistHeaps$Heap"), (cEl9_76, .object "java/lang/Object")]) [0, 1] rfl
        refine W.widen (k := 1) (n := 10) (by omega) (by omega) ?_
        exact W.iret (v := z * 3 + nI j_6) hx hb hr (fun tQ htQ hWQ => ⟨⟨(z * 3 + nI j_6), ([(zo1iri bo mdc9_74 aEl9_75 (nI 2)), (zaR aEl9_75 cEl9_76 10 fEl9_78)], [(cEl9_76, .object "java/lang/Object")]), rfl, ⟨(kS4 (m := nI j_6) (v := yv j_6) (x := z) hk).1.trans (ac_0 (n := n) (yk := yk) (yv := yv) (j := j_6) (y := y) (z := z) hn8 (by omega) (by assumption)).1, Or.inr ⟨_, _, _, _, _, rfl, rfl, by omega, by rw [(ac_0 (n := n) (yk := yk) (yv := yv) (j := j_6) (y := y) (z := z) hn8 (by omega) (by assumption)).2, (kS4 (m := nI j_6) (v := yv j_6) (x := z) hk).2]; exact hL_81⟩⟩, by rw [htQ]; exact hP9, va_K.moved hWQ.alike hK9, hD9⟩, hS.F htQ⟩) hS.2.2 dX11_act_62
    by_cases c_10_1 : y = 1
    · skip
      refine lv_tableIn (tgt := 63) hx hb dX11_act_25 (by rw [c_10_1]; decide) (by rw [c_10_1]; decide) (by rw [c_10_1]; rfl) (by decide) ?_
      refine lv_aload hx hb dX11_act_63 (lv_at hl 0 rfl) ?_
      refine lv_iload_n hx hb dX11_act_65 rfl (lv_at hl 4 rfl) ?_
      refine lv_aload_n hx hb dX11_act_66 rfl (lv_at hl 1 rfl) ?_
      refine va_get (D := (dC, dI)) (ci := 13) (v := .ref bo) (C := RX11) (T := TX11) (N := 7) hx hb hts kc_xAct0_0 hown hK hP 0 rfl rfl 6 (by decide) (hts (.fieldLink RX11 49 "MistHeaps" "bodies" "Ljava/util/ArrayList;") kc_xAct0_1) (fun _ h9 => h9) rfl dX11_act_67 ?_
      rcases (show yi j_6 = 3 ∨ yi j_6 = 5 ∨ yi j_6 = 6 ∨ yi j_6 = 8 ∨ yi j_6 = 9 ∨ yi j_6 = 11 ∨ yi j_6 = 12 from (hH_ j_6 (by omega)).1) with e_82 | e_82 | e_82 | e_82 | e_82 | e_82 | e_82
      · skip
        have hY : Fz dC dI [(zo3iiii (ya j_6) (yk j_6) (nI j_6) (yv j_6) (yc j_6))] [] A s := by have h9 := (hH_ j_6 (by omega)).2; rw [hpE, e_82] at h9; exact h9
        have hPc := hP.sub (ws' := [(zo1iri bo mdc9_3 bS 0)]) [3] rfl
        have hDc := hD.sub (ws' := [(zo1iri bo mdc9_3 bS 0)]) [3] (by decide) rfl
        have hKc := hK.sub (tys' := []) [] rfl
        have hFc := va_free (wc := [(zo1iri bo mdc9_3 bS 0)]) hD hS hA [3] rfl
        refine va_calli (va_runU (As := [.int z, .ref bo]) (rest := []) ⟨hx, hb, hml, hown, hts⟩ (c_X3_doGoes_X1_0 l dC dI ad cB bS    bo j_6 (yk j_6) (yv j_6) (yc j_6) z (ya j_6) mdc9_3 H.size) (va_cwU 2 hts gX11_act_X3_doGoes_u237X1 rfl rfl rfl rfl (by decide +kernel) ⟨Nat.le_of_ble_eq_true rfl, Nat.le_of_ble_eq_true rfl⟩) ⟨fun a U g mk q => by obtain ⟨q0, q1, qP, qK, qD, qhI_, qhB_, qhW_, qhZ⟩ := q; exact ⟨q0, q1, qP, va_K.moved (u := U) (U := U.calling g mk a) (Vm.Alike.refl U.vm) qK, qD, qhI_.same rfl rfl, qhB_.same rfl rfl, qhW_.same rfl rfl, qhZ.same rfl rfl⟩, va_recv hY.2.1 (hY.P hS) (ci := 3) (q := (RX1, TX1, 4)) (q0 := 0) rfl rfl, fun U hU hW => ⟨rfl, by rw [hU], by rw [hU]; exact hPc, va_K.moved hW.alike hKc, hDc.weaken (fun _ _ _ _ => trivial), hI_.call hS hU hW (fun q h => hFc q h), hB_.call hS hU hW (fun q h => hFc q h), hW_.call hS hU hW (fun q h => hFc q h), hY.call hS hU hW (fun q h => hFc q h)⟩⟩ rfl rfl hl.1 rfl (lv_room (Nat.le_of_ble_eq_true rfl)) dX11_act_70 ⟨Nat.le_of_ble_eq_true rfl, Nat.le_of_ble_eq_true rfl⟩) hS (fun q _ h => hFc q h) hFc (fun r_83 u tC H1 locs htC hvm hw_84 hB hz1 hk1 hS => ?_)
        obtain ⟨mdc9_85, aEl9_86, cEl9_87, sz_9_88, fEl9_89⟩ := u
        try dsimp only at hw_84 hB
        obtain ⟨hP1, hK1, hD1⟩ := hB
        rw [htC] at hP1
        have hK1 := va_K.moved hvm.symm hK1
        obtain ⟨hP, hD⟩ := va_join (wr := [(zo13rrirrrr h0 sc kp ik bl go ch bo), (zo10ririliiriririr sc aTp (nI ts) aHl (nI nh) ed mi sn aHs (nI n) aWk (nI wz) aBk (nI bz) aFc), (zaR aHs cHs 8 fHs)]) (w1 := [(zo1iri bo mdc9_85 aEl9_86 (nI sz_9_88)), (zaR aEl9_86 cEl9_87 10 fEl9_89)]) hP hD [3] [0, 1, 2] rfl rfl (by decide) (by decide) hk1 hFc hP1 hD1
        have hK := (hK.sub (tys' := [(cHs, .object "MistHeaps$Heap")]) [0] rfl).app hK1
        generalize H1 = H at hP hS ⊢
        have hP : va_P (dC, dI) vwCl [(zo13rrirrrr h0 sc kp ik bl go ch bo), (zo10ririliiriririr sc aTp (nI ts) aHl (nI nh) ed mi sn aHs (nI n) aWk (nI wz) aBk (nI bz) aFc), (zaR aHs cHs 8 fHs), (zo1iri bo mdc9_85 aEl9_86 (nI sz_9_88)), (zaR aEl9_86 cEl9_87 10 fEl9_89)] H := hP
        have hD : va_D A [(zo13rrirrrr h0 sc kp ik bl go ch bo), (zo10ririliiriririr sc aTp (nI ts) aHl (nI nh) ed mi sn aHs (nI n) aWk (nI wz) aBk (nI bz) aFc), (zaR aHs cHs 8 fHs), (zo1iri bo mdc9_85 aEl9_86 (nI sz_9_88)), (zaR aEl9_86 cEl9_87 10 fEl9_89)] := hD
        have hK : va_K (dC, dI) vwCl [(cHs, .object "MistHeaps$Heap"), (cEl9_87, .object "java/lang/Object")] s := hK
        refine W.widen (k := 1) (n := 10) (by omega) (by omega) ?_
        obtain ⟨er_90, e_91, hL_92⟩ := hw_84
        obtain rfl := (e_91).symm
        subst er_90
        have hk := hpT_k3 (zyt j_6 (by omega)) e_82
        rw [hQ]
        have hP9 := hP.sub (ws' := [(zo13rrirrrr h0 sc kp ik bl go ch bo), (zo10ririliiriririr sc aTp (nI ts) aHl (nI nh) ed mi sn aHs (nI n) aWk (nI wz) aBk (nI bz) aFc), (zaR aHs cHs 8 fHs), (zo1iri bo mdc9_85 aEl9_86 (nI 2)), (zaR aEl9_86 cEl9_87 10 fEl9_89)]) [0, 1, 2, 3, 4] rfl
        have hD9 := hD.sub (ws' := [(zo13rrirrrr h0 sc kp ik bl go ch bo), (zo10ririliiriririr sc aTp (nI ts) aHl (nI nh) ed mi sn aHs (nI n) aWk (nI wz) aBk (nI bz) aFc), (zaR aHs cHs 8 fHs), (zo1iri bo mdc9_85 aEl9_86 (nI 2)), (zaR aEl9_86 cEl9_87 10 fEl9_89)]) [0, 1, 2, 3, 4] (by decide) rfl
        have hK9 := hK.sub (tys' := [(cHs, .object "MistHeaps$Heap"), (cEl9_87, .object "java/lang/Object")]) [0, 1] rfl
        refine W.widen (k := 1) (n := 10) (by omega) (by omega) ?_
        exact W.iret (v := (z + nI j_6) - (yv j_6)) hx hb hr (fun tQ htQ hWQ => ⟨⟨((z + nI j_6) - (yv j_6)), ([(zo1iri bo mdc9_85 aEl9_86 (nI 2)), (zaR aEl9_86 cEl9_87 10 fEl9_89)], [(cEl9_87, .object "java/lang/Object")]), rfl, ⟨(kG3 (m := nI j_6) (v := yv j_6) (x := z) hk).1.trans (ac_1 (n := n) (yk := yk) (yv := yv) (j := j_6) (y := y) (z := z) hn8 (by omega) (by assumption)).1, Or.inr ⟨_, _, _, _, _, rfl, rfl, by omega, by rw [(ac_1 (n := n) (yk := yk) (yv := yv) (j := j_6) (y := y) (z := z) hn8 (by omega) (by assumption)).2, (kG3 (m := nI j_6) (v := yv j_6) (x := z) hk).2]; exact hL_92⟩⟩, by rw [htQ]; exact hP9, va_K.moved hWQ.alike hK9, hD9⟩, hS.F htQ⟩) hS.2.2 dX11_act_73
      · skip
        have hY : Fz dC dI [(zo5iiii (ya j_6) (yk j_6) (nI j_6) (yv j_6) (yc j_6))] [] A s := by have h9 := (hH_ j_6 (by omega)).2; rw [hpE, e_82] at h9; exact h9
        have hPc := hP.sub (ws' := [(zo1iri bo mdc9_3 bS 0)]) [3] rfl
        have hDc := hD.sub (ws' := [(zo1iri bo mdc9_3 bS 0)]) [3] (by decide) rfl
        have hKc := hK.sub (tys' := []) [] rfl
        have hFc := va_free (wc := [(zo1iri bo mdc9_3 bS 0)]) hD hS hA [3] rfl
        refine va_calli (va_runV (As := [.int z, .ref bo]) (rest := []) ⟨hx, hb, hml, hown, hts⟩ (c_X3_doGoes_X3_0 l dC dI ad cB bS    bo j_6 (yk j_6) (yv j_6) (yc j_6) z (ya j_6) mdc9_3 H.size) (cwV 2 hts gX11_act_X3_doGoes rfl rfl rfl hd_yX3_doGoes ⟨Nat.le_of_ble_eq_true rfl, Nat.le_of_ble_eq_true rfl⟩) ⟨fun a U g mk q => by obtain ⟨q0, q1, qP, qK, qD, qhI_, qhB_, qhW_, qhZ⟩ := q; exact ⟨q0, q1, qP, va_K.moved (u := U) (U := U.calling g mk a) (Vm.Alike.refl U.vm) qK, qD, qhI_.same rfl rfl, qhB_.same rfl rfl, qhW_.same rfl rfl, qhZ.same rfl rfl⟩, va_recv hY.2.1 (hY.P hS) (ci := 5) (q := (RX3, TX3, 4)) (q0 := 0) rfl rfl, fun U hU hW => ⟨rfl, by rw [hU], by rw [hU]; exact hPc, va_K.moved hW.alike hKc, hDc.weaken (fun _ _ _ _ => trivial), hI_.call hS hU hW (fun q h => hFc q h), hB_.call hS hU hW (fun q h => hFc q h), hW_.call hS hU hW (fun q h => hFc q h), hY.call hS hU hW (fun q h => hFc q h)⟩⟩ rfl rfl hl.1 rfl (lv_room (Nat.le_of_ble_eq_true rfl)) dX11_act_70 ⟨Nat.le_of_ble_eq_true rfl, Nat.le_of_ble_eq_true rfl⟩) hS (fun q _ h => hFc q h) hFc (fun r_93 u tC H1 locs htC hvm hw_94 hB hz1 hk1 hS => ?_)
        obtain ⟨mdc9_95, aEl9_96, cEl9_97, sz_9_98, fEl9_99⟩ := u
        try dsimp only at hw_94 hB
        obtain ⟨hP1, hK1, hD1⟩ := hB
        rw [htC] at hP1
        have hK1 := va_K.moved hvm.symm hK1
        obtain ⟨hP, hD⟩ := va_join (wr := [(zo13rrirrrr h0 sc kp ik bl go ch bo), (zo10ririliiriririr sc aTp (nI ts) aHl (nI nh) ed mi sn aHs (nI n) aWk (nI wz) aBk (nI bz) aFc), (zaR aHs cHs 8 fHs)]) (w1 := [(zo1iri bo mdc9_95 aEl9_96 (nI sz_9_98)), (zaR aEl9_96 cEl9_97 10 fEl9_99)]) hP hD [3] [0, 1, 2] rfl rfl (by decide) (by decide) hk1 hFc hP1 hD1
        have hK := (hK.sub (tys' := [(cHs, .object "MistHeaps$Heap")]) [0] rfl).app hK1
        generalize H1 = H at hP hS ⊢
        have hP : va_P (dC, dI) vwCl [(zo13rrirrrr h0 sc kp ik bl go ch bo), (zo10ririliiriririr sc aTp (nI ts) aHl (nI nh) ed mi sn aHs (nI n) aWk (nI wz) aBk (nI bz) aFc), (zaR aHs cHs 8 fHs), (zo1iri bo mdc9_95 aEl9_96 (nI sz_9_98)), (zaR aEl9_96 cEl9_97 10 fEl9_99)] H := hP
        have hD : va_D A [(zo13rrirrrr h0 sc kp ik bl go ch bo), (zo10ririliiriririr sc aTp (nI ts) aHl (nI nh) ed mi sn aHs (nI n) aWk (nI wz) aBk (nI bz) aFc), (zaR aHs cHs 8 fHs), (zo1iri bo mdc9_95 aEl9_96 (nI sz_9_98)), (zaR aEl9_96 cEl9_97 10 fEl9_99)] := hD
        have hK : va_K (dC, dI) vwCl [(cHs, .object "MistHeaps$Heap"), (cEl9_97, .object "java/lang/Object")] s := hK
        refine W.widen (k := 1) (n := 10) (by omega) (by omega) ?_
        obtain ⟨er_100, e_101, hL_102⟩ := hw_94
        obtain rfl := (e_101).symm
        subst er_100
        have hk := hpT_k0 (zyt j_6 (by omega)) e_82
        rw [hQ]
        have hP9 := hP.sub (ws' := [(zo13rrirrrr h0 sc kp ik bl go ch bo), (zo10ririliiriririr sc aTp (nI ts) aHl (nI nh) ed mi sn aHs (nI n) aWk (nI wz) aBk (nI bz) aFc), (zaR aHs cHs 8 fHs), (zo1iri bo mdc9_95 aEl9_96 (nI 2)), (zaR aEl9_96 cEl9_97 10 fEl9_99)]) [0, 1, 2, 3, 4] rfl
        have hD9 := hD.sub (ws' := [(zo13rrirrrr h0 sc kp ik bl go ch bo), (zo10ririliiriririr sc aTp (nI ts) aHl (nI nh) ed mi sn aHs (nI n) aWk (nI wz) aBk (nI bz) aFc), (zaR aHs cHs 8 fHs), (zo1iri bo mdc9_95 aEl9_96 (nI 2)), (zaR aEl9_96 cEl9_97 10 fEl9_99)]) [0, 1, 2, 3, 4] (by decide) rfl
        have hK9 := hK.sub (tys' := [(cHs, .object "MistHeaps$Heap"), (cEl9_97, .object "java/lang/Object")]) [0, 1] rfl
        refine W.widen (k := 1) (n := 10) (by omega) (by omega) ?_
        exact W.iret (v := (z + nI j_6) - (yv j_6)) hx hb hr (fun tQ htQ hWQ => ⟨⟨((z + nI j_6) - (yv j_6)), ([(zo1iri bo mdc9_95 aEl9_96 (nI 2)), (zaR aEl9_96 cEl9_97 10 fEl9_99)], [(cEl9_97, .object "java/lang/Object")]), rfl, ⟨(kG0 (m := nI j_6) (v := yv j_6) (x := z) hk).1.trans (ac_1 (n := n) (yk := yk) (yv := yv) (j := j_6) (y := y) (z := z) hn8 (by omega) (by assumption)).1, Or.inr ⟨_, _, _, _, _, rfl, rfl, by omega, by rw [(ac_1 (n := n) (yk := yk) (yv := yv) (j := j_6) (y := y) (z := z) hn8 (by omega) (by assumption)).2, (kG0 (m := nI j_6) (v := yv j_6) (x := z) hk).2]; exact hL_102⟩⟩, by rw [htQ]; exact hP9, va_K.moved hWQ.alike hK9, hD9⟩, hS.F htQ⟩) hS.2.2 dX11_act_73
      · skip
        have hY : Fz dC dI [(zo6iiii (ya j_6) (yk j_6) (nI j_6) (yv j_6) (yc j_6))] [] A s := by have h9 := (hH_ j_6 (by omega)).2; rw [hpE, e_82] at h9; exact h9
        have hPc := hP.sub (ws' := [(zo1iri bo mdc9_3 bS 0)]) [3] rfl
        have hDc := hD.sub (ws' := [(zo1iri bo mdc9_3 bS 0)]) [3] (by decide) rfl
        have hKc := hK.sub (tys' := []) [] rfl
        have hFc := va_free (wc := [(zo1iri bo mdc9_3 bS 0)]) hD hS hA [3] rfl
        refine va_calli (va_runU (As := [.int z, .ref bo]) (rest := []) ⟨hx, hb, hml, hown, hts⟩ (c_X3_doGoes_X4_0 l dC dI ad cB bS    bo j_6 (yk j_6) (yv j_6) (yc j_6) z (ya j_6) mdc9_3 H.size) (va_cwU 2 hts gX11_act_X3_doGoes_u237X4 rfl rfl rfl rfl (by decide +kernel) ⟨Nat.le_of_ble_eq_true rfl, Nat.le_of_ble_eq_true rfl⟩) ⟨fun a U g mk q => by obtain ⟨q0, q1, qP, qK, qD, qhI_, qhB_, qhW_, qhZ⟩ := q; exact ⟨q0, q1, qP, va_K.moved (u := U) (U := U.calling g mk a) (Vm.Alike.refl U.vm) qK, qD, qhI_.same rfl rfl, qhB_.same rfl rfl, qhW_.same rfl rfl, qhZ.same rfl rfl⟩, va_recv hY.2.1 (hY.P hS) (ci := 6) (q := (RX4, TX4, 4)) (q0 := 0) rfl rfl, fun U hU hW => ⟨rfl, by rw [hU], by rw [hU]; exact hPc, va_K.moved hW.alike hKc, hDc.weaken (fun _ _ _ _ => trivial), hI_.call hS hU hW (fun q h => hFc q h), hB_.call hS hU hW (fun q h => hFc q h), hW_.call hS hU hW (fun q h => hFc q h), hY.call hS hU hW (fun q h => hFc q h)⟩⟩ rfl rfl hl.1 rfl (lv_room (Nat.le_of_ble_eq_true rfl)) dX11_act_70 ⟨Nat.le_of_ble_eq_true rfl, Nat.le_of_ble_eq_true rfl⟩) hS (fun q _ h => hFc q h) hFc (fun r_103 u tC H1 locs htC hvm hw_104 hB hz1 hk1 hS => ?_)
        obtain ⟨mdc9_105, aEl9_106, cEl9_107, sz_9_108, fEl9_109⟩ := u
        try dsimp only at hw_104 hB
        obtain ⟨hP1, hK1, hD1⟩ := hB
        rw [htC] at hP1
        have hK1 := va_K.moved hvm.symm hK1
        obtain ⟨hP, hD⟩ := va_join (wr := [(zo13rrirrrr h0 sc kp ik bl go ch bo), (zo10ririliiriririr sc aTp (nI ts) aHl (nI nh) ed mi sn aHs (nI n) aWk (nI wz) aBk (nI bz) aFc), (zaR aHs cHs 8 fHs)]) (w1 := [(zo1iri bo mdc9_105 aEl9_106 (nI sz_9_108)), (zaR aEl9_106 cEl9_107 10 fEl9_109)]) hP hD [3] [0, 1, 2] rfl rfl (by decide) (by decide) hk1 hFc hP1 hD1
        have hK := (hK.sub (tys' := [(cHs, .object "MistHeaps$Heap")]) [0] rfl).app hK1
        generalize H1 = H at hP hS ⊢
        have hP : va_P (dC, dI) vwCl [(zo13rrirrrr h0 sc kp ik bl go ch bo), (zo10ririliiriririr sc aTp (nI ts) aHl (nI nh) ed mi sn aHs (nI n) aWk (nI wz) aBk (nI bz) aFc), (zaR aHs cHs 8 fHs), (zo1iri bo mdc9_105 aEl9_106 (nI sz_9_108)), (zaR aEl9_106 cEl9_107 10 fEl9_109)] H := hP
        have hD : va_D A [(zo13rrirrrr h0 sc kp ik bl go ch bo), (zo10ririliiriririr sc aTp (nI ts) aHl (nI nh) ed mi sn aHs (nI n) aWk (nI wz) aBk (nI bz) aFc), (zaR aHs cHs 8 fHs), (zo1iri bo mdc9_105 aEl9_106 (nI sz_9_108)), (zaR aEl9_106 cEl9_107 10 fEl9_109)] := hD
        have hK : va_K (dC, dI) vwCl [(cHs, .object "MistHeaps$Heap"), (cEl9_107, .object "java/lang/Object")] s := hK
        refine W.widen (k := 1) (n := 10) (by omega) (by omega) ?_
        obtain ⟨er_110, e_111, hL_112⟩ := hw_104
        obtain rfl := (e_111).symm
        subst er_110
        have hk := hpT_k1 (zyt j_6 (by omega)) e_82
        rw [hQ]
        have hP9 := hP.sub (ws' := [(zo13rrirrrr h0 sc kp ik bl go ch bo), (zo10ririliiriririr sc aTp (nI ts) aHl (nI nh) ed mi sn aHs (nI n) aWk (nI wz) aBk (nI bz) aFc), (zaR aHs cHs 8 fHs), (zo1iri bo mdc9_105 aEl9_106 (nI 3)), (zaR aEl9_106 cEl9_107 10 fEl9_109)]) [0, 1, 2, 3, 4] rfl
        have hD9 := hD.sub (ws' := [(zo13rrirrrr h0 sc kp ik bl go ch bo), (zo10ririliiriririr sc aTp (nI ts) aHl (nI nh) ed mi sn aHs (nI n) aWk (nI wz) aBk (nI bz) aFc), (zaR aHs cHs 8 fHs), (zo1iri bo mdc9_105 aEl9_106 (nI 3)), (zaR aEl9_106 cEl9_107 10 fEl9_109)]) [0, 1, 2, 3, 4] (by decide) rfl
        have hK9 := hK.sub (tys' := [(cHs, .object "MistHeaps$Heap"), (cEl9_107, .object "java/lang/Object")]) [0, 1] rfl
        refine W.widen (k := 1) (n := 10) (by omega) (by omega) ?_
        exact W.iret (v := (z * 3 + nI j_6) - (yv j_6)) hx hb hr (fun tQ htQ hWQ => ⟨⟨((z * 3 + nI j_6) - (yv j_6)), ([(zo1iri bo mdc9_105 aEl9_106 (nI 3)), (zaR aEl9_106 cEl9_107 10 fEl9_109)], [(cEl9_107, .object "java/lang/Object")]), rfl, ⟨(kG1 (m := nI j_6) (v := yv j_6) (x := z) hk).1.trans (ac_1 (n := n) (yk := yk) (yv := yv) (j := j_6) (y := y) (z := z) hn8 (by omega) (by assumption)).1, Or.inr ⟨_, _, _, _, _, rfl, rfl, by omega, by rw [(ac_1 (n := n) (yk := yk) (yv := yv) (j := j_6) (y := y) (z := z) hn8 (by omega) (by assumption)).2, (kG1 (m := nI j_6) (v := yv j_6) (x := z) hk).2]; exact hL_112⟩⟩, by rw [htQ]; exact hP9, va_K.moved hWQ.alike hK9, hD9⟩, hS.F htQ⟩) hS.2.2 dX11_act_73
      · skip
        have hY : Fz dC dI [(zo8iiii (ya j_6) (yk j_6) (nI j_6) (yv j_6) (yc j_6))] [] A s := by have h9 := (hH_ j_6 (by omega)).2; rw [hpE, e_82] at h9; exact h9
        have hPc := hP.sub (ws' := [(zo1iri bo mdc9_3 bS 0)]) [3] rfl
        have hDc := hD.sub (ws' := [(zo1iri bo mdc9_3 bS 0)]) [3] (by decide) rfl
        have hKc := hK.sub (tys' := []) [] rfl
        have hFc := va_free (wc := [(zo1iri bo mdc9_3 bS 0)]) hD hS hA [3] rfl
        refine va_calli (va_runU (As := [.int z, .ref bo]) (rest := []) ⟨hx, hb, hml, hown, hts⟩ (c_X6_doGoes_X6_0 l dC dI ad cB bS    bo j_6 (yk j_6) (yv j_6) (yc j_6) z (ya j_6) mdc9_3 H.size) (va_cwO 2 hts gX11_act_X6_doGoes_u237X6 rfl rfl rfl kc_xAct0_4 (by decide +kernel) ⟨Nat.le_of_ble_eq_true rfl, Nat.le_of_ble_eq_true rfl⟩) ⟨fun a U g mk q => by obtain ⟨q0, q1, qP, qK, qD, qhI_, qhB_, qhW_, qhZ⟩ := q; exact ⟨q0, q1, qP, va_K.moved (u := U) (U := U.calling g mk a) (Vm.Alike.refl U.vm) qK, qD, qhI_.same rfl rfl, qhB_.same rfl rfl, qhW_.same rfl rfl, qhZ.same rfl rfl⟩, va_recv hY.2.1 (hY.P hS) (ci := 8) (q := (RX6, TX6, 4)) (q0 := 0) rfl rfl, fun U hU hW => ⟨rfl, by rw [hU], by rw [hU]; exact hPc, va_K.moved hW.alike hKc, hDc.weaken (fun _ _ _ _ => trivial), hI_.call hS hU hW (fun q h => hFc q h), hB_.call hS hU hW (fun q h => hFc q h), hW_.call hS hU hW (fun q h => hFc q h), hY.call hS hU hW (fun q h => hFc q h)⟩⟩ rfl rfl hl.1 rfl (lv_room (Nat.le_of_ble_eq_true rfl)) dX11_act_70 ⟨Nat.le_of_ble_eq_true rfl, Nat.le_of_ble_eq_true rfl⟩) hS (fun q _ h => hFc q h) hFc (fun r_113 u tC H1 locs htC hvm hw_114 hB hz1 hk1 hS => ?_)
        obtain ⟨mdc9_115, aEl9_116, cEl9_117, sz_9_118, fEl9_119⟩ := u
        try dsimp only at hw_114 hB
        obtain ⟨hP1, hK1, hD1⟩ := hB
        rw [htC] at hP1
        have hK1 := va_K.moved hvm.symm hK1
        obtain ⟨hP, hD⟩ := va_join (wr := [(zo13rrirrrr h0 sc kp ik bl go ch bo), (zo10ririliiriririr sc aTp (nI ts) aHl (nI nh) ed mi sn aHs (nI n) aWk (nI wz) aBk (nI bz) aFc), (zaR aHs cHs 8 fHs)]) (w1 := [(zo1iri bo mdc9_115 aEl9_116 (nI sz_9_118)), (zaR aEl9_116 cEl9_117 10 fEl9_119)]) hP hD [3] [0, 1, 2] rfl rfl (by decide) (by decide) hk1 hFc hP1 hD1
        have hK := (hK.sub (tys' := [(cHs, .object "MistHeaps$Heap")]) [0] rfl).app hK1
        generalize H1 = H at hP hS ⊢
        have hP : va_P (dC, dI) vwCl [(zo13rrirrrr h0 sc kp ik bl go ch bo), (zo10ririliiriririr sc aTp (nI ts) aHl (nI nh) ed mi sn aHs (nI n) aWk (nI wz) aBk (nI bz) aFc), (zaR aHs cHs 8 fHs), (zo1iri bo mdc9_115 aEl9_116 (nI sz_9_118)), (zaR aEl9_116 cEl9_117 10 fEl9_119)] H := hP
        have hD : va_D A [(zo13rrirrrr h0 sc kp ik bl go ch bo), (zo10ririliiriririr sc aTp (nI ts) aHl (nI nh) ed mi sn aHs (nI n) aWk (nI wz) aBk (nI bz) aFc), (zaR aHs cHs 8 fHs), (zo1iri bo mdc9_115 aEl9_116 (nI sz_9_118)), (zaR aEl9_116 cEl9_117 10 fEl9_119)] := hD
        have hK : va_K (dC, dI) vwCl [(cHs, .object "MistHeaps$Heap"), (cEl9_117, .object "java/lang/Object")] s := hK
        refine W.widen (k := 1) (n := 10) (by omega) (by omega) ?_
        obtain ⟨er_120, e_121, hL_122⟩ := hw_114
        obtain rfl := (e_121).symm
        subst er_120
        have hk := hpT_k2 (zyt j_6 (by omega)) e_82
        rw [hQ]
        have hP9 := hP.sub (ws' := [(zo13rrirrrr h0 sc kp ik bl go ch bo), (zo10ririliiriririr sc aTp (nI ts) aHl (nI nh) ed mi sn aHs (nI n) aWk (nI wz) aBk (nI bz) aFc), (zaR aHs cHs 8 fHs), (zo1iri bo mdc9_115 aEl9_116 (nI 3)), (zaR aEl9_116 cEl9_117 10 fEl9_119)]) [0, 1, 2, 3, 4] rfl
        have hD9 := hD.sub (ws' := [(zo13rrirrrr h0 sc kp ik bl go ch bo), (zo10ririliiriririr sc aTp (nI ts) aHl (nI nh) ed mi sn aHs (nI n) aWk (nI wz) aBk (nI bz) aFc), (zaR aHs cHs 8 fHs), (zo1iri bo mdc9_115 aEl9_116 (nI 3)), (zaR aEl9_116 cEl9_117 10 fEl9_119)]) [0, 1, 2, 3, 4] (by decide) rfl
        have hK9 := hK.sub (tys' := [(cHs, .object "MistHeaps$Heap"), (cEl9_117, .object "java/lang/Object")]) [0, 1] rfl
        refine W.widen (k := 1) (n := 10) (by omega) (by omega) ?_
        exact W.iret (v := -((z + nI j_6) - (yv j_6))) hx hb hr (fun tQ htQ hWQ => ⟨⟨(-((z + nI j_6) - (yv j_6))), ([(zo1iri bo mdc9_115 aEl9_116 (nI 3)), (zaR aEl9_116 cEl9_117 10 fEl9_119)], [(cEl9_117, .object "java/lang/Object")]), rfl, ⟨(kG2 (m := nI j_6) (v := yv j_6) (x := z) hk).1.trans (ac_1 (n := n) (yk := yk) (yv := yv) (j := j_6) (y := y) (z := z) hn8 (by omega) (by assumption)).1, Or.inr ⟨_, _, _, _, _, rfl, rfl, by omega, by rw [(ac_1 (n := n) (yk := yk) (yv := yv) (j := j_6) (y := y) (z := z) hn8 (by omega) (by assumption)).2, (kG2 (m := nI j_6) (v := yv j_6) (x := z) hk).2]; exact hL_122⟩⟩, by rw [htQ]; exact hP9, va_K.moved hWQ.alike hK9, hD9⟩, hS.F htQ⟩) hS.2.2 dX11_act_73
      · skip
        have hY : Fz dC dI [(zo9iiii (ya j_6) (yk j_6) (nI j_6) (yv j_6) (yc j_6))] [] A s := by have h9 := (hH_ j_6 (by omega)).2; rw [hpE, e_82] at h9; exact h9
        have hPc := hP.sub (ws' := [(zo1iri bo mdc9_3 bS 0)]) [3] rfl
        have hDc := hD.sub (ws' := [(zo1iri bo mdc9_3 bS 0)]) [3] (by decide) rfl
        have hKc := hK.sub (tys' := []) [] rfl
        have hFc := va_free (wc := [(zo1iri bo mdc9_3 bS 0)]) hD hS hA [3] rfl
        refine va_calli (va_runU (As := [.int z, .ref bo]) (rest := []) ⟨hx, hb, hml, hown, hts⟩ (c_X7_doGoes_X7_0 l dC dI ad cB bS    bo j_6 (yk j_6) (yv j_6) (yc j_6) z (ya j_6) mdc9_3 H.size) (va_cwO 2 hts gX11_act_X7_doGoes_u237X7 rfl rfl rfl kc_xAct0_4 (by decide +kernel) ⟨Nat.le_of_ble_eq_true rfl, Nat.le_of_ble_eq_true rfl⟩) ⟨fun a U g mk q => by obtain ⟨q0, q1, qP, qK, qD, qhI_, qhB_, qhW_, qhZ⟩ := q; exact ⟨q0, q1, qP, va_K.moved (u := U) (U := U.calling g mk a) (Vm.Alike.refl U.vm) qK, qD, qhI_.same rfl rfl, qhB_.same rfl rfl, qhW_.same rfl rfl, qhZ.same rfl rfl⟩, va_recv hY.2.1 (hY.P hS) (ci := 9) (q := (RX7, TX7, 4)) (q0 := 0) rfl rfl, fun U hU hW => ⟨rfl, by rw [hU], by rw [hU]; exact hPc, va_K.moved hW.alike hKc, hDc.weaken (fun _ _ _ _ => trivial), hI_.call hS hU hW (fun q h => hFc q h), hB_.call hS hU hW (fun q h => hFc q h), hW_.call hS hU hW (fun q h => hFc q h), hY.call hS hU hW (fun q h => hFc q h)⟩⟩ rfl rfl hl.1 rfl (lv_room (Nat.le_of_ble_eq_true rfl)) dX11_act_70 ⟨Nat.le_of_ble_eq_true rfl, Nat.le_of_ble_eq_true rfl⟩) hS (fun q _ h => hFc q h) hFc (fun r_123 u tC H1 locs htC hvm hw_124 hB hz1 hk1 hS => ?_)
        obtain ⟨mdc9_125, aEl9_126, cEl9_127, sz_9_128, fEl9_129⟩ := u
        try dsimp only at hw_124 hB
        obtain ⟨hP1, hK1, hD1⟩ := hB
        rw [htC] at hP1
        have hK1 := va_K.moved hvm.symm hK1
        obtain ⟨hP, hD⟩ := va_join (wr := [(zo13rrirrrr h0 sc kp ik bl go ch bo), (zo10ririliiriririr sc aTp (nI ts) aHl (nI nh) ed mi sn aHs (nI n) aWk (nI wz) aBk (nI bz) aFc), (zaR aHs cHs 8 fHs)]) (w1 := [(zo1iri bo mdc9_125 aEl9_126 (nI sz_9_128)), (zaR aEl9_126 cEl9_127 10 fEl9_129)]) hP hD [3] [0, 1, 2] rfl rfl (by decide) (by decide) hk1 hFc hP1 hD1
        have hK := (hK.sub (tys' := [(cHs, .object "MistHeaps$Heap")]) [0] rfl).app hK1
        generalize H1 = H at hP hS ⊢
        have hP : va_P (dC, dI) vwCl [(zo13rrirrrr h0 sc kp ik bl go ch bo), (zo10ririliiriririr sc aTp (nI ts) aHl (nI nh) ed mi sn aHs (nI n) aWk (nI wz) aBk (nI bz) aFc), (zaR aHs cHs 8 fHs), (zo1iri bo mdc9_125 aEl9_126 (nI sz_9_128)), (zaR aEl9_126 cEl9_127 10 fEl9_129)] H := hP
        have hD : va_D A [(zo13rrirrrr h0 sc kp ik bl go ch bo), (zo10ririliiriririr sc aTp (nI ts) aHl (nI nh) ed mi sn aHs (nI n) aWk (nI wz) aBk (nI bz) aFc), (zaR aHs cHs 8 fHs), (zo1iri bo mdc9_125 aEl9_126 (nI sz_9_128)), (zaR aEl9_126 cEl9_127 10 fEl9_129)] := hD
        have hK : va_K (dC, dI) vwCl [(cHs, .object "MistHeaps$Heap"), (cEl9_127, .object "java/lang/Object")] s := hK
        refine W.widen (k := 1) (n := 10) (by omega) (by omega) ?_
        obtain ⟨er_130, e_131, hL_132⟩ := hw_124
        obtain rfl := (e_131).symm
        subst er_130
        have hk := hpT_k6 (zyt j_6 (by omega)) e_82
        rw [hQ]
        have hP9 := hP.sub (ws' := [(zo13rrirrrr h0 sc kp ik bl go ch bo), (zo10ririliiriririr sc aTp (nI ts) aHl (nI nh) ed mi sn aHs (nI n) aWk (nI wz) aBk (nI bz) aFc), (zaR aHs cHs 8 fHs), (zo1iri bo mdc9_125 aEl9_126 (nI 3)), (zaR aEl9_126 cEl9_127 10 fEl9_129)]) [0, 1, 2, 3, 4] rfl
        have hD9 := hD.sub (ws' := [(zo13rrirrrr h0 sc kp ik bl go ch bo), (zo10ririliiriririr sc aTp (nI ts) aHl (nI nh) ed mi sn aHs (nI n) aWk (nI wz) aBk (nI bz) aFc), (zaR aHs cHs 8 fHs), (zo1iri bo mdc9_125 aEl9_126 (nI 3)), (zaR aEl9_126 cEl9_127 10 fEl9_129)]) [0, 1, 2, 3, 4] (by decide) rfl
        have hK9 := hK.sub (tys' := [(cHs, .object "MistHeaps$Heap"), (cEl9_127, .object "java/lang/Object")]) [0, 1] rfl
        refine W.widen (k := 1) (n := 10) (by omega) (by omega) ?_
        exact W.iret (v := ((z + nI j_6) - (yv j_6)) + (yv j_6)) hx hb hr (fun tQ htQ hWQ => ⟨⟨(((z + nI j_6) - (yv j_6)) + (yv j_6)), ([(zo1iri bo mdc9_125 aEl9_126 (nI 3)), (zaR aEl9_126 cEl9_127 10 fEl9_129)], [(cEl9_127, .object "java/lang/Object")]), rfl, ⟨(kG6 (m := nI j_6) (v := yv j_6) (x := z) hk).1.trans (ac_1 (n := n) (yk := yk) (yv := yv) (j := j_6) (y := y) (z := z) hn8 (by omega) (by assumption)).1, Or.inr ⟨_, _, _, _, _, rfl, rfl, by omega, by rw [(ac_1 (n := n) (yk := yk) (yv := yv) (j := j_6) (y := y) (z := z) hn8 (by omega) (by assumption)).2, (kG6 (m := nI j_6) (v := yv j_6) (x := z) hk).2]; exact hL_132⟩⟩, by rw [htQ]; exact hP9, va_K.moved hWQ.alike hK9, hD9⟩, hS.F htQ⟩) hS.2.2 dX11_act_73
      · skip
        have hY : Fz dC dI [(zo11iiii (ya j_6) (yk j_6) (nI j_6) (yv j_6) (yc j_6))] [] A s := by have h9 := (hH_ j_6 (by omega)).2; rw [hpE, e_82] at h9; exact h9
        have hPc := hP.sub (ws' := [(zo1iri bo mdc9_3 bS 0)]) [3] rfl
        have hDc := hD.sub (ws' := [(zo1iri bo mdc9_3 bS 0)]) [3] (by decide) rfl
        have hKc := hK.sub (tys' := []) [] rfl
        have hFc := va_free (wc := [(zo1iri bo mdc9_3 bS 0)]) hD hS hA [3] rfl
        refine va_calli (va_runU (As := [.int z, .ref bo]) (rest := []) ⟨hx, hb, hml, hown, hts⟩ (c_X6_doGoes_X9_0 l dC dI ad cB bS    bo j_6 (yk j_6) (yv j_6) (yc j_6) z (ya j_6) mdc9_3 H.size) (va_cwO 2 hts gX11_act_X6_doGoes_u237X9 rfl rfl rfl kc_xAct0_4 (by decide +kernel) ⟨Nat.le_of_ble_eq_true rfl, Nat.le_of_ble_eq_true rfl⟩) ⟨fun a U g mk q => by obtain ⟨q0, q1, qP, qK, qD, qhI_, qhB_, qhW_, qhZ⟩ := q; exact ⟨q0, q1, qP, va_K.moved (u := U) (U := U.calling g mk a) (Vm.Alike.refl U.vm) qK, qD, qhI_.same rfl rfl, qhB_.same rfl rfl, qhW_.same rfl rfl, qhZ.same rfl rfl⟩, va_recv hY.2.1 (hY.P hS) (ci := 11) (q := (RX9, TX9, 4)) (q0 := 0) rfl rfl, fun U hU hW => ⟨rfl, by rw [hU], by rw [hU]; exact hPc, va_K.moved hW.alike hKc, hDc.weaken (fun _ _ _ _ => trivial), hI_.call hS hU hW (fun q h => hFc q h), hB_.call hS hU hW (fun q h => hFc q h), hW_.call hS hU hW (fun q h => hFc q h), hY.call hS hU hW (fun q h => hFc q h)⟩⟩ rfl rfl hl.1 rfl (lv_room (Nat.le_of_ble_eq_true rfl)) dX11_act_70 ⟨Nat.le_of_ble_eq_true rfl, Nat.le_of_ble_eq_true rfl⟩) hS (fun q _ h => hFc q h) hFc (fun r_133 u tC H1 locs htC hvm hw_134 hB hz1 hk1 hS => ?_)
        obtain ⟨mdc9_135, aEl9_136, cEl9_137, sz_9_138, fEl9_139⟩ := u
        try dsimp only at hw_134 hB
        obtain ⟨hP1, hK1, hD1⟩ := hB
        rw [htC] at hP1
        have hK1 := va_K.moved hvm.symm hK1
        obtain ⟨hP, hD⟩ := va_join (wr := [(zo13rrirrrr h0 sc kp ik bl go ch bo), (zo10ririliiriririr sc aTp (nI ts) aHl (nI nh) ed mi sn aHs (nI n) aWk (nI wz) aBk (nI bz) aFc), (zaR aHs cHs 8 fHs)]) (w1 := [(zo1iri bo mdc9_135 aEl9_136 (nI sz_9_138)), (zaR aEl9_136 cEl9_137 10 fEl9_139)]) hP hD [3] [0, 1, 2] rfl rfl (by decide) (by decide) hk1 hFc hP1 hD1
        have hK := (hK.sub (tys' := [(cHs, .object "MistHeaps$Heap")]) [0] rfl).app hK1
        generalize H1 = H at hP hS ⊢
        have hP : va_P (dC, dI) vwCl [(zo13rrirrrr h0 sc kp ik bl go ch bo), (zo10ririliiriririr sc aTp (nI ts) aHl (nI nh) ed mi sn aHs (nI n) aWk (nI wz) aBk (nI bz) aFc), (zaR aHs cHs 8 fHs), (zo1iri bo mdc9_135 aEl9_136 (nI sz_9_138)), (zaR aEl9_136 cEl9_137 10 fEl9_139)] H := hP
        have hD : va_D A [(zo13rrirrrr h0 sc kp ik bl go ch bo), (zo10ririliiriririr sc aTp (nI ts) aHl (nI nh) ed mi sn aHs (nI n) aWk (nI wz) aBk (nI bz) aFc), (zaR aHs cHs 8 fHs), (zo1iri bo mdc9_135 aEl9_136 (nI sz_9_138)), (zaR aEl9_136 cEl9_137 10 fEl9_139)] := hD
        have hK : va_K (dC, dI) vwCl [(cHs, .object "MistHeaps$Heap"), (cEl9_137, .object "java/lang/Object")] s := hK
        refine W.widen (k := 1) (n := 10) (by omega) (by omega) ?_
        obtain ⟨er_140, e_141, hL_142⟩ := hw_134
        obtain rfl := (e_141).symm
        subst er_140
        have hk := hpT_k5 (zyt j_6 (by omega)) e_82
        rw [hQ]
        have hP9 := hP.sub (ws' := [(zo13rrirrrr h0 sc kp ik bl go ch bo), (zo10ririliiriririr sc aTp (nI ts) aHl (nI nh) ed mi sn aHs (nI n) aWk (nI wz) aBk (nI bz) aFc), (zaR aHs cHs 8 fHs), (zo1iri bo mdc9_135 aEl9_136 (nI 4)), (zaR aEl9_136 cEl9_137 10 fEl9_139)]) [0, 1, 2, 3, 4] rfl
        have hD9 := hD.sub (ws' := [(zo13rrirrrr h0 sc kp ik bl go ch bo), (zo10ririliiriririr sc aTp (nI ts) aHl (nI nh) ed mi sn aHs (nI n) aWk (nI wz) aBk (nI bz) aFc), (zaR aHs cHs 8 fHs), (zo1iri bo mdc9_135 aEl9_136 (nI 4)), (zaR aEl9_136 cEl9_137 10 fEl9_139)]) [0, 1, 2, 3, 4] (by decide) rfl
        have hK9 := hK.sub (tys' := [(cHs, .object "MistHeaps$Heap"), (cEl9_137, .object "java/lang/Object")]) [0, 1] rfl
        refine W.widen (k := 1) (n := 10) (by omega) (by omega) ?_
        exact W.iret (v := -(((z + nI j_6) ^^^ nI j_6) - (yv j_6))) hx hb hr (fun tQ htQ hWQ => ⟨⟨(-(((z + nI j_6) ^^^ nI j_6) - (yv j_6))), ([(zo1iri bo mdc9_135 aEl9_136 (nI 4)), (zaR aEl9_136 cEl9_137 10 fEl9_139)], [(cEl9_137, .object "java/lang/Object")]), rfl, ⟨(kG5 (m := nI j_6) (v := yv j_6) (x := z) hk).1.trans (ac_1 (n := n) (yk := yk) (yv := yv) (j := j_6) (y := y) (z := z) hn8 (by omega) (by assumption)).1, Or.inr ⟨_, _, _, _, _, rfl, rfl, by omega, by rw [(ac_1 (n := n) (yk := yk) (yv := yv) (j := j_6) (y := y) (z := z) hn8 (by omega) (by assumption)).2, (kG5 (m := nI j_6) (v := yv j_6) (x := z) hk).2]; exact hL_142⟩⟩, by rw [htQ]; exact hP9, va_K.moved hWQ.alike hK9, hD9⟩, hS.F htQ⟩) hS.2.2 dX11_act_73
      · skip
        have hY : Fz dC dI [(zo12iiii (ya j_6) (yk j_6) (nI j_6) (yv j_6) (yc j_6))] [] A s := by have h9 := (hH_ j_6 (by omega)).2; rw [hpE, e_82] at h9; exact h9
        have hPc := hP.sub (ws' := [(zo1iri bo mdc9_3 bS 0)]) [3] rfl
        have hDc := hD.sub (ws' := [(zo1iri bo mdc9_3 bS 0)]) [3] (by decide) rfl
        have hKc := hK.sub (tys' := []) [] rfl
        have hFc := va_free (wc := [(zo1iri bo mdc9_3 bS 0)]) hD hS hA [3] rfl
        refine va_calli (va_runU (As := [.int z, .ref bo]) (rest := []) ⟨hx, hb, hml, hown, hts⟩ (c_X3_doGoes_X10_0 l dC dI ad cB bS    bo j_6 (yk j_6) (yv j_6) (yc j_6) z (ya j_6) mdc9_3 H.size) (va_cwU 2 hts gX11_act_X3_doGoes_u237X10 rfl rfl rfl rfl (by decide +kernel) ⟨Nat.le_of_ble_eq_true rfl, Nat.le_of_ble_eq_true rfl⟩) ⟨fun a U g mk q => by obtain ⟨q0, q1, qP, qK, qD, qhI_, qhB_, qhW_, qhZ⟩ := q; exact ⟨q0, q1, qP, va_K.moved (u := U) (U := U.calling g mk a) (Vm.Alike.refl U.vm) qK, qD, qhI_.same rfl rfl, qhB_.same rfl rfl, qhW_.same rfl rfl, qhZ.same rfl rfl⟩, va_recv hY.2.1 (hY.P hS) (ci := 12) (q := (RX10, TX10, 4)) (q0 := 0) rfl rfl, fun U hU hW => ⟨rfl, by rw [hU], by rw [hU]; exact hPc, va_K.moved hW.alike hKc, hDc.weaken (fun _ _ _ _ => trivial), hI_.call hS hU hW (fun q h => hFc q h), hB_.call hS hU hW (fun q h => hFc q h), hW_.call hS hU hW (fun q h => hFc q h), hY.call hS hU hW (fun q h => hFc q h)⟩⟩ rfl rfl hl.1 rfl (lv_room (Nat.le_of_ble_eq_true rfl)) dX11_act_70 ⟨Nat.le_of_ble_eq_true rfl, Nat.le_of_ble_eq_true rfl⟩) hS (fun q _ h => hFc q h) hFc (fun r_143 u tC H1 locs htC hvm hw_144 hB hz1 hk1 hS => ?_)
        obtain ⟨mdc9_145, aEl9_146, cEl9_147, sz_9_148, fEl9_149⟩ := u
        try dsimp only at hw_144 hB
        obtain ⟨hP1, hK1, hD1⟩ := hB
        rw [htC] at hP1
        have hK1 := va_K.moved hvm.symm hK1
        obtain ⟨hP, hD⟩ := va_join (wr := [(zo13rrirrrr h0 sc kp ik bl go ch bo), (zo10ririliiriririr sc aTp (nI ts) aHl (nI nh) ed mi sn aHs (nI n) aWk (nI wz) aBk (nI bz) aFc), (zaR aHs cHs 8 fHs)]) (w1 := [(zo1iri bo mdc9_145 aEl9_146 (nI sz_9_148)), (zaR aEl9_146 cEl9_147 10 fEl9_149)]) hP hD [3] [0, 1, 2] rfl rfl (by decide) (by decide) hk1 hFc hP1 hD1
        have hK := (hK.sub (tys' := [(cHs, .object "MistHeaps$Heap")]) [0] rfl).app hK1
        generalize H1 = H at hP hS ⊢
        have hP : va_P (dC, dI) vwCl [(zo13rrirrrr h0 sc kp ik bl go ch bo), (zo10ririliiriririr sc aTp (nI ts) aHl (nI nh) ed mi sn aHs (nI n) aWk (nI wz) aBk (nI bz) aFc), (zaR aHs cHs 8 fHs), (zo1iri bo mdc9_145 aEl9_146 (nI sz_9_148)), (zaR aEl9_146 cEl9_147 10 fEl9_149)] H := hP
        have hD : va_D A [(zo13rrirrrr h0 sc kp ik bl go ch bo), (zo10ririliiriririr sc aTp (nI ts) aHl (nI nh) ed mi sn aHs (nI n) aWk (nI wz) aBk (nI bz) aFc), (zaR aHs cHs 8 fHs), (zo1iri bo mdc9_145 aEl9_146 (nI sz_9_148)), (zaR aEl9_146 cEl9_147 10 fEl9_149)] := hD
        have hK : va_K (dC, dI) vwCl [(cHs, .object "MistHeaps$Heap"), (cEl9_147, .object "java/lang/Object")] s := hK
        refine W.widen (k := 1) (n := 10) (by omega) (by omega) ?_
        obtain ⟨er_150, e_151, hL_152⟩ := hw_144
        obtain rfl := (e_151).symm
        subst er_150
        have hk := hpT_k4 (zyt j_6 (by omega)) e_82
        rw [hQ]
        have hP9 := hP.sub (ws' := [(zo13rrirrrr h0 sc kp ik bl go ch bo), (zo10ririliiriririr sc aTp (nI ts) aHl (nI nh) ed mi sn aHs (nI n) aWk (nI wz) aBk (nI bz) aFc), (zaR aHs cHs 8 fHs), (zo1iri bo mdc9_145 aEl9_146 (nI 3)), (zaR aEl9_146 cEl9_147 10 fEl9_149)]) [0, 1, 2, 3, 4] rfl
        have hD9 := hD.sub (ws' := [(zo13rrirrrr h0 sc kp ik bl go ch bo), (zo10ririliiriririr sc aTp (nI ts) aHl (nI nh) ed mi sn aHs (nI n) aWk (nI wz) aBk (nI bz) aFc), (zaR aHs cHs 8 fHs), (zo1iri bo mdc9_145 aEl9_146 (nI 3)), (zaR aEl9_146 cEl9_147 10 fEl9_149)]) [0, 1, 2, 3, 4] (by decide) rfl
        have hK9 := hK.sub (tys' := [(cHs, .object "MistHeaps$Heap"), (cEl9_147, .object "java/lang/Object")]) [0, 1] rfl
        refine W.widen (k := 1) (n := 10) (by omega) (by omega) ?_
        exact W.iret (v := (z * 3 + nI j_6) - (yv j_6)) hx hb hr (fun tQ htQ hWQ => ⟨⟨((z * 3 + nI j_6) - (yv j_6)), ([(zo1iri bo mdc9_145 aEl9_146 (nI 3)), (zaR aEl9_146 cEl9_147 10 fEl9_149)], [(cEl9_147, .object "java/lang/Object")]), rfl, ⟨(kG4 (m := nI j_6) (v := yv j_6) (x := z) hk).1.trans (ac_1 (n := n) (yk := yk) (yv := yv) (j := j_6) (y := y) (z := z) hn8 (by omega) (by assumption)).1, Or.inr ⟨_, _, _, _, _, rfl, rfl, by omega, by rw [(ac_1 (n := n) (yk := yk) (yv := yv) (j := j_6) (y := y) (z := z) hn8 (by omega) (by assumption)).2, (kG4 (m := nI j_6) (v := yv j_6) (x := z) hk).2]; exact hL_152⟩⟩, by rw [htQ]; exact hP9, va_K.moved hWQ.alike hK9, hD9⟩, hS.F htQ⟩) hS.2.2 dX11_act_73
    by_cases c_10_2 : y = 2
    · skip
      refine lv_tableIn (tgt := 74) hx hb dX11_act_25 (by rw [c_10_2]; decide) (by rw [c_10_2]; decide) (by rw [c_10_2]; rfl) (by decide) ?_
      refine lv_aload hx hb dX11_act_74 (lv_at hl 0 rfl) ?_
      refine lv_iload_n hx hb dX11_act_76 rfl (lv_at hl 4 rfl) ?_
      refine lv_aload_n hx hb dX11_act_77 rfl (lv_at hl 1 rfl) ?_
      refine va_get (D := (dC, dI)) (ci := 13) (v := .ref bo) (C := RX11) (T := TX11) (N := 7) hx hb hts kc_xAct0_0 hown hK hP 0 rfl rfl 6 (by decide) (hts (.fieldLink RX11 49 "MistHeaps" "bodies" "Ljava/util/ArrayList;") kc_xAct0_1) (fun _ h9 => h9) rfl dX11_act_78 ?_
      rcases (show yi j_6 = 3 ∨ yi j_6 = 5 ∨ yi j_6 = 6 ∨ yi j_6 = 8 ∨ yi j_6 = 9 ∨ yi j_6 = 11 ∨ yi j_6 = 12 from (hH_ j_6 (by omega)).1) with e_153 | e_153 | e_153 | e_153 | e_153 | e_153 | e_153
      · skip
        have hY : Fz dC dI [(zo3iiii (ya j_6) (yk j_6) (nI j_6) (yv j_6) (yc j_6))] [] A s := by have h9 := (hH_ j_6 (by omega)).2; rw [hpE, e_153] at h9; exact h9
        have hPc := hP.sub (ws' := [(zo1iri bo mdc9_3 bS 0)]) [3] rfl
        have hDc := hD.sub (ws' := [(zo1iri bo mdc9_3 bS 0)]) [3] (by decide) rfl
        have hKc := hK.sub (tys' := []) [] rfl
        have hFc := va_free (wc := [(zo1iri bo mdc9_3 bS 0)]) hD hS hA [3] rfl
        refine va_calli (va_runU (As := [.int z, .ref bo]) (rest := []) ⟨hx, hb, hml, hown, hts⟩ (c_X1_doLooks_X1_0 l dC dI ad cB bS    bo j_6 (yk j_6) (yv j_6) (yc j_6) z (ya j_6) mdc9_3 H.size) (va_cwO 2 hts gX11_act_X1_doLooks_u240X1 rfl rfl rfl kc_xAct0_5 (by decide +kernel) ⟨Nat.le_of_ble_eq_true rfl, Nat.le_of_ble_eq_true rfl⟩) ⟨fun a U g mk q => by obtain ⟨q0, q1, qP, qK, qD, qhI_, qhB_, qhW_, qhZ⟩ := q; exact ⟨q0, q1, qP, va_K.moved (u := U) (U := U.calling g mk a) (Vm.Alike.refl U.vm) qK, qD, qhI_.same rfl rfl, qhB_.same rfl rfl, qhW_.same rfl rfl, qhZ.same rfl rfl⟩, va_recv hY.2.1 (hY.P hS) (ci := 3) (q := (RX1, TX1, 4)) (q0 := 0) rfl rfl, fun U hU hW => ⟨rfl, by rw [hU], by rw [hU]; exact hPc, va_K.moved hW.alike hKc, hDc.weaken (fun _ _ _ _ => trivial), hI_.call hS hU hW (fun q h => hFc q h), hB_.call hS hU hW (fun q h => hFc q h), hW_.call hS hU hW (fun q h => hFc q h), hY.call hS hU hW (fun q h => hFc q h)⟩⟩ rfl rfl hl.1 rfl (lv_room (Nat.le_of_ble_eq_true rfl)) dX11_act_81 ⟨Nat.le_of_ble_eq_true rfl, Nat.le_of_ble_eq_true rfl⟩) hS (fun q _ h => hFc q h) hFc (fun r_154 u tC H1 locs htC hvm hw_155 hB hz1 hk1 hS => ?_)
        obtain ⟨mdc9_156, aEl9_157, cEl9_158, sz_9_159, fEl9_160⟩ := u
        try dsimp only at hw_155 hB
        obtain ⟨hP1, hK1, hD1⟩ := hB
        rw [htC] at hP1
        have hK1 := va_K.moved hvm.symm hK1
        obtain ⟨hP, hD⟩ := va_join (wr := [(zo13rrirrrr h0 sc kp ik bl go ch bo), (zo10ririliiriririr sc aTp (nI ts) aHl (nI nh) ed mi sn aHs (nI n) aWk (nI wz) aBk (nI bz) aFc), (zaR aHs cHs 8 fHs)]) (w1 := [(zo1iri bo mdc9_156 aEl9_157 (nI sz_9_159)), (zaR aEl9_157 cEl9_158 10 fEl9_160)]) hP hD [3] [0, 1, 2] rfl rfl (by decide) (by decide) hk1 hFc hP1 hD1
        have hK := (hK.sub (tys' := [(cHs, .object "MistHeaps$Heap")]) [0] rfl).app hK1
        generalize H1 = H at hP hS ⊢
        have hP : va_P (dC, dI) vwCl [(zo13rrirrrr h0 sc kp ik bl go ch bo), (zo10ririliiriririr sc aTp (nI ts) aHl (nI nh) ed mi sn aHs (nI n) aWk (nI wz) aBk (nI bz) aFc), (zaR aHs cHs 8 fHs), (zo1iri bo mdc9_156 aEl9_157 (nI sz_9_159)), (zaR aEl9_157 cEl9_158 10 fEl9_160)] H := hP
        have hD : va_D A [(zo13rrirrrr h0 sc kp ik bl go ch bo), (zo10ririliiriririr sc aTp (nI ts) aHl (nI nh) ed mi sn aHs (nI n) aWk (nI wz) aBk (nI bz) aFc), (zaR aHs cHs 8 fHs), (zo1iri bo mdc9_156 aEl9_157 (nI sz_9_159)), (zaR aEl9_157 cEl9_158 10 fEl9_160)] := hD
        have hK : va_K (dC, dI) vwCl [(cHs, .object "MistHeaps$Heap"), (cEl9_158, .object "java/lang/Object")] s := hK
        refine W.widen (k := 1) (n := 10) (by omega) (by omega) ?_
        obtain ⟨er_161, e_162, hL_163⟩ := hw_155
        obtain rfl := (e_162).symm
        subst er_161
        have hk := hpT_k3 (zyt j_6 (by omega)) e_153
        rw [hQ]
        have hP9 := hP.sub (ws' := [(zo13rrirrrr h0 sc kp ik bl go ch bo), (zo10ririliiriririr sc aTp (nI ts) aHl (nI nh) ed mi sn aHs (nI n) aWk (nI wz) aBk (nI bz) aFc), (zaR aHs cHs 8 fHs), (zo1iri bo mdc9_156 aEl9_157 (nI 4)), (zaR aEl9_157 cEl9_158 10 fEl9_160)]) [0, 1, 2, 3, 4] rfl
        have hD9 := hD.sub (ws' := [(zo13rrirrrr h0 sc kp ik bl go ch bo), (zo10ririliiriririr sc aTp (nI ts) aHl (nI nh) ed mi sn aHs (nI n) aWk (nI wz) aBk (nI bz) aFc), (zaR aHs cHs 8 fHs), (zo1iri bo mdc9_156 aEl9_157 (nI 4)), (zaR aEl9_157 cEl9_158 10 fEl9_160)]) [0, 1, 2, 3, 4] (by decide) rfl
        have hK9 := hK.sub (tys' := [(cHs, .object "MistHeaps$Heap"), (cEl9_158, .object "java/lang/Object")]) [0, 1] rfl
        refine W.widen (k := 1) (n := 10) (by omega) (by omega) ?_
        exact W.iret (v := (((z + nI j_6) - (yv j_6)) * 2) ^^^ 7) hx hb hr (fun tQ htQ hWQ => ⟨⟨((((z + nI j_6) - (yv j_6)) * 2) ^^^ 7), ([(zo1iri bo mdc9_156 aEl9_157 (nI 4)), (zaR aEl9_157 cEl9_158 10 fEl9_160)], [(cEl9_158, .object "java/lang/Object")]), rfl, ⟨(kL3 (m := nI j_6) (v := yv j_6) (x := z) hk).1.trans (ac_2 (n := n) (yk := yk) (yv := yv) (j := j_6) (y := y) (z := z) hn8 (by omega) (by assumption)).1, Or.inr ⟨_, _, _, _, _, rfl, rfl, by omega, by rw [(ac_2 (n := n) (yk := yk) (yv := yv) (j := j_6) (y := y) (z := z) hn8 (by omega) (by assumption)).2, (kL3 (m := nI j_6) (v := yv j_6) (x := z) hk).2]; exact hL_163⟩⟩, by rw [htQ]; exact hP9, va_K.moved hWQ.alike hK9, hD9⟩, hS.F htQ⟩) hS.2.2 dX11_act_84
      · skip
        have hY : Fz dC dI [(zo5iiii (ya j_6) (yk j_6) (nI j_6) (yv j_6) (yc j_6))] [] A s := by have h9 := (hH_ j_6 (by omega)).2; rw [hpE, e_153] at h9; exact h9
        have hPc := hP.sub (ws' := [(zo1iri bo mdc9_3 bS 0)]) [3] rfl
        have hDc := hD.sub (ws' := [(zo1iri bo mdc9_3 bS 0)]) [3] (by decide) rfl
        have hKc := hK.sub (tys' := []) [] rfl
        have hFc := va_free (wc := [(zo1iri bo mdc9_3 bS 0)]) hD hS hA [3] rfl
        refine va_calli (va_runV (As := [.int z, .ref bo]) (rest := []) ⟨hx, hb, hml, hown, hts⟩ (c_X3_doLooks_X3_0 l dC dI ad cB bS    bo j_6 (yk j_6) (yv j_6) (yc j_6) z (ya j_6) mdc9_3 H.size) (cwV 2 hts gX11_act_X3_doLooks rfl rfl rfl hd_yX3_doLooks ⟨Nat.le_of_ble_eq_true rfl, Nat.le_of_ble_eq_true rfl⟩) ⟨fun a U g mk q => by obtain ⟨q0, q1, qP, qK, qD, qhI_, qhB_, qhW_, qhZ⟩ := q; exact ⟨q0, q1, qP, va_K.moved (u := U) (U := U.calling g mk a) (Vm.Alike.refl U.vm) qK, qD, qhI_.same rfl rfl, qhB_.same rfl rfl, qhW_.same rfl rfl, qhZ.same rfl rfl⟩, va_recv hY.2.1 (hY.P hS) (ci := 5) (q := (RX3, TX3, 4)) (q0 := 0) rfl rfl, fun U hU hW => ⟨rfl, by rw [hU], by rw [hU]; exact hPc, va_K.moved hW.alike hKc, hDc.weaken (fun _ _ _ _ => trivial), hI_.call hS hU hW (fun q h => hFc q h), hB_.call hS hU hW (fun q h => hFc q h), hW_.call hS hU hW (fun q h => hFc q h), hY.call hS hU hW (fun q h => hFc q h)⟩⟩ rfl rfl hl.1 rfl (lv_room (Nat.le_of_ble_eq_true rfl)) dX11_act_81 ⟨Nat.le_of_ble_eq_true rfl, Nat.le_of_ble_eq_true rfl⟩) hS (fun q _ h => hFc q h) hFc (fun r_164 u tC H1 locs htC hvm hw_165 hB hz1 hk1 hS => ?_)
        obtain ⟨mdc9_166, aEl9_167, cEl9_168, sz_9_169, fEl9_170⟩ := u
        try dsimp only at hw_165 hB
        obtain ⟨hP1, hK1, hD1⟩ := hB
        rw [htC] at hP1
        have hK1 := va_K.moved hvm.symm hK1
        obtain ⟨hP, hD⟩ := va_join (wr := [(zo13rrirrrr h0 sc kp ik bl go ch bo), (zo10ririliiriririr sc aTp (nI ts) aHl (nI nh) ed mi sn aHs (nI n) aWk (nI wz) aBk (nI bz) aFc), (zaR aHs cHs 8 fHs)]) (w1 := [(zo1iri bo mdc9_166 aEl9_167 (nI sz_9_169)), (zaR aEl9_167 cEl9_168 10 fEl9_170)]) hP hD [3] [0, 1, 2] rfl rfl (by decide) (by decide) hk1 hFc hP1 hD1
        have hK := (hK.sub (tys' := [(cHs, .object "MistHeaps$Heap")]) [0] rfl).app hK1
        generalize H1 = H at hP hS ⊢
        have hP : va_P (dC, dI) vwCl [(zo13rrirrrr h0 sc kp ik bl go ch bo), (zo10ririliiriririr sc aTp (nI ts) aHl (nI nh) ed mi sn aHs (nI n) aWk (nI wz) aBk (nI bz) aFc), (zaR aHs cHs 8 fHs), (zo1iri bo mdc9_166 aEl9_167 (nI sz_9_169)), (zaR aEl9_167 cEl9_168 10 fEl9_170)] H := hP
        have hD : va_D A [(zo13rrirrrr h0 sc kp ik bl go ch bo), (zo10ririliiriririr sc aTp (nI ts) aHl (nI nh) ed mi sn aHs (nI n) aWk (nI wz) aBk (nI bz) aFc), (zaR aHs cHs 8 fHs), (zo1iri bo mdc9_166 aEl9_167 (nI sz_9_169)), (zaR aEl9_167 cEl9_168 10 fEl9_170)] := hD
        have hK : va_K (dC, dI) vwCl [(cHs, .object "MistHeaps$Heap"), (cEl9_168, .object "java/lang/Object")] s := hK
        refine W.widen (k := 1) (n := 10) (by omega) (by omega) ?_
        obtain ⟨er_171, e_172, hL_173⟩ := hw_165
        obtain rfl := (e_172).symm
        subst er_171
        have hk := hpT_k0 (zyt j_6 (by omega)) e_153
        rw [hQ]
        have hP9 := hP.sub (ws' := [(zo13rrirrrr h0 sc kp ik bl go ch bo), (zo10ririliiriririr sc aTp (nI ts) aHl (nI nh) ed mi sn aHs (nI n) aWk (nI wz) aBk (nI bz) aFc), (zaR aHs cHs 8 fHs), (zo1iri bo mdc9_166 aEl9_167 (nI 3)), (zaR aEl9_167 cEl9_168 10 fEl9_170)]) [0, 1, 2, 3, 4] rfl
        have hD9 := hD.sub (ws' := [(zo13rrirrrr h0 sc kp ik bl go ch bo), (zo10ririliiriririr sc aTp (nI ts) aHl (nI nh) ed mi sn aHs (nI n) aWk (nI wz) aBk (nI bz) aFc), (zaR aHs cHs 8 fHs), (zo1iri bo mdc9_166 aEl9_167 (nI 3)), (zaR aEl9_167 cEl9_168 10 fEl9_170)]) [0, 1, 2, 3, 4] (by decide) rfl
        have hK9 := hK.sub (tys' := [(cHs, .object "MistHeaps$Heap"), (cEl9_168, .object "java/lang/Object")]) [0, 1] rfl
        refine W.widen (k := 1) (n := 10) (by omega) (by omega) ?_
        exact W.iret (v := ((z + nI j_6) - (yv j_6)) * 2) hx hb hr (fun tQ htQ hWQ => ⟨⟨(((z + nI j_6) - (yv j_6)) * 2), ([(zo1iri bo mdc9_166 aEl9_167 (nI 3)), (zaR aEl9_167 cEl9_168 10 fEl9_170)], [(cEl9_168, .object "java/lang/Object")]), rfl, ⟨(kL0 (m := nI j_6) (v := yv j_6) (x := z) hk).1.trans (ac_2 (n := n) (yk := yk) (yv := yv) (j := j_6) (y := y) (z := z) hn8 (by omega) (by assumption)).1, Or.inr ⟨_, _, _, _, _, rfl, rfl, by omega, by rw [(ac_2 (n := n) (yk := yk) (yv := yv) (j := j_6) (y := y) (z := z) hn8 (by omega) (by assumption)).2, (kL0 (m := nI j_6) (v := yv j_6) (x := z) hk).2]; exact hL_173⟩⟩, by rw [htQ]; exact hP9, va_K.moved hWQ.alike hK9, hD9⟩, hS.F htQ⟩) hS.2.2 dX11_act_84
      · skip
        have hY : Fz dC dI [(zo6iiii (ya j_6) (yk j_6) (nI j_6) (yv j_6) (yc j_6))] [] A s := by have h9 := (hH_ j_6 (by omega)).2; rw [hpE, e_153] at h9; exact h9
        have hPc := hP.sub (ws' := [(zo1iri bo mdc9_3 bS 0)]) [3] rfl
        have hDc := hD.sub (ws' := [(zo1iri bo mdc9_3 bS 0)]) [3] (by decide) rfl
        have hKc := hK.sub (tys' := []) [] rfl
        have hFc := va_free (wc := [(zo1iri bo mdc9_3 bS 0)]) hD hS hA [3] rfl
        refine va_calli (va_runU (As := [.int z, .ref bo]) (rest := []) ⟨hx, hb, hml, hown, hts⟩ (c_X3_doLooks_X4_0 l dC dI ad cB bS    bo j_6 (yk j_6) (yv j_6) (yc j_6) z (ya j_6) mdc9_3 H.size) (va_cwU 2 hts gX11_act_X3_doLooks_u240X4 rfl rfl rfl rfl (by decide +kernel) ⟨Nat.le_of_ble_eq_true rfl, Nat.le_of_ble_eq_true rfl⟩) ⟨fun a U g mk q => by obtain ⟨q0, q1, qP, qK, qD, qhI_, qhB_, qhW_, qhZ⟩ := q; exact ⟨q0, q1, qP, va_K.moved (u := U) (U := U.calling g mk a) (Vm.Alike.refl U.vm) qK, qD, qhI_.same rfl rfl, qhB_.same rfl rfl, qhW_.same rfl rfl, qhZ.same rfl rfl⟩, va_recv hY.2.1 (hY.P hS) (ci := 6) (q := (RX4, TX4, 4)) (q0 := 0) rfl rfl, fun U hU hW => ⟨rfl, by rw [hU], by rw [hU]; exact hPc, va_K.moved hW.alike hKc, hDc.weaken (fun _ _ _ _ => trivial), hI_.call hS hU hW (fun q h => hFc q h), hB_.call hS hU hW (fun q h => hFc q h), hW_.call hS hU hW (fun q h => hFc q h), hY.call hS hU hW (fun q h => hFc q h)⟩⟩ rfl rfl hl.1 rfl (lv_room (Nat.le_of_ble_eq_true rfl)) dX11_act_81 ⟨Nat.le_of_ble_eq_true rfl, Nat.le_of_ble_eq_true rfl⟩) hS (fun q _ h => hFc q h) hFc (fun r_174 u tC H1 locs htC hvm hw_175 hB hz1 hk1 hS => ?_)
        obtain ⟨mdc9_176, aEl9_177, cEl9_178, sz_9_179, fEl9_180⟩ := u
        try dsimp only at hw_175 hB
        obtain ⟨hP1, hK1, hD1⟩ := hB
        rw [htC] at hP1
        have hK1 := va_K.moved hvm.symm hK1
        obtain ⟨hP, hD⟩ := va_join (wr := [(zo13rrirrrr h0 sc kp ik bl go ch bo), (zo10ririliiriririr sc aTp (nI ts) aHl (nI nh) ed mi sn aHs (nI n) aWk (nI wz) aBk (nI bz) aFc), (zaR aHs cHs 8 fHs)]) (w1 := [(zo1iri bo mdc9_176 aEl9_177 (nI sz_9_179)), (zaR aEl9_177 cEl9_178 10 fEl9_180)]) hP hD [3] [0, 1, 2] rfl rfl (by decide) (by decide) hk1 hFc hP1 hD1
        have hK := (hK.sub (tys' := [(cHs, .object "MistHeaps$Heap")]) [0] rfl).app hK1
        generalize H1 = H at hP hS ⊢
        have hP : va_P (dC, dI) vwCl [(zo13rrirrrr h0 sc kp ik bl go ch bo), (zo10ririliiriririr sc aTp (nI ts) aHl (nI nh) ed mi sn aHs (nI n) aWk (nI wz) aBk (nI bz) aFc), (zaR aHs cHs 8 fHs), (zo1iri bo mdc9_176 aEl9_177 (nI sz_9_179)), (zaR aEl9_177 cEl9_178 10 fEl9_180)] H := hP
        have hD : va_D A [(zo13rrirrrr h0 sc kp ik bl go ch bo), (zo10ririliiriririr sc aTp (nI ts) aHl (nI nh) ed mi sn aHs (nI n) aWk (nI wz) aBk (nI bz) aFc), (zaR aHs cHs 8 fHs), (zo1iri bo mdc9_176 aEl9_177 (nI sz_9_179)), (zaR aEl9_177 cEl9_178 10 fEl9_180)] := hD
        have hK : va_K (dC, dI) vwCl [(cHs, .object "MistHeaps$Heap"), (cEl9_178, .object "java/lang/Object")] s := hK
        refine W.widen (k := 1) (n := 10) (by omega) (by omega) ?_
        obtain ⟨er_181, e_182, hL_183⟩ := hw_175
        obtain rfl := (e_182).symm
        subst er_181
        have hk := hpT_k1 (zyt j_6 (by omega)) e_153
        rw [hQ]
        have hP9 := hP.sub (ws' := [(zo13rrirrrr h0 sc kp ik bl go ch bo), (zo10ririliiriririr sc aTp (nI ts) aHl (nI nh) ed mi sn aHs (nI n) aWk (nI wz) aBk (nI bz) aFc), (zaR aHs cHs 8 fHs), (zo1iri bo mdc9_176 aEl9_177 (nI 4)), (zaR aEl9_177 cEl9_178 10 fEl9_180)]) [0, 1, 2, 3, 4] rfl
        have hD9 := hD.sub (ws' := [(zo13rrirrrr h0 sc kp ik bl go ch bo), (zo10ririliiriririr sc aTp (nI ts) aHl (nI nh) ed mi sn aHs (nI n) aWk (nI wz) aBk (nI bz) aFc), (zaR aHs cHs 8 fHs), (zo1iri bo mdc9_176 aEl9_177 (nI 4)), (zaR aEl9_177 cEl9_178 10 fEl9_180)]) [0, 1, 2, 3, 4] (by decide) rfl
        have hK9 := hK.sub (tys' := [(cHs, .object "MistHeaps$Heap"), (cEl9_178, .object "java/lang/Object")]) [0, 1] rfl
        refine W.widen (k := 1) (n := 10) (by omega) (by omega) ?_
        exact W.iret (v := ((z * 3 + nI j_6) - (yv j_6)) * 2) hx hb hr (fun tQ htQ hWQ => ⟨⟨(((z * 3 + nI j_6) - (yv j_6)) * 2), ([(zo1iri bo mdc9_176 aEl9_177 (nI 4)), (zaR aEl9_177 cEl9_178 10 fEl9_180)], [(cEl9_178, .object "java/lang/Object")]), rfl, ⟨(kL1 (m := nI j_6) (v := yv j_6) (x := z) hk).1.trans (ac_2 (n := n) (yk := yk) (yv := yv) (j := j_6) (y := y) (z := z) hn8 (by omega) (by assumption)).1, Or.inr ⟨_, _, _, _, _, rfl, rfl, by omega, by rw [(ac_2 (n := n) (yk := yk) (yv := yv) (j := j_6) (y := y) (z := z) hn8 (by omega) (by assumption)).2, (kL1 (m := nI j_6) (v := yv j_6) (x := z) hk).2]; exact hL_183⟩⟩, by rw [htQ]; exact hP9, va_K.moved hWQ.alike hK9, hD9⟩, hS.F htQ⟩) hS.2.2 dX11_act_84
      · skip
        have hY : Fz dC dI [(zo8iiii (ya j_6) (yk j_6) (nI j_6) (yv j_6) (yc j_6))] [] A s := by have h9 := (hH_ j_6 (by omega)).2; rw [hpE, e_153] at h9; exact h9
        have hPc := hP.sub (ws' := [(zo1iri bo mdc9_3 bS 0)]) [3] rfl
        have hDc := hD.sub (ws' := [(zo1iri bo mdc9_3 bS 0)]) [3] (by decide) rfl
        have hKc := hK.sub (tys' := []) [] rfl
        have hFc := va_free (wc := [(zo1iri bo mdc9_3 bS 0)]) hD hS hA [3] rfl
        refine va_calli (va_runU (As := [.int z, .ref bo]) (rest := []) ⟨hx, hb, hml, hown, hts⟩ (c_X3_doLooks_X6_0 l dC dI ad cB bS    bo j_6 (yk j_6) (yv j_6) (yc j_6) z (ya j_6) mdc9_3 H.size) (va_cwU 2 hts gX11_act_X3_doLooks_u240X6 rfl rfl rfl rfl (by decide +kernel) ⟨Nat.le_of_ble_eq_true rfl, Nat.le_of_ble_eq_true rfl⟩) ⟨fun a U g mk q => by obtain ⟨q0, q1, qP, qK, qD, qhI_, qhB_, qhW_, qhZ⟩ := q; exact ⟨q0, q1, qP, va_K.moved (u := U) (U := U.calling g mk a) (Vm.Alike.refl U.vm) qK, qD, qhI_.same rfl rfl, qhB_.same rfl rfl, qhW_.same rfl rfl, qhZ.same rfl rfl⟩, va_recv hY.2.1 (hY.P hS) (ci := 8) (q := (RX6, TX6, 4)) (q0 := 0) rfl rfl, fun U hU hW => ⟨rfl, by rw [hU], by rw [hU]; exact hPc, va_K.moved hW.alike hKc, hDc.weaken (fun _ _ _ _ => trivial), hI_.call hS hU hW (fun q h => hFc q h), hB_.call hS hU hW (fun q h => hFc q h), hW_.call hS hU hW (fun q h => hFc q h), hY.call hS hU hW (fun q h => hFc q h)⟩⟩ rfl rfl hl.1 rfl (lv_room (Nat.le_of_ble_eq_true rfl)) dX11_act_81 ⟨Nat.le_of_ble_eq_true rfl, Nat.le_of_ble_eq_true rfl⟩) hS (fun q _ h => hFc q h) hFc (fun r_184 u tC H1 locs htC hvm hw_185 hB hz1 hk1 hS => ?_)
        obtain ⟨mdc9_186, aEl9_187, cEl9_188, sz_9_189, fEl9_190⟩ := u
        try dsimp only at hw_185 hB
        obtain ⟨hP1, hK1, hD1⟩ := hB
        rw [htC] at hP1
        have hK1 := va_K.moved hvm.symm hK1
        obtain ⟨hP, hD⟩ := va_join (wr := [(zo13rrirrrr h0 sc kp ik bl go ch bo), (zo10ririliiriririr sc aTp (nI ts) aHl (nI nh) ed mi sn aHs (nI n) aWk (nI wz) aBk (nI bz) aFc), (zaR aHs cHs 8 fHs)]) (w1 := [(zo1iri bo mdc9_186 aEl9_187 (nI sz_9_189)), (zaR aEl9_187 cEl9_188 10 fEl9_190)]) hP hD [3] [0, 1, 2] rfl rfl (by decide) (by decide) hk1 hFc hP1 hD1
        have hK := (hK.sub (tys' := [(cHs, .object "MistHeaps$Heap")]) [0] rfl).app hK1
        generalize H1 = H at hP hS ⊢
        have hP : va_P (dC, dI) vwCl [(zo13rrirrrr h0 sc kp ik bl go ch bo), (zo10ririliiriririr sc aTp (nI ts) aHl (nI nh) ed mi sn aHs (nI n) aWk (nI wz) aBk (nI bz) aFc), (zaR aHs cHs 8 fHs), (zo1iri bo mdc9_186 aEl9_187 (nI sz_9_189)), (zaR aEl9_187 cEl9_188 10 fEl9_190)] H := hP
        have hD : va_D A [(zo13rrirrrr h0 sc kp ik bl go ch bo), (zo10ririliiriririr sc aTp (nI ts) aHl (nI nh) ed mi sn aHs (nI n) aWk (nI wz) aBk (nI bz) aFc), (zaR aHs cHs 8 fHs), (zo1iri bo mdc9_186 aEl9_187 (nI sz_9_189)), (zaR aEl9_187 cEl9_188 10 fEl9_190)] := hD
        have hK : va_K (dC, dI) vwCl [(cHs, .object "MistHeaps$Heap"), (cEl9_188, .object "java/lang/Object")] s := hK
        refine W.widen (k := 1) (n := 10) (by omega) (by omega) ?_
        obtain ⟨er_191, e_192, hL_193⟩ := hw_185
        obtain rfl := (e_192).symm
        subst er_191
        have hk := hpT_k2 (zyt j_6 (by omega)) e_153
        rw [hQ]
        have hP9 := hP.sub (ws' := [(zo13rrirrrr h0 sc kp ik bl go ch bo), (zo10ririliiriririr sc aTp (nI ts) aHl (nI nh) ed mi sn aHs (nI n) aWk (nI wz) aBk (nI bz) aFc), (zaR aHs cHs 8 fHs), (zo1iri bo mdc9_186 aEl9_187 (nI 4)), (zaR aEl9_187 cEl9_188 10 fEl9_190)]) [0, 1, 2, 3, 4] rfl
        have hD9 := hD.sub (ws' := [(zo13rrirrrr h0 sc kp ik bl go ch bo), (zo10ririliiriririr sc aTp (nI ts) aHl (nI nh) ed mi sn aHs (nI n) aWk (nI wz) aBk (nI bz) aFc), (zaR aHs cHs 8 fHs), (zo1iri bo mdc9_186 aEl9_187 (nI 4)), (zaR aEl9_187 cEl9_188 10 fEl9_190)]) [0, 1, 2, 3, 4] (by decide) rfl
        have hK9 := hK.sub (tys' := [(cHs, .object "MistHeaps$Heap"), (cEl9_188, .object "java/lang/Object")]) [0, 1] rfl
        refine W.widen (k := 1) (n := 10) (by omega) (by omega) ?_
        exact W.iret (v := (-((z + nI j_6) - (yv j_6))) * 2) hx hb hr (fun tQ htQ hWQ => ⟨⟨((-((z + nI j_6) - (yv j_6))) * 2), ([(zo1iri bo mdc9_186 aEl9_187 (nI 4)), (zaR aEl9_187 cEl9_188 10 fEl9_190)], [(cEl9_188, .object "java/lang/Object")]), rfl, ⟨(kL2 (m := nI j_6) (v := yv j_6) (x := z) hk).1.trans (ac_2 (n := n) (yk := yk) (yv := yv) (j := j_6) (y := y) (z := z) hn8 (by omega) (by assumption)).1, Or.inr ⟨_, _, _, _, _, rfl, rfl, by omega, by rw [(ac_2 (n := n) (yk := yk) (yv := yv) (j := j_6) (y := y) (z := z) hn8 (by omega) (by assumption)).2, (kL2 (m := nI j_6) (v := yv j_6) (x := z) hk).2]; exact hL_193⟩⟩, by rw [htQ]; exact hP9, va_K.moved hWQ.alike hK9, hD9⟩, hS.F htQ⟩) hS.2.2 dX11_act_84
      · skip
        have hY : Fz dC dI [(zo9iiii (ya j_6) (yk j_6) (nI j_6) (yv j_6) (yc j_6))] [] A s := by have h9 := (hH_ j_6 (by omega)).2; rw [hpE, e_153] at h9; exact h9
        have hPc := hP.sub (ws' := [(zo1iri bo mdc9_3 bS 0)]) [3] rfl
        have hDc := hD.sub (ws' := [(zo1iri bo mdc9_3 bS 0)]) [3] (by decide) rfl
        have hKc := hK.sub (tys' := []) [] rfl
        have hFc := va_free (wc := [(zo1iri bo mdc9_3 bS 0)]) hD hS hA [3] rfl
        refine va_calli (va_runU (As := [.int z, .ref bo]) (rest := []) ⟨hx, hb, hml, hown, hts⟩ (c_X1_doLooks_X7_0 l dC dI ad cB bS    bo j_6 (yk j_6) (yv j_6) (yc j_6) z (ya j_6) mdc9_3 H.size) (va_cwO 2 hts gX11_act_X1_doLooks_u240X7 rfl rfl rfl kc_xAct0_5 (by decide +kernel) ⟨Nat.le_of_ble_eq_true rfl, Nat.le_of_ble_eq_true rfl⟩) ⟨fun a U g mk q => by obtain ⟨q0, q1, qP, qK, qD, qhI_, qhB_, qhW_, qhZ⟩ := q; exact ⟨q0, q1, qP, va_K.moved (u := U) (U := U.calling g mk a) (Vm.Alike.refl U.vm) qK, qD, qhI_.same rfl rfl, qhB_.same rfl rfl, qhW_.same rfl rfl, qhZ.same rfl rfl⟩, va_recv hY.2.1 (hY.P hS) (ci := 9) (q := (RX7, TX7, 4)) (q0 := 0) rfl rfl, fun U hU hW => ⟨rfl, by rw [hU], by rw [hU]; exact hPc, va_K.moved hW.alike hKc, hDc.weaken (fun _ _ _ _ => trivial), hI_.call hS hU hW (fun q h => hFc q h), hB_.call hS hU hW (fun q h => hFc q h), hW_.call hS hU hW (fun q h => hFc q h), hY.call hS hU hW (fun q h => hFc q h)⟩⟩ rfl rfl hl.1 rfl (lv_room (Nat.le_of_ble_eq_true rfl)) dX11_act_81 ⟨Nat.le_of_ble_eq_true rfl, Nat.le_of_ble_eq_true rfl⟩) hS (fun q _ h => hFc q h) hFc (fun r_194 u tC H1 locs htC hvm hw_195 hB hz1 hk1 hS => ?_)
        obtain ⟨mdc9_196, aEl9_197, cEl9_198, sz_9_199, fEl9_200⟩ := u
        try dsimp only at hw_195 hB
        obtain ⟨hP1, hK1, hD1⟩ := hB
        rw [htC] at hP1
        have hK1 := va_K.moved hvm.symm hK1
        obtain ⟨hP, hD⟩ := va_join (wr := [(zo13rrirrrr h0 sc kp ik bl go ch bo), (zo10ririliiriririr sc aTp (nI ts) aHl (nI nh) ed mi sn aHs (nI n) aWk (nI wz) aBk (nI bz) aFc), (zaR aHs cHs 8 fHs)]) (w1 := [(zo1iri bo mdc9_196 aEl9_197 (nI sz_9_199)), (zaR aEl9_197 cEl9_198 10 fEl9_200)]) hP hD [3] [0, 1, 2] rfl rfl (by decide) (by decide) hk1 hFc hP1 hD1
        have hK := (hK.sub (tys' := [(cHs, .object "MistHeaps$Heap")]) [0] rfl).app hK1
        generalize H1 = H at hP hS ⊢
        have hP : va_P (dC, dI) vwCl [(zo13rrirrrr h0 sc kp ik bl go ch bo), (zo10ririliiriririr sc aTp (nI ts) aHl (nI nh) ed mi sn aHs (nI n) aWk (nI wz) aBk (nI bz) aFc), (zaR aHs cHs 8 fHs), (zo1iri bo mdc9_196 aEl9_197 (nI sz_9_199)), (zaR aEl9_197 cEl9_198 10 fEl9_200)] H := hP
        have hD : va_D A [(zo13rrirrrr h0 sc kp ik bl go ch bo), (zo10ririliiriririr sc aTp (nI ts) aHl (nI nh) ed mi sn aHs (nI n) aWk (nI wz) aBk (nI bz) aFc), (zaR aHs cHs 8 fHs), (zo1iri bo mdc9_196 aEl9_197 (nI sz_9_199)), (zaR aEl9_197 cEl9_198 10 fEl9_200)] := hD
        have hK : va_K (dC, dI) vwCl [(cHs, .object "MistHeaps$Heap"), (cEl9_198, .object "java/lang/Object")] s := hK
        refine W.widen (k := 1) (n := 10) (by omega) (by omega) ?_
        obtain ⟨er_201, e_202, hL_203⟩ := hw_195
        obtain rfl := (e_202).symm
        subst er_201
        have hk := hpT_k6 (zyt j_6 (by omega)) e_153
        rw [hQ]
        have hP9 := hP.sub (ws' := [(zo13rrirrrr h0 sc kp ik bl go ch bo), (zo10ririliiriririr sc aTp (nI ts) aHl (nI nh) ed mi sn aHs (nI n) aWk (nI wz) aBk (nI bz) aFc), (zaR aHs cHs 8 fHs), (zo1iri bo mdc9_196 aEl9_197 (nI 5)), (zaR aEl9_197 cEl9_198 10 fEl9_200)]) [0, 1, 2, 3, 4] rfl
        have hD9 := hD.sub (ws' := [(zo13rrirrrr h0 sc kp ik bl go ch bo), (zo10ririliiriririr sc aTp (nI ts) aHl (nI nh) ed mi sn aHs (nI n) aWk (nI wz) aBk (nI bz) aFc), (zaR aHs cHs 8 fHs), (zo1iri bo mdc9_196 aEl9_197 (nI 5)), (zaR aEl9_197 cEl9_198 10 fEl9_200)]) [0, 1, 2, 3, 4] (by decide) rfl
        have hK9 := hK.sub (tys' := [(cHs, .object "MistHeaps$Heap"), (cEl9_198, .object "java/lang/Object")]) [0, 1] rfl
        refine W.widen (k := 1) (n := 10) (by omega) (by omega) ?_
        exact W.iret (v := ((((z + nI j_6) - (yv j_6)) + (yv j_6)) * 2) ^^^ 7) hx hb hr (fun tQ htQ hWQ => ⟨⟨(((((z + nI j_6) - (yv j_6)) + (yv j_6)) * 2) ^^^ 7), ([(zo1iri bo mdc9_196 aEl9_197 (nI 5)), (zaR aEl9_197 cEl9_198 10 fEl9_200)], [(cEl9_198, .object "java/lang/Object")]), rfl, ⟨(kL6 (m := nI j_6) (v := yv j_6) (x := z) hk).1.trans (ac_2 (n := n) (yk := yk) (yv := yv) (j := j_6) (y := y) (z := z) hn8 (by omega) (by assumption)).1, Or.inr ⟨_, _, _, _, _, rfl, rfl, by omega, by rw [(ac_2 (n := n) (yk := yk) (yv := yv) (j := j_6) (y := y) (z := z) hn8 (by omega) (by assumption)).2, (kL6 (m := nI j_6) (v := yv j_6) (x := z) hk).2]; exact hL_203⟩⟩, by rw [htQ]; exact hP9, va_K.moved hWQ.alike hK9, hD9⟩, hS.F htQ⟩) hS.2.2 dX11_act_84
      · skip
        have hY : Fz dC dI [(zo11iiii (ya j_6) (yk j_6) (nI j_6) (yv j_6) (yc j_6))] [] A s := by have h9 := (hH_ j_6 (by omega)).2; rw [hpE, e_153] at h9; exact h9
        have hPc := hP.sub (ws' := [(zo1iri bo mdc9_3 bS 0)]) [3] rfl
        have hDc := hD.sub (ws' := [(zo1iri bo mdc9_3 bS 0)]) [3] (by decide) rfl
        have hKc := hK.sub (tys' := []) [] rfl
        have hFc := va_free (wc := [(zo1iri bo mdc9_3 bS 0)]) hD hS hA [3] rfl
        refine va_calli (va_runU (As := [.int z, .ref bo]) (rest := []) ⟨hx, hb, hml, hown, hts⟩ (c_X3_doLooks_X9_0 l dC dI ad cB bS    bo j_6 (yk j_6) (yv j_6) (yc j_6) z (ya j_6) mdc9_3 H.size) (va_cwU 2 hts gX11_act_X3_doLooks_u240X9 rfl rfl rfl rfl (by decide +kernel) ⟨Nat.le_of_ble_eq_true rfl, Nat.le_of_ble_eq_true rfl⟩) ⟨fun a U g mk q => by obtain ⟨q0, q1, qP, qK, qD, qhI_, qhB_, qhW_, qhZ⟩ := q; exact ⟨q0, q1, qP, va_K.moved (u := U) (U := U.calling g mk a) (Vm.Alike.refl U.vm) qK, qD, qhI_.same rfl rfl, qhB_.same rfl rfl, qhW_.same rfl rfl, qhZ.same rfl rfl⟩, va_recv hY.2.1 (hY.P hS) (ci := 11) (q := (RX9, TX9, 4)) (q0 := 0) rfl rfl, fun U hU hW => ⟨rfl, by rw [hU], by rw [hU]; exact hPc, va_K.moved hW.alike hKc, hDc.weaken (fun _ _ _ _ => trivial), hI_.call hS hU hW (fun q h => hFc q h), hB_.call hS hU hW (fun q h => hFc q h), hW_.call hS hU hW (fun q h => hFc q h), hY.call hS hU hW (fun q h => hFc q h)⟩⟩ rfl rfl hl.1 rfl (lv_room (Nat.le_of_ble_eq_true rfl)) dX11_act_81 ⟨Nat.le_of_ble_eq_true rfl, Nat.le_of_ble_eq_true rfl⟩) hS (fun q _ h => hFc q h) hFc (fun r_204 u tC H1 locs htC hvm hw_205 hB hz1 hk1 hS => ?_)
        obtain ⟨mdc9_206, aEl9_207, cEl9_208, sz_9_209, fEl9_210⟩ := u
        try dsimp only at hw_205 hB
        obtain ⟨hP1, hK1, hD1⟩ := hB
        rw [htC] at hP1
        have hK1 := va_K.moved hvm.symm hK1
        obtain ⟨hP, hD⟩ := va_join (wr := [(zo13rrirrrr h0 sc kp ik bl go ch bo), (zo10ririliiriririr sc aTp (nI ts) aHl (nI nh) ed mi sn aHs (nI n) aWk (nI wz) aBk (nI bz) aFc), (zaR aHs cHs 8 fHs)]) (w1 := [(zo1iri bo mdc9_206 aEl9_207 (nI sz_9_209)), (zaR aEl9_207 cEl9_208 10 fEl9_210)]) hP hD [3] [0, 1, 2] rfl rfl (by decide) (by decide) hk1 hFc hP1 hD1
        have hK := (hK.sub (tys' := [(cHs, .object "MistHeaps$Heap")]) [0] rfl).app hK1
        generalize H1 = H at hP hS ⊢
        have hP : va_P (dC, dI) vwCl [(zo13rrirrrr h0 sc kp ik bl go ch bo), (zo10ririliiriririr sc aTp (nI ts) aHl (nI nh) ed mi sn aHs (nI n) aWk (nI wz) aBk (nI bz) aFc), (zaR aHs cHs 8 fHs), (zo1iri bo mdc9_206 aEl9_207 (nI sz_9_209)), (zaR aEl9_207 cEl9_208 10 fEl9_210)] H := hP
        have hD : va_D A [(zo13rrirrrr h0 sc kp ik bl go ch bo), (zo10ririliiriririr sc aTp (nI ts) aHl (nI nh) ed mi sn aHs (nI n) aWk (nI wz) aBk (nI bz) aFc), (zaR aHs cHs 8 fHs), (zo1iri bo mdc9_206 aEl9_207 (nI sz_9_209)), (zaR aEl9_207 cEl9_208 10 fEl9_210)] := hD
        have hK : va_K (dC, dI) vwCl [(cHs, .object "MistHeaps$Heap"), (cEl9_208, .object "java/lang/Object")] s := hK
        refine W.widen (k := 1) (n := 10) (by omega) (by omega) ?_
        obtain ⟨er_211, e_212, hL_213⟩ := hw_205
        obtain rfl := (e_212).symm
        subst er_211
        have hk := hpT_k5 (zyt j_6 (by omega)) e_153
        rw [hQ]
        have hP9 := hP.sub (ws' := [(zo13rrirrrr h0 sc kp ik bl go ch bo), (zo10ririliiriririr sc aTp (nI ts) aHl (nI nh) ed mi sn aHs (nI n) aWk (nI wz) aBk (nI bz) aFc), (zaR aHs cHs 8 fHs), (zo1iri bo mdc9_206 aEl9_207 (nI 5)), (zaR aEl9_207 cEl9_208 10 fEl9_210)]) [0, 1, 2, 3, 4] rfl
        have hD9 := hD.sub (ws' := [(zo13rrirrrr h0 sc kp ik bl go ch bo), (zo10ririliiriririr sc aTp (nI ts) aHl (nI nh) ed mi sn aHs (nI n) aWk (nI wz) aBk (nI bz) aFc), (zaR aHs cHs 8 fHs), (zo1iri bo mdc9_206 aEl9_207 (nI 5)), (zaR aEl9_207 cEl9_208 10 fEl9_210)]) [0, 1, 2, 3, 4] (by decide) rfl
        have hK9 := hK.sub (tys' := [(cHs, .object "MistHeaps$Heap"), (cEl9_208, .object "java/lang/Object")]) [0, 1] rfl
        refine W.widen (k := 1) (n := 10) (by omega) (by omega) ?_
        exact W.iret (v := (-(((z + nI j_6) ^^^ nI j_6) - (yv j_6))) * 2) hx hb hr (fun tQ htQ hWQ => ⟨⟨((-(((z + nI j_6) ^^^ nI j_6) - (yv j_6))) * 2), ([(zo1iri bo mdc9_206 aEl9_207 (nI 5)), (zaR aEl9_207 cEl9_208 10 fEl9_210)], [(cEl9_208, .object "java/lang/Object")]), rfl, ⟨(kL5 (m := nI j_6) (v := yv j_6) (x := z) hk).1.trans (ac_2 (n := n) (yk := yk) (yv := yv) (j := j_6) (y := y) (z := z) hn8 (by omega) (by assumption)).1, Or.inr ⟨_, _, _, _, _, rfl, rfl, by omega, by rw [(ac_2 (n := n) (yk := yk) (yv := yv) (j := j_6) (y := y) (z := z) hn8 (by omega) (by assumption)).2, (kL5 (m := nI j_6) (v := yv j_6) (x := z) hk).2]; exact hL_213⟩⟩, by rw [htQ]; exact hP9, va_K.moved hWQ.alike hK9, hD9⟩, hS.F htQ⟩) hS.2.2 dX11_act_84
      · skip
        have hY : Fz dC dI [(zo12iiii (ya j_6) (yk j_6) (nI j_6) (yv j_6) (yc j_6))] [] A s := by have h9 := (hH_ j_6 (by omega)).2; rw [hpE, e_153] at h9; exact h9
        have hPc := hP.sub (ws' := [(zo1iri bo mdc9_3 bS 0)]) [3] rfl
        have hDc := hD.sub (ws' := [(zo1iri bo mdc9_3 bS 0)]) [3] (by decide) rfl
        have hKc := hK.sub (tys' := []) [] rfl
        have hFc := va_free (wc := [(zo1iri bo mdc9_3 bS 0)]) hD hS hA [3] rfl
        refine va_calli (va_runU (As := [.int z, .ref bo]) (rest := []) ⟨hx, hb, hml, hown, hts⟩ (c_X10_doLooks_X10_0 l dC dI ad cB bS    bo j_6 (yk j_6) (yv j_6) (yc j_6) z (ya j_6) mdc9_3 H.size) (va_cwO 2 hts gX11_act_X10_doLooks_u240X10 rfl rfl rfl kc_xAct0_5 (by decide +kernel) ⟨Nat.le_of_ble_eq_true rfl, Nat.le_of_ble_eq_true rfl⟩) ⟨fun a U g mk q => by obtain ⟨q0, q1, qP, qK, qD, qhI_, qhB_, qhW_, qhZ⟩ := q; exact ⟨q0, q1, qP, va_K.moved (u := U) (U := U.calling g mk a) (Vm.Alike.refl U.vm) qK, qD, qhI_.same rfl rfl, qhB_.same rfl rfl, qhW_.same rfl rfl, qhZ.same rfl rfl⟩, va_recv hY.2.1 (hY.P hS) (ci := 12) (q := (RX10, TX10, 4)) (q0 := 0) rfl rfl, fun U hU hW => ⟨rfl, by rw [hU], by rw [hU]; exact hPc, va_K.moved hW.alike hKc, hDc.weaken (fun _ _ _ _ => trivial), hI_.call hS hU hW (fun q h => hFc q h), hB_.call hS hU hW (fun q h => hFc q h), hW_.call hS hU hW (fun q h => hFc q h), hY.call hS hU hW (fun q h => hFc q h)⟩⟩ rfl rfl hl.1 rfl (lv_room (Nat.le_of_ble_eq_true rfl)) dX11_act_81 ⟨Nat.le_of_ble_eq_true rfl, Nat.le_of_ble_eq_true rfl⟩) hS (fun q _ h => hFc q h) hFc (fun r_214 u tC H1 locs htC hvm hw_215 hB hz1 hk1 hS => ?_)
        obtain ⟨mdc9_216, aEl9_217, cEl9_218, sz_9_219, fEl9_220⟩ := u
        try dsimp only at hw_215 hB
        obtain ⟨hP1, hK1, hD1⟩ := hB
        rw [htC] at hP1
        have hK1 := va_K.moved hvm.symm hK1
        obtain ⟨hP, hD⟩ := va_join (wr := [(zo13rrirrrr h0 sc kp ik bl go ch bo), (zo10ririliiriririr sc aTp (nI ts) aHl (nI nh) ed mi sn aHs (nI n) aWk (nI wz) aBk (nI bz) aFc), (zaR aHs cHs 8 fHs)]) (w1 := [(zo1iri bo mdc9_216 aEl9_217 (nI sz_9_219)), (zaR aEl9_217 cEl9_218 10 fEl9_220)]) hP hD [3] [0, 1, 2] rfl rfl (by decide) (by decide) hk1 hFc hP1 hD1
        have hK := (hK.sub (tys' := [(cHs, .object "MistHeaps$Heap")]) [0] rfl).app hK1
        generalize H1 = H at hP hS ⊢
        have hP : va_P (dC, dI) vwCl [(zo13rrirrrr h0 sc kp ik bl go ch bo), (zo10ririliiriririr sc aTp (nI ts) aHl (nI nh) ed mi sn aHs (nI n) aWk (nI wz) aBk (nI bz) aFc), (zaR aHs cHs 8 fHs), (zo1iri bo mdc9_216 aEl9_217 (nI sz_9_219)), (zaR aEl9_217 cEl9_218 10 fEl9_220)] H := hP
        have hD : va_D A [(zo13rrirrrr h0 sc kp ik bl go ch bo), (zo10ririliiriririr sc aTp (nI ts) aHl (nI nh) ed mi sn aHs (nI n) aWk (nI wz) aBk (nI bz) aFc), (zaR aHs cHs 8 fHs), (zo1iri bo mdc9_216 aEl9_217 (nI sz_9_219)), (zaR aEl9_217 cEl9_218 10 fEl9_220)] := hD
        have hK : va_K (dC, dI) vwCl [(cHs, .object "MistHeaps$Heap"), (cEl9_218, .object "java/lang/Object")] s := hK
        refine W.widen (k := 1) (n := 10) (by omega) (by omega) ?_
        obtain ⟨er_221, e_222, hL_223⟩ := hw_215
        obtain rfl := (e_222).symm
        subst er_221
        have hk := hpT_k4 (zyt j_6 (by omega)) e_153
        rw [hQ]
        have hP9 := hP.sub (ws' := [(zo13rrirrrr h0 sc kp ik bl go ch bo), (zo10ririliiriririr sc aTp (nI ts) aHl (nI nh) ed mi sn aHs (nI n) aWk (nI wz) aBk (nI bz) aFc), (zaR aHs cHs 8 fHs), (zo1iri bo mdc9_216 aEl9_217 (nI 7)), (zaR aEl9_217 cEl9_218 10 fEl9_220)]) [0, 1, 2, 3, 4] rfl
        have hD9 := hD.sub (ws' := [(zo13rrirrrr h0 sc kp ik bl go ch bo), (zo10ririliiriririr sc aTp (nI ts) aHl (nI nh) ed mi sn aHs (nI n) aWk (nI wz) aBk (nI bz) aFc), (zaR aHs cHs 8 fHs), (zo1iri bo mdc9_216 aEl9_217 (nI 7)), (zaR aEl9_217 cEl9_218 10 fEl9_220)]) [0, 1, 2, 3, 4] (by decide) rfl
        have hK9 := hK.sub (tys' := [(cHs, .object "MistHeaps$Heap"), (cEl9_218, .object "java/lang/Object")]) [0, 1] rfl
        refine W.widen (k := 1) (n := 10) (by omega) (by omega) ?_
        exact W.iret (v := ((((z - 1) * 3 + nI j_6) - (yv j_6)) * 2) + (2 * 3 + nI j_6)) hx hb hr (fun tQ htQ hWQ => ⟨⟨(((((z - 1) * 3 + nI j_6) - (yv j_6)) * 2) + (2 * 3 + nI j_6)), ([(zo1iri bo mdc9_216 aEl9_217 (nI 7)), (zaR aEl9_217 cEl9_218 10 fEl9_220)], [(cEl9_218, .object "java/lang/Object")]), rfl, ⟨(kL4 (m := nI j_6) (v := yv j_6) (x := z) hk).1.trans (ac_2 (n := n) (yk := yk) (yv := yv) (j := j_6) (y := y) (z := z) hn8 (by omega) (by assumption)).1, Or.inr ⟨_, _, _, _, _, rfl, rfl, by omega, by rw [(ac_2 (n := n) (yk := yk) (yv := yv) (j := j_6) (y := y) (z := z) hn8 (by omega) (by assumption)).2, (kL4 (m := nI j_6) (v := yv j_6) (x := z) hk).2]; exact hL_223⟩⟩, by rw [htQ]; exact hP9, va_K.moved hWQ.alike hK9, hD9⟩, hS.F htQ⟩) hS.2.2 dX11_act_84
    refine lv_tableOut (tgt := 85) hx hb dX11_act_25 (sw_out 0 2 y (fun k hk => by
      match k, hk with
      | 0, _ => exact c_10_0
      | 1, _ => exact c_10_1
      | 2, _ => exact c_10_2
      | k + 3, hk => exact absurd hk (by omega))) (by decide) ?_
    refine lv_iconst (v := 0) hx hb dX11_act_85 (by decide) ?_
    rw [hQ]
    have hP9 := hP.sub (ws' := [(zo13rrirrrr h0 sc kp ik bl go ch bo), (zo10ririliiriririr sc aTp (nI ts) aHl (nI nh) ed mi sn aHs (nI n) aWk (nI wz) aBk (nI bz) aFc), (zaR aHs cHs 8 fHs), (zo1iri bo mdc9_3 bS 0)]) [0, 1, 2, 3] rfl
    have hD9 := hD.sub (ws' := [(zo13rrirrrr h0 sc kp ik bl go ch bo), (zo10ririliiriririr sc aTp (nI ts) aHl (nI nh) ed mi sn aHs (nI n) aWk (nI wz) aBk (nI bz) aFc), (zaR aHs cHs 8 fHs), (zo1iri bo mdc9_3 bS 0)]) [0, 1, 2, 3] (by decide) rfl
    have hK9 := hK.sub (tys' := [(cHs, .object "MistHeaps$Heap")]) [0] rfl
    refine W.widen (k := 1) (n := 10) (by omega) (by omega) ?_
    exact W.iret (v := 0) hx hb hr (fun tQ htQ hWQ => ⟨⟨0, ([(zo1iri bo mdc9_3 bS 0)], []), rfl, ⟨(ac_bad (n := n) (yk := yk) (yv := yv) (j := j_6) (y := y) (z := z) (by omega) (by assumption) (by assumption) (by assumption)).1, Or.inl ⟨_, rfl, rfl, (ac_bad (n := n) (yk := yk) (yv := yv) (j := j_6) (y := y) (z := z) (by omega) (by assumption) (by assumption) (by assumption)).2⟩⟩, by rw [htQ]; exact hP9, va_K.moved hWQ.alike hK9, hD9⟩, hS.F htQ⟩) hS.2.2 dX11_act_86
  · skip
    refine qq_as (v := .null) rfl ?_
    refine lv_astoreN (lv' := [(4, .null), (0, .ref h0), (1, .int x), (2, .int y), (3, .int z)]) hx hb dX11_act_15 hl (by decide) rfl (fun ls hl => ?_)
    refine lv_aloadN hx hb dX11_act_17 (lv_at hl 0 rfl) ?_
    refine lv_ifnonnullN hx hb dX11_act_19 ?_
    refine lv_iconst (v := 0) hx hb dX11_act_22 (by decide) ?_
    rw [hQ]
    have hP9 := hP.sub (ws' := [(zo13rrirrrr h0 sc kp ik bl go ch bo), (zo10ririliiriririr sc aTp (nI ts) aHl (nI nh) ed mi sn aHs (nI n) aWk (nI wz) aBk (nI bz) aFc), (zaR aHs cHs 8 fHs), (zo1iri bo mdc9_3 bS 0)]) [0, 1, 2, 3] rfl
    have hD9 := hD.sub (ws' := [(zo13rrirrrr h0 sc kp ik bl go ch bo), (zo10ririliiriririr sc aTp (nI ts) aHl (nI nh) ed mi sn aHs (nI n) aWk (nI wz) aBk (nI bz) aFc), (zaR aHs cHs 8 fHs), (zo1iri bo mdc9_3 bS 0)]) [0, 1, 2, 3] (by decide) rfl
    have hK9 := hK.sub (tys' := [(cHs, .object "MistHeaps$Heap")]) [0] rfl
    refine W.widen (k := 1) (n := 10) (by omega) (by omega) ?_
    exact W.iret (v := 0) hx hb hr (fun tQ htQ hWQ => ⟨⟨0, ([(zo1iri bo mdc9_3 bS 0)], []), rfl, ⟨(ac_no (n := n) (yk := yk) (yv := yv) (x := x) (y := y) (z := z) (by assumption)).1, Or.inl ⟨_, rfl, rfl, (ac_no (n := n) (yk := yk) (yv := yv) (x := x) (y := y) (z := z) (by assumption)).2⟩⟩, by rw [htQ]; exact hP9, va_K.moved hWQ.alike hK9, hD9⟩, hS.F htQ⟩) hS.2.2 dX11_act_23
