theorem ggX11_where_X2_measure : GoodIn wsX11_where wsX2_measure := gga_of 692 rfl rfl rfl
theorem gX11_where_X2_measure : GoodIn wsX11_where (wsV RX11 131 RX2 yX2_measure wsX2_measure) := goodIn_app (ggh_of [689, 690, 691, 66] rfl rfl rfl) ggX11_where_X2_measure
theorem ggX11_where_X2_seenFrom : GoodIn wsX11_where wsX2_seenFrom := gga_of 697 rfl rfl rfl
theorem gX11_where_X2_seenFrom : GoodIn wsX11_where (wsV RX11 135 RX2 yX2_seenFrom wsX2_seenFrom) := goodIn_app (ggh_of [694, 695, 696, 66] rfl rfl rfl) ggX11_where_X2_seenFrom
noncomputable def dk18b09pub_cX11_where_0 : List (Nat × Instr × Nat) := [(0, .iload_n 1, 1), (1, .ifCond .lt 16, 3), (17, .ldc2_w 139, 3), (20, .lreturn, 1), (4, .iload_n 1, 1), (5, .iconst 1, 1), (6, .aload_n 0, 1), (7, .getfield 14, 3), (10, .getfield 101, 3), (13, .ishl, 1), (14, .if_icmp .lt 7, 3), (21, .aload_n 0, 1), (22, .getfield 35, 3), (25, .aload_n 0, 1), (26, .getfield 14, 3), (29, .aload_n 0, 1), (30, .getfield 14, 3), (33, .getfield 88, 3), (36, .invokevirtual 131, 3), (39, .lconst 0, 1), (40, .lstore_n 2, 1), (41, .iconst 0, 1), (42, .istore 4, 2), (44, .iload 4, 2), (46, .bipush 36, 2), (48, .if_icmp .ge 33, 3), (81, .lload_n 2, 1), (82, .lreturn, 1), (51, .aload_n 0, 1), (52, .getfield 35, 3), (55, .aload_n 0, 1), (56, .getfield 14, 3), (59, .iload 4, 2), (61, .invokevirtual 135, 3), (64, .iload_n 1, 1), (65, .if_icmp .ne 10, 3), (75, .iinc 4 1, 3), (78, .goto (-34), 3), (68, .lload_n 2, 1), (69, .lconst 1, 1)]
set_option maxRecDepth 100000 in
theorem dk18b09pub_cX11_where_0_a : dkA cX11_where dk18b09pub_cX11_where_0 = true := by decide +kernel
theorem dX11_where_0 : decode cX11_where 0 = .ok (.iload_n 1, 1) := dkAt dk18b09pub_cX11_where_0_a 0 rfl
theorem dX11_where_1 : decode cX11_where 1 = .ok (.ifCond .lt 16, 3) := dkAt dk18b09pub_cX11_where_0_a 1 rfl
theorem dX11_where_17 : decode cX11_where 17 = .ok (.ldc2_w 139, 3) := dkAt dk18b09pub_cX11_where_0_a 2 rfl
theorem dX11_where_20 : decode cX11_where 20 = .ok (.lreturn, 1) := dkAt dk18b09pub_cX11_where_0_a 3 rfl
theorem dX11_where_4 : decode cX11_where 4 = .ok (.iload_n 1, 1) := dkAt dk18b09pub_cX11_where_0_a 4 rfl
theorem dX11_where_5 : decode cX11_where 5 = .ok (.iconst 1, 1) := dkAt dk18b09pub_cX11_where_0_a 5 rfl
theorem dX11_where_6 : decode cX11_where 6 = .ok (.aload_n 0, 1) := dkAt dk18b09pub_cX11_where_0_a 6 rfl
theorem dX11_where_7 : decode cX11_where 7 = .ok (.getfield 14, 3) := dkAt dk18b09pub_cX11_where_0_a 7 rfl
theorem dX11_where_10 : decode cX11_where 10 = .ok (.getfield 101, 3) := dkAt dk18b09pub_cX11_where_0_a 8 rfl
theorem dX11_where_13 : decode cX11_where 13 = .ok (.ishl, 1) := dkAt dk18b09pub_cX11_where_0_a 9 rfl
theorem dX11_where_14 : decode cX11_where 14 = .ok (.if_icmp .lt 7, 3) := dkAt dk18b09pub_cX11_where_0_a 10 rfl
theorem dX11_where_21 : decode cX11_where 21 = .ok (.aload_n 0, 1) := dkAt dk18b09pub_cX11_where_0_a 11 rfl
theorem dX11_where_22 : decode cX11_where 22 = .ok (.getfield 35, 3) := dkAt dk18b09pub_cX11_where_0_a 12 rfl
theorem dX11_where_25 : decode cX11_where 25 = .ok (.aload_n 0, 1) := dkAt dk18b09pub_cX11_where_0_a 13 rfl
theorem dX11_where_26 : decode cX11_where 26 = .ok (.getfield 14, 3) := dkAt dk18b09pub_cX11_where_0_a 14 rfl
theorem dX11_where_29 : decode cX11_where 29 = .ok (.aload_n 0, 1) := dkAt dk18b09pub_cX11_where_0_a 15 rfl
theorem dX11_where_30 : decode cX11_where 30 = .ok (.getfield 14, 3) := dkAt dk18b09pub_cX11_where_0_a 16 rfl
theorem dX11_where_33 : decode cX11_where 33 = .ok (.getfield 88, 3) := dkAt dk18b09pub_cX11_where_0_a 17 rfl
theorem dX11_where_36 : decode cX11_where 36 = .ok (.invokevirtual 131, 3) := dkAt dk18b09pub_cX11_where_0_a 18 rfl
theorem dX11_where_39 : decode cX11_where 39 = .ok (.lconst 0, 1) := dkAt dk18b09pub_cX11_where_0_a 19 rfl
theorem dX11_where_40 : decode cX11_where 40 = .ok (.lstore_n 2, 1) := dkAt dk18b09pub_cX11_where_0_a 20 rfl
theorem dX11_where_41 : decode cX11_where 41 = .ok (.iconst 0, 1) := dkAt dk18b09pub_cX11_where_0_a 21 rfl
theorem dX11_where_42 : decode cX11_where 42 = .ok (.istore 4, 2) := dkAt dk18b09pub_cX11_where_0_a 22 rfl
theorem dX11_where_44 : decode cX11_where 44 = .ok (.iload 4, 2) := dkAt dk18b09pub_cX11_where_0_a 23 rfl
theorem dX11_where_46 : decode cX11_where 46 = .ok (.bipush 36, 2) := dkAt dk18b09pub_cX11_where_0_a 24 rfl
theorem dX11_where_48 : decode cX11_where 48 = .ok (.if_icmp .ge 33, 3) := dkAt dk18b09pub_cX11_where_0_a 25 rfl
theorem dX11_where_81 : decode cX11_where 81 = .ok (.lload_n 2, 1) := dkAt dk18b09pub_cX11_where_0_a 26 rfl
theorem dX11_where_82 : decode cX11_where 82 = .ok (.lreturn, 1) := dkAt dk18b09pub_cX11_where_0_a 27 rfl
theorem dX11_where_51 : decode cX11_where 51 = .ok (.aload_n 0, 1) := dkAt dk18b09pub_cX11_where_0_a 28 rfl
theorem dX11_where_52 : decode cX11_where 52 = .ok (.getfield 35, 3) := dkAt dk18b09pub_cX11_where_0_a 29 rfl
theorem dX11_where_55 : decode cX11_where 55 = .ok (.aload_n 0, 1) := dkAt dk18b09pub_cX11_where_0_a 30 rfl
theorem dX11_where_56 : decode cX11_where 56 = .ok (.getfield 14, 3) := dkAt dk18b09pub_cX11_where_0_a 31 rfl
theorem dX11_where_59 : decode cX11_where 59 = .ok (.iload 4, 2) := dkAt dk18b09pub_cX11_where_0_a 32 rfl
theorem dX11_where_61 : decode cX11_where 61 = .ok (.invokevirtual 135, 3) := dkAt dk18b09pub_cX11_where_0_a 33 rfl
theorem dX11_where_64 : decode cX11_where 64 = .ok (.iload_n 1, 1) := dkAt dk18b09pub_cX11_where_0_a 34 rfl
theorem dX11_where_65 : decode cX11_where 65 = .ok (.if_icmp .ne 10, 3) := dkAt dk18b09pub_cX11_where_0_a 35 rfl
theorem dX11_where_75 : decode cX11_where 75 = .ok (.iinc 4 1, 3) := dkAt dk18b09pub_cX11_where_0_a 36 rfl
theorem dX11_where_78 : decode cX11_where 78 = .ok (.goto (-34), 3) := dkAt dk18b09pub_cX11_where_0_a 37 rfl
theorem dX11_where_68 : decode cX11_where 68 = .ok (.lload_n 2, 1) := dkAt dk18b09pub_cX11_where_0_a 38 rfl
theorem dX11_where_69 : decode cX11_where 69 = .ok (.lconst 1, 1) := dkAt dk18b09pub_cX11_where_0_a 39 rfl
noncomputable def dk18b09pub_cX11_where_40 : List (Nat × Instr × Nat) := [(70, .iload 4, 2), (72, .lshl, 1), (73, .lor, 1), (74, .lstore_n 2, 1)]
set_option maxRecDepth 100000 in
theorem dk18b09pub_cX11_where_40_a : dkA cX11_where dk18b09pub_cX11_where_40 = true := by decide +kernel
theorem dX11_where_70 : decode cX11_where 70 = .ok (.iload 4, 2) := dkAt dk18b09pub_cX11_where_40_a 0 rfl
theorem dX11_where_72 : decode cX11_where 72 = .ok (.lshl, 1) := dkAt dk18b09pub_cX11_where_40_a 1 rfl
theorem dX11_where_73 : decode cX11_where 73 = .ok (.lor, 1) := dkAt dk18b09pub_cX11_where_40_a 2 rfl
theorem dX11_where_74 : decode cX11_where 74 = .ok (.lstore_n 2, 1) := dkAt dk18b09pub_cX11_where_40_a 3 rfl
theorem kc_xWhere_0 : (.constantLong RX11 139 (-9223372036854775808) : Cond) ∈ wsX11_where := kc_of 711 rfl rfl rfl
theorem kc_xWhere_1 : ∀ w ∈ wsX110, w ∈ wsX11_where := fun w h => List.mem_cons_of_mem _ (gin_wsX110 w h)
theorem kc_xWhere_2 : (.fieldLink RX11 14 "MistHeaps" "scene" "LMistHeaps$Scene;" : Cond) ∈ wsX11_where := kc_of 328 rfl rfl rfl
theorem kc_xWhere_3 : ∀ w ∈ wsX80, w ∈ wsX11_where := fun w h => List.mem_cons_of_mem _ (gin_wsX80 w h)
theorem kc_xWhere_4 : (.fieldLink RX11 101 "MistHeaps$Scene" "heapCount" "I" : Cond) ∈ wsX11_where := kc_of 173 rfl rfl rfl
theorem kc_xWhere_5 : (.fieldLink RX11 35 "MistHeaps" "goings" "LMistHeaps$Goings;" : Cond) ∈ wsX11_where := kc_of 332 rfl rfl rfl
theorem kc_xWhere_6 : (.fieldLink RX11 88 "MistHeaps$Scene" "snow" "I" : Cond) ∈ wsX11_where := kc_of 166 rfl rfl rfl
set_option maxHeartbeats 4000000 in
set_option maxRecDepth 100000 in
theorem c_xWhere (l : Launch) (dC : Nat → ClassId) (dI : Nat → Nat → Nat) (gd : Nat → Nat)    (h0 : Nat) (sc : Nat) (kp : Nat) (bl : Nat) (go : Nat) (ch : Nat) (bo : Nat) (aTp : Nat) (aHl : Nat) (aHs : Nat) (aWk : Nat) (aBk : Nat) (aFc : Nat) (bW : Nat) (bA : Nat) (bE : Nat) (bC : Nat) (gR : Nat) (gO : Nat) (gS : Nat) (ts : Nat) (nh : Nat) (n : Nat) (wz : Nat) (bz : Nat) (lk : Nat) (cl : Nat) (mi : Int32) (sn : Int32) (sg : Int32) (cdd : Int32) (szz : Int32) (att : Int32) (nmb : Int32) (ik : Int32) (x : Int32) (ed : Int64) (cHs : ClassId) (cFc : ClassId) (cbW : ClassId) (cbA : ClassId) (cbE : ClassId) (cbC : ClassId) (cR : ClassId) (fFc : Nat → Int32) (fbW : Nat → Int32) (fbA : Nat → Int32) (fbE : Nat → Int32) (fbC : Nat → Int32) (fR : Nat → Int32) (yk : Nat → Int32) (yv : Nat → Int32) (yc : Nat → Int32) (fHs : Nat → Option Nat) (yi : Nat → Nat) (ya : Nat → Nat) (tpv : Value) (cz : List pCla) (sz : Nat) (zhs : ∀ k0, k0 < n → fHs k0 = some (ya k0)) (hn8 : n ≤ 8) (zcl : cl ≤ 10) (zE : ∀ k0, k0 < 10 → ∃ e0 : Nat, e0 ≤ 100 ∧ fbE k0 = nI e0) (zC : ∀ k0, k0 < 100 → okC (fbC k0)) (zHC : HC cl sg fbW fbA fbE fbC cz ∧ WfC cz) (zyt : ∀ k0, k0 < n → hpT (yi k0) (yk k0)) : Met l yX11_where wsX11_where ({ frames := 6, cells := 0, slots := 0, locals := 125 } : Room) (va_Pc [.ref h0, .int x] (fun U => U.heap.size = sz ∧ va_P (dC, dI) vwCl [(zo13rrirrrr h0 sc kp ik bl go ch bo), (zo4rrir go gR gO (nI lk) gS), (zaI gR cR 8 fR), (zo10ririliiriririr sc aTp (nI ts) aHl (nI nh) ed mi sn aHs (nI n) aWk (nI wz) aBk (nI bz) aFc), (zaR aHs cHs 8 fHs), (zaI aFc cFc 6 fFc)] U.heap ∧ va_K (dC, dI) vwCl [(cR, .int), (cHs, .object "MistHeaps$Heap"), (cFc, .int)] U ∧ va_D (fun _ => True) [(zo13rrirrrr h0 sc kp ik bl go ch bo), (zo4rrir go gR gO (nI lk) gS), (zaI gR cR 8 fR), (zo10ririliiriririr sc aTp (nI ts) aHl (nI nh) ed mi sn aHs (nI n) aWk (nI wz) aBk (nI bz) aFc), (zaR aHs cHs 8 fHs), (zaI aFc cFc 6 fFc)] ∧ Gl gd (va_A [(zo13rrirrrr h0 sc kp ik bl go ch bo), (zo4rrir go gR gO (nI lk) gS), (zaI gR cR 8 fR), (zo10ririliiriririr sc aTp (nI ts) aHl (nI nh) ed mi sn aHs (nI n) aWk (nI wz) aBk (nI bz) aFc), (zaR aHs cHs 8 fHs), (zaI aFc cFc 6 fFc)] sz) U ∧ Gw (va_A [(zo13rrirrrr h0 sc kp ik bl go ch bo), (zo4rrir go gR gO (nI lk) gS), (zaI gR cR 8 fR), (zo10ririliiriririr sc aTp (nI ts) aHl (nI nh) ed mi sn aHs (nI n) aWk (nI wz) aBk (nI bz) aFc), (zaR aHs cHs 8 fHs), (zaI aFc cFc 6 fFc)] sz) U ∧ Fz dC dI [(zo7iirrrriviii aHl sg (nI cl) bW bA bE bC cdd tpv szz att nmb), (zaI bW cbW 10 fbW), (zaI bA cbA 10 fbA), (zaI bE cbE 10 fbE), (zaI bC cbC 100 fbC)] [(cbW, .int), (cbA, .int), (cbE, .int), (cbC, .int)] (va_A [(zo13rrirrrr h0 sc kp ik bl go ch bo), (zo4rrir go gR gO (nI lk) gS), (zaI gR cR 8 fR), (zo10ririliiriririr sc aTp (nI ts) aHl (nI nh) ed mi sn aHs (nI n) aWk (nI wz) aBk (nI bz) aFc), (zaR aHs cHs 8 fHs), (zaI aFc cFc 6 fFc)] sz) U ∧ Hs dC dI n yi ya yk yv yc (va_A [(zo13rrirrrr h0 sc kp ik bl go ch bo), (zo4rrir go gR gO (nI lk) gS), (zaI gR cR 8 fR), (zo10ririliiriririr sc aTp (nI ts) aHl (nI nh) ed mi sn aHs (nI n) aWk (nI wz) aBk (nI bz) aFc), (zaR aHs cHs 8 fHs), (zaI aFc cFc 6 fFc)] sz) U)) (va_Ql (fun (r : Int64) (u : (Nat → Int32) × (Nat → Int32)) => match u with | (fR9, fFc9) => r = whR n yk yv yc cz mi sn x) (fun (u : (Nat → Int32) × (Nat → Int32)) (t : State) => match u with | (fR9, fFc9) => va_P (dC, dI) vwCl [(zo13rrirrrr h0 sc kp ik bl go ch bo), (zo4rrir go gR gO (nI lk) gS), (zaI gR cR 8 fR9), (zo10ririliiriririr sc aTp (nI ts) aHl (nI nh) ed mi sn aHs (nI n) aWk (nI wz) aBk (nI bz) aFc), (zaR aHs cHs 8 fHs), (zaI aFc cFc 6 fFc9)] t.heap ∧ va_K (dC, dI) vwCl [(cR, .int), (cHs, .object "MistHeaps$Heap"), (cFc, .int)] t ∧ va_D (va_A [(zo13rrirrrr h0 sc kp ik bl go ch bo), (zo4rrir go gR gO (nI lk) gS), (zaI gR cR 8 fR), (zo10ririliiriririr sc aTp (nI ts) aHl (nI nh) ed mi sn aHs (nI n) aWk (nI wz) aBk (nI bz) aFc), (zaR aHs cHs 8 fHs), (zaI aFc cFc 6 fFc)] sz) [(zo13rrirrrr h0 sc kp ik bl go ch bo), (zo4rrir go gR gO (nI lk) gS), (zaI gR cR 8 fR9), (zo10ririliiriririr sc aTp (nI ts) aHl (nI nh) ed mi sn aHs (nI n) aWk (nI wz) aBk (nI bz) aFc), (zaR aHs cHs 8 fHs), (zaI aFc cFc 6 fFc9)]) (va_A [(zo13rrirrrr h0 sc kp ik bl go ch bo), (zo4rrir go gR gO (nI lk) gS), (zaI gR cR 8 fR), (zo10ririliiriririr sc aTp (nI ts) aHl (nI nh) ed mi sn aHs (nI n) aWk (nI wz) aBk (nI bz) aFc), (zaR aHs cHs 8 fHs), (zaI aFc cFc 6 fFc)] sz)) 0 0 (va_A [(zo13rrirrrr h0 sc kp ik bl go ch bo), (zo4rrir go gR gO (nI lk) gS), (zaI gR cR 8 fR), (zo10ririliiriririr sc aTp (nI ts) aHl (nI nh) ed mi sn aHs (nI n) aWk (nI wz) aBk (nI bz) aFc), (zaR aHs cHs 8 fHs), (zaI aFc cFc 6 fFc)] sz) := by
  refine met_ofQ (cc := cX11_where) (maxL := 5) (ret := (some .long)) (by decide) rfl ?_
  intro p e s m args below meth c s₁ Q B hml hv hQ
  obtain ⟨rfl, hsz, hP, hK, hD0, hG, hW_, hZ, hH_⟩ := hv
  have hx := B.exec
  have hb := B.bytes
  have hr := B.returns
  have hts := atoms_spec (ws := wsX11_where) B.pre
  have hown : s.vm.findClass RX11 = some m.cls := findClass_of_methodNamed B.named
  have hlocks := B.notSynchronized
  subst hsz
  have hD := hD0.self (sz := s.heap.size)
  generalize hAe : va_A [(zo13rrirrrr h0 sc kp ik bl go ch bo), (zo4rrir go gR gO (nI lk) gS), (zaI gR cR 8 fR), (zo10ririliiriririr sc aTp (nI ts) aHl (nI nh) ed mi sn aHs (nI n) aWk (nI wz) aBk (nI bz) aFc), (zaR aHs cHs 8 fHs), (zaI aFc cFc 6 fFc)] s.heap.size = A at hD hQ hG hW_ hZ hH_ ⊢
  have hA : ∀ q : Nat, s.heap.size ≤ q → A q := fun q h => by rw [← hAe]; exact Or.inr h
  have hS : va_S A s.heap s.heap [] := va_S.rf
  have hl := lv_entry [.ref h0, .int x] (n := 5) (Nat.le_of_ble_eq_true rfl)
  rw [lg_entry_eq]
  generalize (lg_sl [.ref h0, .int x] ++ List.replicate (5 - (lg_sl [.ref h0, .int x]).length) Slot.unset).toArray = ls at hl ⊢
  generalize hag : ([.ref h0, .int x] : List Value).toArray = args at hts hQ ⊢
  have hl : lv_has ls 5 [(0, .ref h0), (1, .int x)] := hl
  obtain ⟨H, hH⟩ : ∃ H : Heap, H = s.heap := ⟨_, rfl⟩
  rw [← hH] at hP
  rw [← hH]
  have hS : va_S A s.heap H [] := by rw [hH]; exact hS
  obtain ⟨locs, hlo⟩ : ∃ L : List Loc, L = [] := ⟨_, rfl⟩
  rw [← hlo] at hS
  rw [← hlo]
  clear hH hlo
  refine lv_iload_n hx hb dX11_where_0 rfl (lv_at hl 1 rfl) ?_
  refine lv_if_lt (tgt := 17) hx hb dX11_where_1 (by decide) (fun c_1 => ?_) (fun c_1 => ?_)
  · skip
    refine lv_ldc2 (v := (-9223372036854775808)) hx hb hown (hts (.constantLong RX11 139 (-9223372036854775808)) kc_xWhere_0) dX11_where_17 ?_
    rw [hQ]
    have hP9 := hP.sub (ws' := [(zo13rrirrrr h0 sc kp ik bl go ch bo), (zo4rrir go gR gO (nI lk) gS), (zaI gR cR 8 fR), (zo10ririliiriririr sc aTp (nI ts) aHl (nI nh) ed mi sn aHs (nI n) aWk (nI wz) aBk (nI bz) aFc), (zaR aHs cHs 8 fHs), (zaI aFc cFc 6 fFc)]) [0, 1, 2, 3, 4, 5] rfl
    have hD9 := hD.sub (ws' := [(zo13rrirrrr h0 sc kp ik bl go ch bo), (zo4rrir go gR gO (nI lk) gS), (zaI gR cR 8 fR), (zo10ririliiriririr sc aTp (nI ts) aHl (nI nh) ed mi sn aHs (nI n) aWk (nI wz) aBk (nI bz) aFc), (zaR aHs cHs 8 fHs), (zaI aFc cFc 6 fFc)]) [0, 1, 2, 3, 4, 5] (by decide) rfl
    have hK9 := hK.sub (tys' := [(cR, .int), (cHs, .object "MistHeaps$Heap"), (cFc, .int)]) [0, 1, 2] rfl
    exact W.lret (v := (-9223372036854775808)) hx hb hr (fun tQ htQ hWQ => ⟨⟨(-9223372036854775808), (fR, fFc), rfl, by first | exact wh_a (by assumption) | exact wh_c hn8 (by assumption) (by assumption), by rw [htQ]; exact hP9, va_K.moved hWQ.alike hK9, hD9⟩, hS.F htQ⟩) hS.2.2 dX11_where_20
  · skip
    refine lv_iload_n hx hb dX11_where_4 rfl (lv_at hl 1 rfl) ?_
    refine lv_iconst (v := 1) hx hb dX11_where_5 (by decide) ?_
    refine lv_aload_n hx hb dX11_where_6 rfl (lv_at hl 0 rfl) ?_
    refine va_get (D := (dC, dI)) (ci := 13) (v := .ref sc) (C := RX11) (T := TX11) (N := 7) hx hb hts kc_xWhere_1 hown hK hP 0 rfl rfl 0 (by decide) (hts (.fieldLink RX11 14 "MistHeaps" "scene" "LMistHeaps$Scene;") kc_xWhere_2) (fun _ h9 => h9) rfl dX11_where_7 ?_
    refine va_get (D := (dC, dI)) (ci := 10) (v := .int (nI n)) (C := RX8) (T := TX8) (N := 14) hx hb hts kc_xWhere_3 hown hK hP 3 rfl rfl 8 (by decide) (hts (.fieldLink RX11 101 "MistHeaps$Scene" "heapCount" "I") kc_xWhere_4) (fun _ h9 => h9) rfl dX11_where_10 ?_
    refine lv_ishl hx hb dX11_where_13 ?_
    refine lv_icmp_lt (tgt := 21) hx hb dX11_where_14 (by decide) (fun c_2 => ?_) (fun c_2 => ?_)
    · skip
      refine lv_aload_n hx hb dX11_where_21 rfl (lv_at hl 0 rfl) ?_
      refine va_get (D := (dC, dI)) (ci := 13) (v := .ref go) (C := RX11) (T := TX11) (N := 7) hx hb hts kc_xWhere_1 hown hK hP 0 rfl rfl 4 (by decide) (hts (.fieldLink RX11 35 "MistHeaps" "goings" "LMistHeaps$Goings;") kc_xWhere_5) (fun _ h9 => h9) rfl dX11_where_22 ?_
      refine lv_aload_n hx hb dX11_where_25 rfl (lv_at hl 0 rfl) ?_
      refine va_get (D := (dC, dI)) (ci := 13) (v := .ref sc) (C := RX11) (T := TX11) (N := 7) hx hb hts kc_xWhere_1 hown hK hP 0 rfl rfl 0 (by decide) (hts (.fieldLink RX11 14 "MistHeaps" "scene" "LMistHeaps$Scene;") kc_xWhere_2) (fun _ h9 => h9) rfl dX11_where_26 ?_
      refine lv_aload_n hx hb dX11_where_29 rfl (lv_at hl 0 rfl) ?_
      refine va_get (D := (dC, dI)) (ci := 13) (v := .ref sc) (C := RX11) (T := TX11) (N := 7) hx hb hts kc_xWhere_1 hown hK hP 0 rfl rfl 0 (by decide) (hts (.fieldLink RX11 14 "MistHeaps" "scene" "LMistHeaps$Scene;") kc_xWhere_2) (fun _ h9 => h9) rfl dX11_where_30 ?_
      refine va_get (D := (dC, dI)) (ci := 10) (v := .int sn) (C := RX8) (T := TX8) (N := 14) hx hb hts kc_xWhere_3 hown hK hP 3 rfl rfl 6 (by decide) (hts (.fieldLink RX11 88 "MistHeaps$Scene" "snow" "I") kc_xWhere_6) (fun _ h9 => h9) rfl dX11_where_33 ?_
      have hPc := hP.sub (ws' := [(zo4rrir go gR gO (nI lk) gS), (zaI gR cR 8 fR), (zo10ririliiriririr sc aTp (nI ts) aHl (nI nh) ed mi sn aHs (nI n) aWk (nI wz) aBk (nI bz) aFc), (zaR aHs cHs 8 fHs), (zaI aFc cFc 6 fFc)]) [1, 2, 3, 4, 5] rfl
      have hDc := hD.sub (ws' := [(zo4rrir go gR gO (nI lk) gS), (zaI gR cR 8 fR), (zo10ririliiriririr sc aTp (nI ts) aHl (nI nh) ed mi sn aHs (nI n) aWk (nI wz) aBk (nI bz) aFc), (zaR aHs cHs 8 fHs), (zaI aFc cFc 6 fFc)]) [1, 2, 3, 4, 5] (by decide) rfl
      have hKc := hK.sub (tys' := [(cR, .int), (cHs, .object "MistHeaps$Heap"), (cFc, .int)]) [0, 1, 2] rfl
      have hFc := va_free (wc := [(zo4rrir go gR gO (nI lk) gS), (zaI gR cR 8 fR), (zo10ririliiriririr sc aTp (nI ts) aHl (nI nh) ed mi sn aHs (nI n) aWk (nI wz) aBk (nI bz) aFc), (zaR aHs cHs 8 fHs), (zaI aFc cFc 6 fFc)]) hD hS hA [1, 2, 3, 4, 5] rfl
      refine va_callv (va_runV (As := [.ref sc, .int sn]) (rest := []) ⟨hx, hb, hml, hown, hts⟩ (c_measure l dC dI gd    sc go aTp aHl aHs aWk aBk aFc bW bA bE bC gR gO gS ts nh n wz bz lk cl mi sn sg cdd szz att nmb sn ed cHs cFc cbW cbA cbE cbC cR fFc fbW fbA fbE fbC fR yk yv yc fHs yi ya tpv cz H.size (zhs) (hn8) (zcl) (zE) (zC) (zHC) (zyt)) (cwV 2 hts gX11_where_X2_measure rfl rfl rfl hd_yX2_measure ⟨Nat.le_of_ble_eq_true rfl, Nat.le_of_ble_eq_true rfl⟩) ⟨fun a U g mk q => by obtain ⟨q0, q1, qP, qK, qD, qhG, qhW_, qhZ, qhH_⟩ := q; exact ⟨q0, q1, qP, va_K.moved (u := U) (U := U.calling g mk a) (Vm.Alike.refl U.vm) qK, qD, qhG.same rfl rfl, qhW_.same rfl rfl, qhZ.same rfl rfl, qhH_.same rfl rfl⟩, va_recv hK hP (ci := 4) (q := (RX2, TX2, 4)) (q0 := 1) rfl rfl, fun U hU hW => ⟨rfl, by rw [hU], by rw [hU]; exact hPc, va_K.moved hW.alike hKc, hDc.weaken (fun _ _ _ _ => trivial), hG.call hS hU hW (fun q h => hFc q h), hW_.call hS hU hW (fun q h => hFc q h), (hZ.sub [0, 1, 2, 3, 4] [0, 1, 2, 3] rfl rfl).call hS hU hW (fun q h => hFc q h), hH_.call hS hU hW (fun q h => hFc q h)⟩⟩ rfl rfl hl.1 rfl (lv_room (Nat.le_of_ble_eq_true rfl)) dX11_where_36 ⟨Nat.le_of_ble_eq_true rfl, Nat.le_of_ble_eq_true rfl⟩) hS (fun q _ h => hFc q h) hFc (fun u tC H1 locs htC hvm hw_4 hB hz1 hk1 hS => ?_)
      obtain ⟨fR9_5, fFc9_6⟩ := u
      try dsimp only at hw_4 hB
      obtain ⟨hP1, hK1, hD1⟩ := hB
      rw [htC] at hP1
      have hK1 := va_K.moved hvm.symm hK1
      obtain ⟨hP, hD⟩ := va_join (wr := [(zo13rrirrrr h0 sc kp ik bl go ch bo)]) (w1 := [(zo4rrir go gR gO (nI lk) gS), (zaI gR cR 8 fR9_5), (zo10ririliiriririr sc aTp (nI ts) aHl (nI nh) ed mi sn aHs (nI n) aWk (nI wz) aBk (nI bz) aFc), (zaR aHs cHs 8 fHs), (zaI aFc cFc 6 fFc9_6)]) hP hD [1, 2, 3, 4, 5] [0] rfl rfl (by decide) (by decide) hk1 hFc hP1 hD1
      have hK := (hK.sub (tys' := []) [] rfl).app hK1
      generalize H1 = H at hP hS ⊢
      have hP : va_P (dC, dI) vwCl [(zo13rrirrrr h0 sc kp ik bl go ch bo), (zo4rrir go gR gO (nI lk) gS), (zaI gR cR 8 fR9_5), (zo10ririliiriririr sc aTp (nI ts) aHl (nI nh) ed mi sn aHs (nI n) aWk (nI wz) aBk (nI bz) aFc), (zaR aHs cHs 8 fHs), (zaI aFc cFc 6 fFc9_6)] H := hP
      have hD : va_D A [(zo13rrirrrr h0 sc kp ik bl go ch bo), (zo4rrir go gR gO (nI lk) gS), (zaI gR cR 8 fR9_5), (zo10ririliiriririr sc aTp (nI ts) aHl (nI nh) ed mi sn aHs (nI n) aWk (nI wz) aBk (nI bz) aFc), (zaR aHs cHs 8 fHs), (zaI aFc cFc 6 fFc9_6)] := hD
      have hK : va_K (dC, dI) vwCl [(cR, .int), (cHs, .object "MistHeaps$Heap"), (cFc, .int)] s := hK
      refine lv_lconst (v := 0) hx hb dX11_where_39 (by decide) ?_
      refine lv_lstore_n (lv' := [(2, .long 0), (0, .ref h0), (1, .int x)]) hx hb dX11_where_40 rfl hl (by decide) rfl (fun ls hl => ?_)
      refine lv_iconst (v := 0) hx hb dX11_where_41 (by decide) ?_
      refine lv_istore (lv' := [(4, .int 0), (2, .long 0), (0, .ref h0), (1, .int x)]) hx hb dX11_where_42 hl (by decide) rfl (fun ls hl => ?_)
      have L44 : ∀ (nF : Nat) (i : Nat) (q : Int64), 36 - i < nF → (i ≤ 36) → (q = whB (fun i => sbR (fun k => apR (nI i) (yc k)) fR9_5 n) x i) → ∀ (H : Heap) (locs : List Loc), va_K (dC, dI) vwCl [(cR, .int), (cHs, .object "MistHeaps$Heap"), (cFc, .int)] s → va_P (dC, dI) vwCl [(zo13rrirrrr h0 sc kp ik bl go ch bo), (zo4rrir go gR gO (nI lk) gS), (zaI gR cR 8 fR9_5), (zo10ririliiriririr sc aTp (nI ts) aHl (nI nh) ed mi sn aHs (nI n) aWk (nI wz) aBk (nI bz) aFc), (zaR aHs cHs 8 fHs), (zaI aFc cFc 6 fFc9_6)] H → va_D A [(zo13rrirrrr h0 sc kp ik bl go ch bo), (zo4rrir go gR gO (nI lk) gS), (zaI gR cR 8 fR9_5), (zo10ririliiriririr sc aTp (nI ts) aHl (nI nh) ed mi sn aHs (nI n) aWk (nI wz) aBk (nI bz) aFc), (zaR aHs cHs 8 fHs), (zaI aFc cFc 6 fFc9_6)] → va_S A s.heap H locs → ∀ (ls : Array Slot), lv_has ls 5 [(0, .ref h0), (1, .int x), (2, .long q), (4, .int (nI i))] → W p l e ({ frames := 6, cells := 0, slots := 0, locals := 125 } : Room) s m args below meth c H locs 0 0 Q (F0 m 44 ls []) := by
        intro nF
        induction nF with
        | zero => intro i q hm; exact absurd hm (Nat.not_lt_zero _)
        | succ nF ih44 =>
          intro i q hm hii hq9 H locs hK hP hD hS ls hl
          refine lv_iload hx hb dX11_where_44 (lv_at hl 3 rfl) ?_
          refine lv_bipush (v := 36) hx hb dX11_where_46 (by decide) ?_
          refine lv_icmp_ge (tgt := 81) hx hb dX11_where_48 (by decide) (fun c_7 => ?_) (fun c_7 => ?_)
          · skip
            have c_7 : 36 ≤ i := (nI_leI (a := 36) (b := i) (by omega) (by omega)).mp c_7
            refine lv_lload_n hx hb dX11_where_81 rfl (lv_at hl 2 rfl) ?_
            rw [hQ]
            have hP9 := hP.sub (ws' := [(zo13rrirrrr h0 sc kp ik bl go ch bo), (zo4rrir go gR gO (nI lk) gS), (zaI gR cR 8 fR9_5), (zo10ririliiriririr sc aTp (nI ts) aHl (nI nh) ed mi sn aHs (nI n) aWk (nI wz) aBk (nI bz) aFc), (zaR aHs cHs 8 fHs), (zaI aFc cFc 6 fFc9_6)]) [0, 1, 2, 3, 4, 5] rfl
            have hD9 := hD.sub (ws' := [(zo13rrirrrr h0 sc kp ik bl go ch bo), (zo4rrir go gR gO (nI lk) gS), (zaI gR cR 8 fR9_5), (zo10ririliiriririr sc aTp (nI ts) aHl (nI nh) ed mi sn aHs (nI n) aWk (nI wz) aBk (nI bz) aFc), (zaR aHs cHs 8 fHs), (zaI aFc cFc 6 fFc9_6)]) [0, 1, 2, 3, 4, 5] (by decide) rfl
            have hK9 := hK.sub (tys' := [(cR, .int), (cHs, .object "MistHeaps$Heap"), (cFc, .int)]) [0, 1, 2] rfl
            exact W.lret (v := q) hx hb hr (fun tQ htQ hWQ => ⟨⟨q, (fR9_5, fFc9_6), rfl, wh_x hn8 (by assumption) (by assumption) hw_4 (wh_end hq9 (by omega)), by rw [htQ]; exact hP9, va_K.moved hWQ.alike hK9, hD9⟩, hS.F htQ⟩) hS.2.2 dX11_where_82
          · skip
            have c_7 : ¬ 36 ≤ i := fun q => c_7 ((nI_leI (a := 36) (b := i) (by omega) (by omega)).mpr q)
            refine lv_aload_n hx hb dX11_where_51 rfl (lv_at hl 0 rfl) ?_
            refine va_get (D := (dC, dI)) (ci := 13) (v := .ref go) (C := RX11) (T := TX11) (N := 7) hx hb hts kc_xWhere_1 hown hK hP 0 rfl rfl 4 (by decide) (hts (.fieldLink RX11 35 "MistHeaps" "goings" "LMistHeaps$Goings;") kc_xWhere_5) (fun _ h9 => h9) rfl dX11_where_52 ?_
            refine lv_aload_n hx hb dX11_where_55 rfl (lv_at hl 0 rfl) ?_
            refine va_get (D := (dC, dI)) (ci := 13) (v := .ref sc) (C := RX11) (T := TX11) (N := 7) hx hb hts kc_xWhere_1 hown hK hP 0 rfl rfl 0 (by decide) (hts (.fieldLink RX11 14 "MistHeaps" "scene" "LMistHeaps$Scene;") kc_xWhere_2) (fun _ h9 => h9) rfl dX11_where_56 ?_
            refine lv_iload hx hb dX11_where_59 (lv_at hl 3 rfl) ?_
            have hPc := hP.sub (ws' := [(zo4rrir go gR gO (nI lk) gS), (zaI gR cR 8 fR9_5), (zo10ririliiriririr sc aTp (nI ts) aHl (nI nh) ed mi sn aHs (nI n) aWk (nI wz) aBk (nI bz) aFc), (zaR aHs cHs 8 fHs)]) [1, 2, 3, 4] rfl
            have hKc := hK.sub (tys' := [(cR, .int), (cHs, .object "MistHeaps$Heap")]) [0, 1] rfl
            refine vp_callSi (va_runV (As := [.ref sc, .int (nI i)]) (rest := []) ⟨hx, hb, hml, hown, hts⟩ (c_seenFrom l dC dI gd  sc go aTp aHl aHs aWk aBk aFc gR gO gS ts nh n wz bz lk mi sn (nI i) ed cHs cR fR9_5 yk yv yc fHs yi ya (zhs) (hn8)) (cwV 2 hts gX11_where_X2_seenFrom rfl rfl rfl hd_yX2_seenFrom ⟨Nat.le_of_ble_eq_true rfl, Nat.le_of_ble_eq_true rfl⟩) ⟨fun a U g mk q => by obtain ⟨q0, qP, qK, qhG, qhH_⟩ := q; exact ⟨q0, qP, va_K.moved (u := U) (U := U.calling g mk a) (Vm.Alike.refl U.vm) qK, qhG.same rfl rfl, qhH_.same rfl rfl⟩, va_recv hK hP (ci := 4) (q := (RX2, TX2, 4)) (q0 := 1) rfl rfl, fun U hU hW => ⟨rfl, by rw [hU]; exact hPc, va_K.moved hW.alike hKc, hG.callF hS hU hW, hH_.callF hS hU hW⟩⟩ rfl rfl hl.1 rfl (lv_room (Nat.le_of_ble_eq_true rfl)) dX11_where_61 ⟨Nat.le_of_ble_eq_true rfl, Nat.le_of_ble_eq_true rfl⟩).run (fun r_8 hw_9 => ?_)
            obtain rfl := hw_9
            refine lv_iload_n hx hb dX11_where_64 rfl (lv_at hl 1 rfl) ?_
            refine lv_icmp_ne (tgt := 75) hx hb dX11_where_65 (by decide) (fun c_10 => ?_) (fun c_10 => ?_)
            · skip
              refine lv_iinc (v := nI (i + 1)) (lv' := [(4, .int (nI (i + 1))), (0, .ref h0), (1, .int x), (2, .long q)]) hx hb dX11_where_75 hl (k := 3) rfl (nI_add i 1) (by decide) rfl (fun ls hl => ?_)
              refine lv_goto (tgt := 44) hx hb dX11_where_78 (by decide) ?_
              exact ih44 (i + 1) (q) (by omega) (by omega) (wh_n hq9 c_10) _ _ (hK.sub [0, 1, 2] rfl) (hP.sub [0, 1, 2, 3, 4, 5] rfl) (hD.sub [0, 1, 2, 3, 4, 5] (by decide) rfl) hS ls (lv_sub hl [1, 2, 3, 0] rfl)
            · skip
              refine lv_lload_n hx hb dX11_where_68 rfl (lv_at hl 2 rfl) ?_
              refine lv_lconst (v := 1) hx hb dX11_where_69 (by decide) ?_
              refine lv_iload hx hb dX11_where_70 (lv_at hl 3 rfl) ?_
              refine lv_lshl (v := (1 : Int64) <<< ((nI i).toInt64 &&& 63)) hx hb dX11_where_72 (rfl) ?_
              refine lv_lor hx hb dX11_where_73 ?_
              refine lv_lstore_n (lv' := [(2, .long (q ||| ((1 : Int64) <<< ((nI i).toInt64 &&& 63)))), (0, .ref h0), (1, .int x), (4, .int (nI i))]) hx hb dX11_where_74 rfl hl (by decide) rfl (fun ls hl => ?_)
              refine lv_iinc (v := nI (i + 1)) (lv' := [(4, .int (nI (i + 1))), (2, .long (q ||| ((1 : Int64) <<< ((nI i).toInt64 &&& 63)))), (0, .ref h0), (1, .int x)]) hx hb dX11_where_75 hl (k := 3) rfl (nI_add i 1) (by decide) rfl (fun ls hl => ?_)
              refine lv_goto (tgt := 44) hx hb dX11_where_78 (by decide) ?_
              exact ih44 (i + 1) (q ||| ((1 : Int64) <<< ((nI i).toInt64 &&& 63))) (by omega) (by omega) (wh_1 hq9 c_10) _ _ (hK.sub [0, 1, 2] rfl) (hP.sub [0, 1, 2, 3, 4, 5] rfl) (hD.sub [0, 1, 2, 3, 4, 5] (by decide) rfl) hS ls (lv_sub hl [2, 3, 1, 0] rfl)
      exact L44 _ (0) (0) (Nat.lt_succ_self _) (by omega) (rfl) _ _ (hK.sub [0, 1, 2] rfl) (hP.sub [0, 1, 2, 3, 4, 5] rfl) (hD.sub [0, 1, 2, 3, 4, 5] (by decide) rfl) hS ls (lv_sub hl [2, 3, 1, 0] rfl)
    · skip
      refine lv_ldc2 (v := (-9223372036854775808)) hx hb hown (hts (.constantLong RX11 139 (-9223372036854775808)) kc_xWhere_0) dX11_where_17 ?_
      rw [hQ]
      have hP9 := hP.sub (ws' := [(zo13rrirrrr h0 sc kp ik bl go ch bo), (zo4rrir go gR gO (nI lk) gS), (zaI gR cR 8 fR), (zo10ririliiriririr sc aTp (nI ts) aHl (nI nh) ed mi sn aHs (nI n) aWk (nI wz) aBk (nI bz) aFc), (zaR aHs cHs 8 fHs), (zaI aFc cFc 6 fFc)]) [0, 1, 2, 3, 4, 5] rfl
      have hD9 := hD.sub (ws' := [(zo13rrirrrr h0 sc kp ik bl go ch bo), (zo4rrir go gR gO (nI lk) gS), (zaI gR cR 8 fR), (zo10ririliiriririr sc aTp (nI ts) aHl (nI nh) ed mi sn aHs (nI n) aWk (nI wz) aBk (nI bz) aFc), (zaR aHs cHs 8 fHs), (zaI aFc cFc 6 fFc)]) [0, 1, 2, 3, 4, 5] (by decide) rfl
      have hK9 := hK.sub (tys' := [(cR, .int), (cHs, .object "MistHeaps$Heap"), (cFc, .int)]) [0, 1, 2] rfl
      exact W.lret (v := (-9223372036854775808)) hx hb hr (fun tQ htQ hWQ => ⟨⟨(-9223372036854775808), (fR, fFc), rfl, by first | exact wh_a (by assumption) | exact wh_c hn8 (by assumption) (by assumption), by rw [htQ]; exact hP9, va_K.moved hWQ.alike hK9, hD9⟩, hS.F htQ⟩) hS.2.2 dX11_where_20
