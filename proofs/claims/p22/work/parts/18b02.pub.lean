theorem ggX11_edges_J13_bitCount_95d88 : GoodIn wsX11_edges wsJ13_bitCount_95d88 := gga_of 530 rfl rfl rfl
theorem gX11_edges_J13_bitCount_95d88 : GoodIn wsX11_edges (va_wsS RX11 77 yJ13_bitCount_95d88 wsJ13_bitCount_95d88) := goodIn_app (ggh_of [528, 529, 80] rfl rfl rfl) ggX11_edges_J13_bitCount_95d88
noncomputable def dk18b02pub_cX11_edges_0 : List (Nat × Instr × Nat) := [(0, .lload_n 1, 1), (1, .ldc2_w 71, 3), (4, .land, 1), (5, .lconst 0, 1), (6, .lcmp, 1), (7, .ifCond .eq 6, 3), (13, .aload_n 0, 1), (14, .getfield 14, 3), (17, .getfield 73, 3), (20, .invokestatic 77, 3), (23, .istore_n 3, 1), (24, .aload_n 0, 1), (25, .getfield 14, 3), (28, .lload_n 1, 1), (29, .putfield 73, 3), (32, .iload_n 3, 1), (33, .ireturn, 1), (10, .bipush (-2), 2), (12, .ireturn, 1)]
set_option maxRecDepth 100000 in
theorem dk18b02pub_cX11_edges_0_a : dkA cX11_edges dk18b02pub_cX11_edges_0 = true := by decide +kernel
theorem dX11_edges_0 : decode cX11_edges 0 = .ok (.lload_n 1, 1) := dkAt dk18b02pub_cX11_edges_0_a 0 rfl
theorem dX11_edges_1 : decode cX11_edges 1 = .ok (.ldc2_w 71, 3) := dkAt dk18b02pub_cX11_edges_0_a 1 rfl
theorem dX11_edges_4 : decode cX11_edges 4 = .ok (.land, 1) := dkAt dk18b02pub_cX11_edges_0_a 2 rfl
theorem dX11_edges_5 : decode cX11_edges 5 = .ok (.lconst 0, 1) := dkAt dk18b02pub_cX11_edges_0_a 3 rfl
theorem dX11_edges_6 : decode cX11_edges 6 = .ok (.lcmp, 1) := dkAt dk18b02pub_cX11_edges_0_a 4 rfl
theorem dX11_edges_7 : decode cX11_edges 7 = .ok (.ifCond .eq 6, 3) := dkAt dk18b02pub_cX11_edges_0_a 5 rfl
theorem dX11_edges_13 : decode cX11_edges 13 = .ok (.aload_n 0, 1) := dkAt dk18b02pub_cX11_edges_0_a 6 rfl
theorem dX11_edges_14 : decode cX11_edges 14 = .ok (.getfield 14, 3) := dkAt dk18b02pub_cX11_edges_0_a 7 rfl
theorem dX11_edges_17 : decode cX11_edges 17 = .ok (.getfield 73, 3) := dkAt dk18b02pub_cX11_edges_0_a 8 rfl
theorem dX11_edges_20 : decode cX11_edges 20 = .ok (.invokestatic 77, 3) := dkAt dk18b02pub_cX11_edges_0_a 9 rfl
theorem dX11_edges_23 : decode cX11_edges 23 = .ok (.istore_n 3, 1) := dkAt dk18b02pub_cX11_edges_0_a 10 rfl
theorem dX11_edges_24 : decode cX11_edges 24 = .ok (.aload_n 0, 1) := dkAt dk18b02pub_cX11_edges_0_a 11 rfl
theorem dX11_edges_25 : decode cX11_edges 25 = .ok (.getfield 14, 3) := dkAt dk18b02pub_cX11_edges_0_a 12 rfl
theorem dX11_edges_28 : decode cX11_edges 28 = .ok (.lload_n 1, 1) := dkAt dk18b02pub_cX11_edges_0_a 13 rfl
theorem dX11_edges_29 : decode cX11_edges 29 = .ok (.putfield 73, 3) := dkAt dk18b02pub_cX11_edges_0_a 14 rfl
theorem dX11_edges_32 : decode cX11_edges 32 = .ok (.iload_n 3, 1) := dkAt dk18b02pub_cX11_edges_0_a 15 rfl
theorem dX11_edges_33 : decode cX11_edges 33 = .ok (.ireturn, 1) := dkAt dk18b02pub_cX11_edges_0_a 16 rfl
theorem dX11_edges_10 : decode cX11_edges 10 = .ok (.bipush (-2), 2) := dkAt dk18b02pub_cX11_edges_0_a 17 rfl
theorem dX11_edges_12 : decode cX11_edges 12 = .ok (.ireturn, 1) := dkAt dk18b02pub_cX11_edges_0_a 18 rfl
theorem kc_xEdges_0 : (.constantLong RX11 71 (-68719476736) : Cond) ∈ wsX11_edges := kc_of 527 rfl rfl rfl
theorem kc_xEdges_1 : ∀ w ∈ wsX110, w ∈ wsX11_edges := fun w h => List.mem_cons_of_mem _ (gin_wsX110 w h)
theorem kc_xEdges_2 : (.fieldLink RX11 14 "MistHeaps" "scene" "LMistHeaps$Scene;" : Cond) ∈ wsX11_edges := kc_of 328 rfl rfl rfl
theorem kc_xEdges_3 : ∀ w ∈ wsX80, w ∈ wsX11_edges := fun w h => List.mem_cons_of_mem _ (gin_wsX80 w h)
theorem kc_xEdges_4 : (.fieldLink RX11 73 "MistHeaps$Scene" "edges" "J" : Cond) ∈ wsX11_edges := kc_of 161 rfl rfl rfl
set_option maxHeartbeats 4000000 in
set_option maxRecDepth 100000 in
theorem c_xEdges (l : Launch) (dC : Nat → ClassId) (dI : Nat → Nat → Nat) (h0 : Nat) (sc : Nat) (kp : Nat) (bl : Nat) (go : Nat) (ch : Nat) (bo : Nat) (aTp : Nat) (aHl : Nat) (aHs : Nat) (aWk : Nat) (aBk : Nat) (aFc : Nat) (ts : Nat) (nh : Nat) (n : Nat) (wz : Nat) (bz : Nat) (mi : Int32) (sn : Int32) (ik : Int32) (mk : Int64) (ee : Nat) (sz : Nat) (hee : ee < 2 ^ 36) : Met l yX11_edges wsX11_edges ({ frames := 1, cells := 0, slots := 0, locals := 21 } : Room) (va_Pc [.ref h0, .long mk] (fun U => U.heap.size = sz ∧ va_P (dC, dI) vwCl [(zo13rrirrrr h0 sc kp ik bl go ch bo), (zo10ririliiriririr sc aTp (nI ts) aHl (nI nh) (lN ee) mi sn aHs (nI n) aWk (nI wz) aBk (nI bz) aFc)] U.heap ∧ va_K (dC, dI) vwCl [] U ∧ va_D (fun _ => True) [(zo13rrirrrr h0 sc kp ik bl go ch bo), (zo10ririliiriririr sc aTp (nI ts) aHl (nI nh) (lN ee) mi sn aHs (nI n) aWk (nI wz) aBk (nI bz) aFc)])) (va_Qi (fun (r : Int32) (u : Int64) => match u with | ed9 => r = edR ee mk ∧ ((¬ edK mk ∧ ed9 = lN ee) ∨ (edK mk ∧ ∃ e : Nat, e < 2 ^ 36 ∧ mk = lN e ∧ ed9 = lN e))) (fun (u : Int64) (t : State) => match u with | ed9 => va_P (dC, dI) vwCl [(zo13rrirrrr h0 sc kp ik bl go ch bo), (zo10ririliiriririr sc aTp (nI ts) aHl (nI nh) ed9 mi sn aHs (nI n) aWk (nI wz) aBk (nI bz) aFc)] t.heap ∧ va_K (dC, dI) vwCl [] t ∧ va_D (va_A [(zo13rrirrrr h0 sc kp ik bl go ch bo), (zo10ririliiriririr sc aTp (nI ts) aHl (nI nh) (lN ee) mi sn aHs (nI n) aWk (nI wz) aBk (nI bz) aFc)] sz) [(zo13rrirrrr h0 sc kp ik bl go ch bo), (zo10ririliiriririr sc aTp (nI ts) aHl (nI nh) ed9 mi sn aHs (nI n) aWk (nI wz) aBk (nI bz) aFc)]) (va_A [(zo13rrirrrr h0 sc kp ik bl go ch bo), (zo10ririliiriririr sc aTp (nI ts) aHl (nI nh) (lN ee) mi sn aHs (nI n) aWk (nI wz) aBk (nI bz) aFc)] sz)) 0 0 (va_A [(zo13rrirrrr h0 sc kp ik bl go ch bo), (zo10ririliiriririr sc aTp (nI ts) aHl (nI nh) (lN ee) mi sn aHs (nI n) aWk (nI wz) aBk (nI bz) aFc)] sz) := by
  refine met_ofQ (cc := cX11_edges) (maxL := 4) (ret := (some .int)) (by decide) rfl ?_
  intro p e s m args below meth c s₁ Q B hml hv hQ
  obtain ⟨rfl, hsz, hP, hK, hD0⟩ := hv
  have hx := B.exec
  have hb := B.bytes
  have hr := B.returns
  have hts := atoms_spec (ws := wsX11_edges) B.pre
  have hown : s.vm.findClass RX11 = some m.cls := findClass_of_methodNamed B.named
  have hlocks := B.notSynchronized
  subst hsz
  have hD := hD0.self (sz := s.heap.size)
  generalize hAe : va_A [(zo13rrirrrr h0 sc kp ik bl go ch bo), (zo10ririliiriririr sc aTp (nI ts) aHl (nI nh) (lN ee) mi sn aHs (nI n) aWk (nI wz) aBk (nI bz) aFc)] s.heap.size = A at hD hQ ⊢
  have hA : ∀ q : Nat, s.heap.size ≤ q → A q := fun q h => by rw [← hAe]; exact Or.inr h
  have hS : va_S A s.heap s.heap [] := va_S.rf
  have hl := lv_entry [.ref h0, .long mk] (n := 4) (Nat.le_of_ble_eq_true rfl)
  rw [lg_entry_eq]
  generalize (lg_sl [.ref h0, .long mk] ++ List.replicate (4 - (lg_sl [.ref h0, .long mk]).length) Slot.unset).toArray = ls at hl ⊢
  generalize hag : ([.ref h0, .long mk] : List Value).toArray = args at hts hQ ⊢
  have hl : lv_has ls 4 [(0, .ref h0), (1, .long mk)] := hl
  obtain ⟨H, hH⟩ : ∃ H : Heap, H = s.heap := ⟨_, rfl⟩
  rw [← hH] at hP
  rw [← hH]
  have hS : va_S A s.heap H [] := by rw [hH]; exact hS
  obtain ⟨locs, hlo⟩ : ∃ L : List Loc, L = [] := ⟨_, rfl⟩
  rw [← hlo] at hS
  rw [← hlo]
  clear hH hlo
  refine lv_lload_n hx hb dX11_edges_0 rfl (lv_at hl 1 rfl) ?_
  refine lv_ldc2 (v := (-68719476736)) hx hb hown (hts (.constantLong RX11 71 (-68719476736)) kc_xEdges_0) dX11_edges_1 ?_
  refine lv_land hx hb dX11_edges_4 ?_
  refine lv_lconst (v := 0) hx hb dX11_edges_5 (by decide) ?_
  refine W.lcmp hx hb dX11_edges_6 ?_
  refine lv_if_eq (tgt := 13) hx hb dX11_edges_7 (by decide) (fun c_1 => ?_) (fun c_1 => ?_)
  · skip
    have hk9 : edK mk := (lg_cmp_eq _ _).mp c_1
    refine lv_aload_n hx hb dX11_edges_13 rfl (lv_at hl 0 rfl) ?_
    refine va_get (D := (dC, dI)) (ci := 13) (v := .ref sc) (C := RX11) (T := TX11) (N := 7) hx hb hts kc_xEdges_1 hown hK hP 0 rfl rfl 0 (by decide) (hts (.fieldLink RX11 14 "MistHeaps" "scene" "LMistHeaps$Scene;") kc_xEdges_2) (fun _ h9 => h9) rfl dX11_edges_14 ?_
    refine va_get (D := (dC, dI)) (ci := 10) (v := .long (lN ee)) (C := RX8) (T := TX8) (N := 14) hx hb hts kc_xEdges_3 hown hK hP 1 rfl rfl 4 (by decide) (hts (.fieldLink RX11 73 "MistHeaps$Scene" "edges" "J") kc_xEdges_4) (fun _ h9 => h9) rfl dX11_edges_17 ?_
    refine vp_callSi (va_runS (As := [.long (lN ee)]) (rest := []) ⟨hx, hb, hml, hown, hts⟩ (c_bits l dC dI ee hee) (va_cwS 1 hts gX11_edges_J13_bitCount_95d88 rfl rfl rfl hd_yJ13_bitCount_95d88.2 ⟨Nat.le_of_ble_eq_true rfl, Nat.le_of_ble_eq_true rfl⟩) ⟨fun a U g mk q => ⟨q.1, trivial⟩, fun U hU hW => ⟨rfl, trivial⟩⟩ rfl rfl hl.1 rfl (lv_room (Nat.le_of_ble_eq_true rfl)) dX11_edges_20 ⟨Nat.le_of_ble_eq_true rfl, Nat.le_of_ble_eq_true rfl⟩).run (fun r_2 hw_3 => ?_)
    obtain rfl := hw_3
    refine lv_istore_n (lv' := [(3, .int (nI (bsum 36 ee))), (0, .ref h0), (1, .long mk)]) hx hb dX11_edges_23 rfl hl (by decide) rfl (fun ls hl => ?_)
    refine lv_aload_n hx hb dX11_edges_24 rfl (lv_at hl 1 rfl) ?_
    refine va_get (D := (dC, dI)) (ci := 13) (v := .ref sc) (C := RX11) (T := TX11) (N := 7) hx hb hts kc_xEdges_1 hown hK hP 0 rfl rfl 0 (by decide) (hts (.fieldLink RX11 14 "MistHeaps" "scene" "LMistHeaps$Scene;") kc_xEdges_2) (fun _ h9 => h9) rfl dX11_edges_25 ?_
    refine lv_lload_n hx hb dX11_edges_28 rfl (lv_at hl 2 rfl) ?_
    refine va_put (D := (dC, dI)) (ci := 10) (v := .long mk) (ty := .long) (C := RX8) (T := TX8) (N := 14) hx hb hts kc_xEdges_3 tyX8 tyX8_ok nmX8 hown hK hP hD hS 1 rfl rfl 4 (by decide) (hts (.fieldLink RX11 73 "MistHeaps$Scene" "edges" "J") kc_xEdges_4) (fun _ h9 => h9) rfl (by decide +kernel) rfl rfl (Nat.le_of_ble_eq_true rfl) dX11_edges_29 (fun H locs hP hD hS => ?_)
    have hP : va_P (dC, dI) vwCl [(zo13rrirrrr h0 sc kp ik bl go ch bo), (zo10ririliiriririr sc aTp (nI ts) aHl (nI nh) mk mi sn aHs (nI n) aWk (nI wz) aBk (nI bz) aFc)] H := hP
    have hD : va_D A [(zo13rrirrrr h0 sc kp ik bl go ch bo), (zo10ririliiriririr sc aTp (nI ts) aHl (nI nh) mk mi sn aHs (nI n) aWk (nI wz) aBk (nI bz) aFc)] := hD
    refine lv_iload_n hx hb dX11_edges_32 rfl (lv_at hl 0 rfl) ?_
    rw [hQ]
    have hP9 := hP.sub (ws' := [(zo13rrirrrr h0 sc kp ik bl go ch bo), (zo10ririliiriririr sc aTp (nI ts) aHl (nI nh) mk mi sn aHs (nI n) aWk (nI wz) aBk (nI bz) aFc)]) [0, 1] rfl
    have hD9 := hD.sub (ws' := [(zo13rrirrrr h0 sc kp ik bl go ch bo), (zo10ririliiriririr sc aTp (nI ts) aHl (nI nh) mk mi sn aHs (nI n) aWk (nI wz) aBk (nI bz) aFc)]) [0, 1] (by decide) rfl
    have hK9 := hK.sub (tys' := []) [] rfl
    exact W.iret (v := nI (bsum 36 ee)) hx hb hr (fun tQ htQ hWQ => ⟨⟨(nI (bsum 36 ee)), mk, rfl, ⟨ed_yes hk9, Or.inr ⟨hk9, by obtain ⟨e, he, q9⟩ := ed_of hk9; exact ⟨e, he, q9, q9⟩⟩⟩, by rw [htQ]; exact hP9, va_K.moved hWQ.alike hK9, hD9⟩, hS.F htQ⟩) hS.2.2 dX11_edges_33
  · skip
    have hk9 : ¬ edK mk := fun z => c_1 ((lg_cmp_eq _ _).mpr z)
    refine lv_bipush (v := (-2)) hx hb dX11_edges_10 (by decide) ?_
    rw [hQ]
    have hP9 := hP.sub (ws' := [(zo13rrirrrr h0 sc kp ik bl go ch bo), (zo10ririliiriririr sc aTp (nI ts) aHl (nI nh) (lN ee) mi sn aHs (nI n) aWk (nI wz) aBk (nI bz) aFc)]) [0, 1] rfl
    have hD9 := hD.sub (ws' := [(zo13rrirrrr h0 sc kp ik bl go ch bo), (zo10ririliiriririr sc aTp (nI ts) aHl (nI nh) (lN ee) mi sn aHs (nI n) aWk (nI wz) aBk (nI bz) aFc)]) [0, 1] (by decide) rfl
    have hK9 := hK.sub (tys' := []) [] rfl
    exact W.iret (v := (-2)) hx hb hr (fun tQ htQ hWQ => ⟨⟨(-2), (lN ee), rfl, ⟨ed_no hk9, Or.inl ⟨hk9, rfl⟩⟩, by rw [htQ]; exact hP9, va_K.moved hWQ.alike hK9, hD9⟩, hS.F htQ⟩) hS.2.2 dX11_edges_12
