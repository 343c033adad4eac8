def dk22hcase_cL_law_0 : List (Nat × Instr × Nat) := [(567, .aload_n 1, 1), (568, .aload_n 0, 1), (569, .iload_n 3, 1), (570, .iconst 1, 1), (571, .iadd, 1), (572, .iaload, 1), (573, .aload_n 0, 1), (574, .iload_n 3, 1), (575, .iconst 2, 1), (576, .iadd, 1), (577, .iaload, 1), (578, .aload_n 0, 1), (579, .iload_n 3, 1), (580, .iconst 3, 1), (581, .iadd, 1), (582, .iaload, 1), (583, .invokevirtual 73, 3), (586, .pop, 1), (587, .aload_n 2, 1), (588, .aload_n 0, 1), (589, .iload_n 3, 1), (590, .iconst 1, 1), (591, .iadd, 1), (592, .iaload, 1), (593, .aload_n 0, 1), (594, .iload_n 3, 1), (595, .iconst 2, 1), (596, .iadd, 1), (597, .iaload, 1), (598, .aload_n 0, 1), (599, .iload_n 3, 1), (600, .iconst 3, 1), (601, .iadd, 1), (602, .iaload, 1), (603, .invokevirtual 76, 3), (606, .pop, 1), (607, .goto 501, 3)]
set_option maxRecDepth 100000 in
theorem dk22hcase_cL_law_0_a : dkA cL_law dk22hcase_cL_law_0 = true := by decide +kernel
theorem dL_law_567 : decode cL_law 567 = .ok (.aload_n 1, 1) := dkAt dk22hcase_cL_law_0_a 0 rfl
theorem dL_law_568 : decode cL_law 568 = .ok (.aload_n 0, 1) := dkAt dk22hcase_cL_law_0_a 1 rfl
theorem dL_law_569 : decode cL_law 569 = .ok (.iload_n 3, 1) := dkAt dk22hcase_cL_law_0_a 2 rfl
theorem dL_law_570 : decode cL_law 570 = .ok (.iconst 1, 1) := dkAt dk22hcase_cL_law_0_a 3 rfl
theorem dL_law_571 : decode cL_law 571 = .ok (.iadd, 1) := dkAt dk22hcase_cL_law_0_a 4 rfl
theorem dL_law_572 : decode cL_law 572 = .ok (.iaload, 1) := dkAt dk22hcase_cL_law_0_a 5 rfl
theorem dL_law_573 : decode cL_law 573 = .ok (.aload_n 0, 1) := dkAt dk22hcase_cL_law_0_a 6 rfl
theorem dL_law_574 : decode cL_law 574 = .ok (.iload_n 3, 1) := dkAt dk22hcase_cL_law_0_a 7 rfl
theorem dL_law_575 : decode cL_law 575 = .ok (.iconst 2, 1) := dkAt dk22hcase_cL_law_0_a 8 rfl
theorem dL_law_576 : decode cL_law 576 = .ok (.iadd, 1) := dkAt dk22hcase_cL_law_0_a 9 rfl
theorem dL_law_577 : decode cL_law 577 = .ok (.iaload, 1) := dkAt dk22hcase_cL_law_0_a 10 rfl
theorem dL_law_578 : decode cL_law 578 = .ok (.aload_n 0, 1) := dkAt dk22hcase_cL_law_0_a 11 rfl
theorem dL_law_579 : decode cL_law 579 = .ok (.iload_n 3, 1) := dkAt dk22hcase_cL_law_0_a 12 rfl
theorem dL_law_580 : decode cL_law 580 = .ok (.iconst 3, 1) := dkAt dk22hcase_cL_law_0_a 13 rfl
theorem dL_law_581 : decode cL_law 581 = .ok (.iadd, 1) := dkAt dk22hcase_cL_law_0_a 14 rfl
theorem dL_law_582 : decode cL_law 582 = .ok (.iaload, 1) := dkAt dk22hcase_cL_law_0_a 15 rfl
theorem dL_law_583 : decode cL_law 583 = .ok (.invokevirtual 73, 3) := dkAt dk22hcase_cL_law_0_a 16 rfl
theorem dL_law_586 : decode cL_law 586 = .ok (.pop, 1) := dkAt dk22hcase_cL_law_0_a 17 rfl
theorem dL_law_587 : decode cL_law 587 = .ok (.aload_n 2, 1) := dkAt dk22hcase_cL_law_0_a 18 rfl
theorem dL_law_588 : decode cL_law 588 = .ok (.aload_n 0, 1) := dkAt dk22hcase_cL_law_0_a 19 rfl
theorem dL_law_589 : decode cL_law 589 = .ok (.iload_n 3, 1) := dkAt dk22hcase_cL_law_0_a 20 rfl
theorem dL_law_590 : decode cL_law 590 = .ok (.iconst 1, 1) := dkAt dk22hcase_cL_law_0_a 21 rfl
theorem dL_law_591 : decode cL_law 591 = .ok (.iadd, 1) := dkAt dk22hcase_cL_law_0_a 22 rfl
theorem dL_law_592 : decode cL_law 592 = .ok (.iaload, 1) := dkAt dk22hcase_cL_law_0_a 23 rfl
theorem dL_law_593 : decode cL_law 593 = .ok (.aload_n 0, 1) := dkAt dk22hcase_cL_law_0_a 24 rfl
theorem dL_law_594 : decode cL_law 594 = .ok (.iload_n 3, 1) := dkAt dk22hcase_cL_law_0_a 25 rfl
theorem dL_law_595 : decode cL_law 595 = .ok (.iconst 2, 1) := dkAt dk22hcase_cL_law_0_a 26 rfl
theorem dL_law_596 : decode cL_law 596 = .ok (.iadd, 1) := dkAt dk22hcase_cL_law_0_a 27 rfl
theorem dL_law_597 : decode cL_law 597 = .ok (.iaload, 1) := dkAt dk22hcase_cL_law_0_a 28 rfl
theorem dL_law_598 : decode cL_law 598 = .ok (.aload_n 0, 1) := dkAt dk22hcase_cL_law_0_a 29 rfl
theorem dL_law_599 : decode cL_law 599 = .ok (.iload_n 3, 1) := dkAt dk22hcase_cL_law_0_a 30 rfl
theorem dL_law_600 : decode cL_law 600 = .ok (.iconst 3, 1) := dkAt dk22hcase_cL_law_0_a 31 rfl
theorem dL_law_601 : decode cL_law 601 = .ok (.iadd, 1) := dkAt dk22hcase_cL_law_0_a 32 rfl
theorem dL_law_602 : decode cL_law 602 = .ok (.iaload, 1) := dkAt dk22hcase_cL_law_0_a 33 rfl
theorem dL_law_603 : decode cL_law 603 = .ok (.invokevirtual 76, 3) := dkAt dk22hcase_cL_law_0_a 34 rfl
theorem dL_law_606 : decode cL_law 606 = .ok (.pop, 1) := dkAt dk22hcase_cL_law_0_a 35 rfl
theorem dL_law_607 : decode cL_law 607 = .ok (.goto 501, 3) := dkAt dk22hcase_cL_law_0_a 36 rfl
set_option maxHeartbeats 4000000 in
set_option maxRecDepth 100000 in
theorem lc_13 {p : Program} {l : Launch} {e : Env} {s : State} {m : MethodId} {below : List Frame} {meth : Method} {c : Code} {b L : Nat} {xs : Nat → Int32} {A : Nat → Prop} (hAe : A = fun q => s.heap.size ≤ q) (C0 : lw_At p s m meth c b L xs) (dC : Nat → ClassId) (dI : Nat → Nat → Nat) (gd : Nat → Nat) (kA : Nat) (ad : Nat → Nat) (cB bS : Nat) (sK sV : Nat → Nat) (Y : Nat → Prop) (h0 m0 : Nat) (ik : Int32) (vs kvs : VS) (tl : List Nat) (im : Int32) (vm kvm : VS) (tm : List Nat) (X : va_W) (T : List (ClassId × FieldType)) (M : va_W) (T2 : List (ClassId × FieldType)) (hGA : GA gd kA ad cB bS sK sV A s) (i : Nat) (hi : i + 5 ≤ L) (hL : L ≤ 320) (H : Heap) (locs : List Loc) (hLS : Lst dC dI ad bS Y s A h0 m0 ik vs kvs tl im vm kvm tm X T M T2 H) (cells slots : Nat) (hc0 : cells ≤ 590000) (hs0 : slots ≤ 7000000) (hS : va_S A s.heap H locs) (ls : Array Slot) (hl : lv_has ls 4 [(0, .ref b), (1, .ref h0), (2, .ref m0), (3, .int (nI i))]) (hcp : ik = im ∧ vs = vm ∧ (im = 0 ∨ kvs = kvm) ∧ tl = tm) (kk : ∀ (ik : Int32) (vs kvs : VS) (tl : List Nat) (im : Int32) (vm kvm : VS) (tm : List Nat) (X : va_W) (T : List (ClassId × FieldType)) (M : va_W) (H : Heap) (locs : List Loc), Lst dC dI ad bS Y s A h0 m0 ik vs kvs tl im vm kvm tm X T M T2 H → (ik = im ∧ vs = vm ∧ (im = 0 ∨ kvs = kvm) ∧ tl = tm) → va_S A s.heap H locs → W p l e room_1 s m #[Value.ref b] below meth c H locs (cells + 8) (slots + 200) (lw_Z below #[Value.ref b] s) (F0 m 1108 ls [])) : W p l e room_1 s m #[Value.ref b] below meth c H locs cells slots (lw_Z below #[Value.ref b] s) (F0 m 567 ls []) := by
  obtain ⟨hx, hb, hr, hml, hown, hts0, hX, hbl, hlocks, hgv⟩ := id C0
  have hown : s.vm.findClass RL = some m.cls := hown
  have hb : c.code = cL_law := hb
  have hts : ∀ w ∈ lw_tbl, w.before #[Value.ref b] s = true := fun w h => hts0 w (wsL_law_in w h)
  have hA : ∀ q : Nat, s.heap.size ≤ q → A q := fun q h => by rw [hAe]; exact h
  have hbA : ¬ A b := by rw [hAe]; exact Nat.not_le.mpr hbl
  refine lv_aload_n hx hb dL_law_567 rfl (lv_at hl 1 rfl) ?_
  refine lv_aload_n hx hb dL_law_568 rfl (lv_at hl 0 rfl) ?_
  refine lv_iload_n hx hb dL_law_569 rfl (lv_at hl 3 rfl) ?_
  refine lv_iconst (v := 1) hx hb dL_law_570 (by decide) ?_
  refine lv_iadd hx hb dL_law_571 ?_
  refine qi_as (y := nI (i + 1)) (nI_add i 1) ?_
  refine va_sld hx hb hX hbl hbA hS (vp_in_nI (n := i + 1) (N := L) (by omega) (by omega)) dL_law_572 ?_
  refine qi_as (y := xs (i + 1)) (by rw [nI_clamp (by omega)]) ?_
  refine lv_aload_n hx hb dL_law_573 rfl (lv_at hl 0 rfl) ?_
  refine lv_iload_n hx hb dL_law_574 rfl (lv_at hl 3 rfl) ?_
  refine lv_iconst (v := 2) hx hb dL_law_575 (by decide) ?_
  refine lv_iadd hx hb dL_law_576 ?_
  refine qi_as (y := nI (i + 2)) (nI_add i 2) ?_
  refine va_sld hx hb hX hbl hbA hS (vp_in_nI (n := i + 2) (N := L) (by omega) (by omega)) dL_law_577 ?_
  refine qi_as (y := xs (i + 2)) (by rw [nI_clamp (by omega)]) ?_
  refine lv_aload_n hx hb dL_law_578 rfl (lv_at hl 0 rfl) ?_
  refine lv_iload_n hx hb dL_law_579 rfl (lv_at hl 3 rfl) ?_
  refine lv_iconst (v := 3) hx hb dL_law_580 (by decide) ?_
  refine lv_iadd hx hb dL_law_581 ?_
  refine qi_as (y := nI (i + 3)) (nI_add i 3) ?_
  refine va_sld hx hb hX hbl hbA hS (vp_in_nI (n := i + 3) (N := L) (by omega) (by omega)) dL_law_582 ?_
  refine qi_as (y := xs (i + 3)) (by rw [nI_clamp (by omega)]) ?_
  refine lx_i (va_runV (As := [.int (xs (i + 1)), .int (xs (i + 2)), .int (xs (i + 3))]) (rest := []) ⟨hx, hb, hml, hown, hts⟩ (w_build l dC dI gd kA ad cB bS sK sV Y ik vs kvs tl T h0 X (xs (i + 1)) (xs (i + 2)) (xs (i + 3)) H.size) (cwV 3 hts gL_law_X11_build rfl rfl rfl hd_yX11_build ⟨Nat.le_of_ble_eq_true rfl, Nat.le_of_ble_eq_true rfl⟩) ⟨fun a U g mk q => by obtain ⟨q0, q1, qX, qK, qY1, qY2, qG⟩ := q; exact ⟨q0, q1, qX, va_K.moved (u := U) (U := U.calling g mk a) (Vm.Alike.refl U.vm) qK, qY1, qY2, qG.same rfl rfl⟩, hLS.1.recv hLS.2.2.1, fun U hU hW => ⟨rfl, by rw [hU], by rw [hU]; exact hLS.1, va_K.moved hW.alike hLS.2.2.1, hLS.2.2.2.2.2.2.1, fun q hq hy => absurd (hLS.2.2.2.2.2.2.2.2 q hy) (Nat.not_lt.mpr hq), hGA.call hS hU hW (bl_in hLS.2.2.2.2.1 hS hA)⟩⟩ rfl rfl hl.1 rfl (lv_room (Nat.le_of_ble_eq_true rfl)) dL_law_583 ⟨by show _ ≤ 600000; omega, by show _ ≤ 7302250; omega⟩) hLS hS hA (fun r1_ u_ H locs X T hp1 hLS hS => ?_)
  obtain ⟨e1_, rfl⟩ := hp1
  have hLS : Lst dC dI ad bS Y s A h0 m0 ik vs kvs tl im vm kvm tm X T M T2 H := hLS
  refine lv_pop hx hb dL_law_586 rfl ?_
  refine lv_aload_n hx hb dL_law_587 rfl (lv_at hl 2 rfl) ?_
  refine lv_aload_n hx hb dL_law_588 rfl (lv_at hl 0 rfl) ?_
  refine lv_iload_n hx hb dL_law_589 rfl (lv_at hl 3 rfl) ?_
  refine lv_iconst (v := 1) hx hb dL_law_590 (by decide) ?_
  refine lv_iadd hx hb dL_law_591 ?_
  refine qi_as (y := nI (i + 1)) (nI_add i 1) ?_
  refine va_sld hx hb hX hbl hbA hS (vp_in_nI (n := i + 1) (N := L) (by omega) (by omega)) dL_law_592 ?_
  refine qi_as (y := xs (i + 1)) (by rw [nI_clamp (by omega)]) ?_
  refine lv_aload_n hx hb dL_law_593 rfl (lv_at hl 0 rfl) ?_
  refine lv_iload_n hx hb dL_law_594 rfl (lv_at hl 3 rfl) ?_
  refine lv_iconst (v := 2) hx hb dL_law_595 (by decide) ?_
  refine lv_iadd hx hb dL_law_596 ?_
  refine qi_as (y := nI (i + 2)) (nI_add i 2) ?_
  refine va_sld hx hb hX hbl hbA hS (vp_in_nI (n := i + 2) (N := L) (by omega) (by omega)) dL_law_597 ?_
  refine qi_as (y := xs (i + 2)) (by rw [nI_clamp (by omega)]) ?_
  refine lv_aload_n hx hb dL_law_598 rfl (lv_at hl 0 rfl) ?_
  refine lv_iload_n hx hb dL_law_599 rfl (lv_at hl 3 rfl) ?_
  refine lv_iconst (v := 3) hx hb dL_law_600 (by decide) ?_
  refine lv_iadd hx hb dL_law_601 ?_
  refine qi_as (y := nI (i + 3)) (nI_add i 3) ?_
  refine va_sld hx hb hX hbl hbA hS (vp_in_nI (n := i + 3) (N := L) (by omega) (by omega)) dL_law_602 ?_
  refine qi_as (y := xs (i + 3)) (by rw [nI_clamp (by omega)]) ?_
  refine lm_i (va_runV (As := [.int (xs (i + 1)), .int (xs (i + 2)), .int (xs (i + 3))]) (rest := []) ⟨hx, hb, hml, hown, hts⟩ (v_build l dC dI sK sV im vm kvm tm T2 m0 M (xs (i + 1)) (xs (i + 2)) (xs (i + 3)) H.size) (cwV 3 hts gL_law_X12_build rfl rfl rfl hd_yX12_build ⟨Nat.le_of_ble_eq_true rfl, Nat.le_of_ble_eq_true rfl⟩) ⟨fun a U g mk q => by obtain ⟨q0, q1, qX, qK, qG⟩ := q; exact ⟨q0, q1, qX, va_K.moved (u := U) (U := U.calling g mk a) (Vm.Alike.refl U.vm) qK, qG.same rfl rfl⟩, hLS.2.1.recv hLS.2.2.2.1, fun U hU hW => ⟨rfl, by rw [hU], by rw [hU]; exact hLS.2.1, va_K.moved hW.alike hLS.2.2.2.1, hGA.2.2.2.2.2.2.call hS hU hW (bl_in hLS.2.2.2.2.2.1 hS hA)⟩⟩ rfl rfl hl.1 rfl (lv_room (Nat.le_of_ble_eq_true rfl)) dL_law_603 ⟨by show _ ≤ 600000; omega, by show _ ≤ 7302250; omega⟩) hLS hS hA (fun r2_ u_ H locs M hp2 hLS hS => ?_)
  obtain ⟨e2_, rfl⟩ := hp2
  have hLS : Lst dC dI ad bS Y s A h0 m0 ik vs kvs tl im vm kvm tm X T M T2 H := hLS
  refine lv_pop hx hb dL_law_606 rfl ?_
  refine lv_goto (tgt := 1108) hx hb dL_law_607 (by decide) ?_
  refine W.widen (k := cells + 8) (n := slots + 200) (by omega) (by omega) ?_
  exact kk ik vs kvs tl im vm kvm tm X T M H locs hLS ⟨hcp.1, by rw [hcp.2.1], hcp.2.2⟩ hS
