def dk22icase_cL_law_0 : List (Nat × Instr × Nat) := [(610, .aload_n 1, 1), (611, .aload_n 0, 1), (612, .iload_n 3, 1), (613, .iconst 1, 1), (614, .iadd, 1), (615, .iaload, 1), (616, .invokevirtual 77, 3), (619, .pop, 1), (620, .aload_n 2, 1), (621, .aload_n 0, 1), (622, .iload_n 3, 1), (623, .iconst 1, 1), (624, .iadd, 1), (625, .iaload, 1), (626, .invokevirtual 80, 3), (629, .pop, 1), (630, .goto 478, 3), (633, .aload_n 1, 1), (634, .aload_n 0, 1), (635, .iload_n 3, 1), (636, .iconst 1, 1), (637, .iadd, 1), (638, .iaload, 1), (639, .invokevirtual 81, 3), (642, .pop, 1), (643, .aload_n 2, 1), (644, .aload_n 0, 1), (645, .iload_n 3, 1), (646, .iconst 1, 1), (647, .iadd, 1), (648, .iaload, 1), (649, .invokevirtual 84, 3), (652, .pop, 1), (653, .goto 455, 3)]
set_option maxRecDepth 100000 in
theorem dk22icase_cL_law_0_a : dkA cL_law dk22icase_cL_law_0 = true := by decide +kernel
theorem dL_law_610 : decode cL_law 610 = .ok (.aload_n 1, 1) := dkAt dk22icase_cL_law_0_a 0 rfl
theorem dL_law_611 : decode cL_law 611 = .ok (.aload_n 0, 1) := dkAt dk22icase_cL_law_0_a 1 rfl
theorem dL_law_612 : decode cL_law 612 = .ok (.iload_n 3, 1) := dkAt dk22icase_cL_law_0_a 2 rfl
theorem dL_law_613 : decode cL_law 613 = .ok (.iconst 1, 1) := dkAt dk22icase_cL_law_0_a 3 rfl
theorem dL_law_614 : decode cL_law 614 = .ok (.iadd, 1) := dkAt dk22icase_cL_law_0_a 4 rfl
theorem dL_law_615 : decode cL_law 615 = .ok (.iaload, 1) := dkAt dk22icase_cL_law_0_a 5 rfl
theorem dL_law_616 : decode cL_law 616 = .ok (.invokevirtual 77, 3) := dkAt dk22icase_cL_law_0_a 6 rfl
theorem dL_law_619 : decode cL_law 619 = .ok (.pop, 1) := dkAt dk22icase_cL_law_0_a 7 rfl
theorem dL_law_620 : decode cL_law 620 = .ok (.aload_n 2, 1) := dkAt dk22icase_cL_law_0_a 8 rfl
theorem dL_law_621 : decode cL_law 621 = .ok (.aload_n 0, 1) := dkAt dk22icase_cL_law_0_a 9 rfl
theorem dL_law_622 : decode cL_law 622 = .ok (.iload_n 3, 1) := dkAt dk22icase_cL_law_0_a 10 rfl
theorem dL_law_623 : decode cL_law 623 = .ok (.iconst 1, 1) := dkAt dk22icase_cL_law_0_a 11 rfl
theorem dL_law_624 : decode cL_law 624 = .ok (.iadd, 1) := dkAt dk22icase_cL_law_0_a 12 rfl
theorem dL_law_625 : decode cL_law 625 = .ok (.iaload, 1) := dkAt dk22icase_cL_law_0_a 13 rfl
theorem dL_law_626 : decode cL_law 626 = .ok (.invokevirtual 80, 3) := dkAt dk22icase_cL_law_0_a 14 rfl
theorem dL_law_629 : decode cL_law 629 = .ok (.pop, 1) := dkAt dk22icase_cL_law_0_a 15 rfl
theorem dL_law_630 : decode cL_law 630 = .ok (.goto 478, 3) := dkAt dk22icase_cL_law_0_a 16 rfl
theorem dL_law_633 : decode cL_law 633 = .ok (.aload_n 1, 1) := dkAt dk22icase_cL_law_0_a 17 rfl
theorem dL_law_634 : decode cL_law 634 = .ok (.aload_n 0, 1) := dkAt dk22icase_cL_law_0_a 18 rfl
theorem dL_law_635 : decode cL_law 635 = .ok (.iload_n 3, 1) := dkAt dk22icase_cL_law_0_a 19 rfl
theorem dL_law_636 : decode cL_law 636 = .ok (.iconst 1, 1) := dkAt dk22icase_cL_law_0_a 20 rfl
theorem dL_law_637 : decode cL_law 637 = .ok (.iadd, 1) := dkAt dk22icase_cL_law_0_a 21 rfl
theorem dL_law_638 : decode cL_law 638 = .ok (.iaload, 1) := dkAt dk22icase_cL_law_0_a 22 rfl
theorem dL_law_639 : decode cL_law 639 = .ok (.invokevirtual 81, 3) := dkAt dk22icase_cL_law_0_a 23 rfl
theorem dL_law_642 : decode cL_law 642 = .ok (.pop, 1) := dkAt dk22icase_cL_law_0_a 24 rfl
theorem dL_law_643 : decode cL_law 643 = .ok (.aload_n 2, 1) := dkAt dk22icase_cL_law_0_a 25 rfl
theorem dL_law_644 : decode cL_law 644 = .ok (.aload_n 0, 1) := dkAt dk22icase_cL_law_0_a 26 rfl
theorem dL_law_645 : decode cL_law 645 = .ok (.iload_n 3, 1) := dkAt dk22icase_cL_law_0_a 27 rfl
theorem dL_law_646 : decode cL_law 646 = .ok (.iconst 1, 1) := dkAt dk22icase_cL_law_0_a 28 rfl
theorem dL_law_647 : decode cL_law 647 = .ok (.iadd, 1) := dkAt dk22icase_cL_law_0_a 29 rfl
theorem dL_law_648 : decode cL_law 648 = .ok (.iaload, 1) := dkAt dk22icase_cL_law_0_a 30 rfl
theorem dL_law_649 : decode cL_law 649 = .ok (.invokevirtual 84, 3) := dkAt dk22icase_cL_law_0_a 31 rfl
theorem dL_law_652 : decode cL_law 652 = .ok (.pop, 1) := dkAt dk22icase_cL_law_0_a 32 rfl
theorem dL_law_653 : decode cL_law 653 = .ok (.goto 455, 3) := dkAt dk22icase_cL_law_0_a 33 rfl
set_option maxHeartbeats 4000000 in
set_option maxRecDepth 100000 in
theorem lc_14 {p : Program} {l : Launch} {e : Env} {s : State} {m : MethodId} {below : List Frame} {meth : Method} {c : Code} {b L : Nat} {xs : Nat → Int32} {A : Nat → Prop} (hAe : A = fun q => s.heap.size ≤ q) (C0 : lw_At p s m meth c b L xs) (dC : Nat → ClassId) (dI : Nat → Nat → Nat) (gd : Nat → Nat) (kA : Nat) (ad : Nat → Nat) (cB bS : Nat) (sK sV : Nat → Nat) (Y : Nat → Prop) (h0 m0 : Nat) (ik : Int32) (vs kvs : VS) (tl : List Nat) (im : Int32) (vm kvm : VS) (tm : List Nat) (X : va_W) (T : List (ClassId × FieldType)) (M : va_W) (T2 : List (ClassId × FieldType)) (hGA : GA gd kA ad cB bS sK sV A s) (i : Nat) (hi : i + 5 ≤ L) (hL : L ≤ 320) (H : Heap) (locs : List Loc) (hLS : Lst dC dI ad bS Y s A h0 m0 ik vs kvs tl im vm kvm tm X T M T2 H) (cells slots : Nat) (hc0 : cells ≤ 590000) (hs0 : slots ≤ 7000000) (hS : va_S A s.heap H locs) (ls : Array Slot) (hl : lv_has ls 4 [(0, .ref b), (1, .ref h0), (2, .ref m0), (3, .int (nI i))]) (hcp : ik = im ∧ vs = vm ∧ (im = 0 ∨ kvs = kvm) ∧ tl = tm) (kk : ∀ (ik : Int32) (vs kvs : VS) (tl : List Nat) (im : Int32) (vm kvm : VS) (tm : List Nat) (X : va_W) (T : List (ClassId × FieldType)) (M : va_W) (H : Heap) (locs : List Loc), Lst dC dI ad bS Y s A h0 m0 ik vs kvs tl im vm kvm tm X T M T2 H → (ik = im ∧ vs = vm ∧ (im = 0 ∨ kvs = kvm) ∧ tl = tm) → va_S A s.heap H locs → W p l e room_1 s m #[Value.ref b] below meth c H locs (cells + 8) (slots + 200) (lw_Z below #[Value.ref b] s) (F0 m 1108 ls [])) : W p l e room_1 s m #[Value.ref b] below meth c H locs cells slots (lw_Z below #[Value.ref b] s) (F0 m 610 ls []) := by
  obtain ⟨hx, hb, hr, hml, hown, hts0, hX, hbl, hlocks, hgv⟩ := id C0
  have hown : s.vm.findClass RL = some m.cls := hown
  have hb : c.code = cL_law := hb
  have hts : ∀ w ∈ lw_tbl, w.before #[Value.ref b] s = true := fun w h => hts0 w (wsL_law_in w h)
  have hA : ∀ q : Nat, s.heap.size ≤ q → A q := fun q h => by rw [hAe]; exact h
  have hbA : ¬ A b := by rw [hAe]; exact Nat.not_le.mpr hbl
  refine lv_aload_n hx hb dL_law_610 rfl (lv_at hl 1 rfl) ?_
  refine lv_aload_n hx hb dL_law_611 rfl (lv_at hl 0 rfl) ?_
  refine lv_iload_n hx hb dL_law_612 rfl (lv_at hl 3 rfl) ?_
  refine lv_iconst (v := 1) hx hb dL_law_613 (by decide) ?_
  refine lv_iadd hx hb dL_law_614 ?_
  refine qi_as (y := nI (i + 1)) (nI_add i 1) ?_
  refine va_sld hx hb hX hbl hbA hS (vp_in_nI (n := i + 1) (N := L) (by omega) (by omega)) dL_law_615 ?_
  refine qi_as (y := xs (i + 1)) (by rw [nI_clamp (by omega)]) ?_
  refine lx_i (va_runV (As := [.int (xs (i + 1))]) (rest := []) ⟨hx, hb, hml, hown, hts⟩ (w_drift l dC dI gd kA ad cB bS sK sV Y ik vs kvs tl T h0 X (xs (i + 1)) H.size) (cwV 1 hts gL_law_X11_drift rfl rfl rfl hd_yX11_drift ⟨Nat.le_of_ble_eq_true rfl, Nat.le_of_ble_eq_true rfl⟩) ⟨fun a U g mk q => by obtain ⟨q0, q1, qX, qK, qY1, qY2, qG⟩ := q; exact ⟨q0, q1, qX, va_K.moved (u := U) (U := U.calling g mk a) (Vm.Alike.refl U.vm) qK, qY1, qY2, qG.same rfl rfl⟩, hLS.1.recv hLS.2.2.1, fun U hU hW => ⟨rfl, by rw [hU], by rw [hU]; exact hLS.1, va_K.moved hW.alike hLS.2.2.1, hLS.2.2.2.2.2.2.1, fun q hq hy => absurd (hLS.2.2.2.2.2.2.2.2 q hy) (Nat.not_lt.mpr hq), hGA.call hS hU hW (bl_in hLS.2.2.2.2.1 hS hA)⟩⟩ rfl rfl hl.1 rfl (lv_room (Nat.le_of_ble_eq_true rfl)) dL_law_616 ⟨by show _ ≤ 600000; omega, by show _ ≤ 7302250; omega⟩) hLS hS hA (fun r1_ u_ H locs X T hp1 hLS hS => ?_)
  obtain ⟨e1_, rfl⟩ := hp1
  have hLS : Lst dC dI ad bS Y s A h0 m0 ik vs kvs tl im vm kvm tm X T M T2 H := hLS
  refine lv_pop hx hb dL_law_619 rfl ?_
  refine lv_aload_n hx hb dL_law_620 rfl (lv_at hl 2 rfl) ?_
  refine lv_aload_n hx hb dL_law_621 rfl (lv_at hl 0 rfl) ?_
  refine lv_iload_n hx hb dL_law_622 rfl (lv_at hl 3 rfl) ?_
  refine lv_iconst (v := 1) hx hb dL_law_623 (by decide) ?_
  refine lv_iadd hx hb dL_law_624 ?_
  refine qi_as (y := nI (i + 1)) (nI_add i 1) ?_
  refine va_sld hx hb hX hbl hbA hS (vp_in_nI (n := i + 1) (N := L) (by omega) (by omega)) dL_law_625 ?_
  refine qi_as (y := xs (i + 1)) (by rw [nI_clamp (by omega)]) ?_
  refine lm_i (va_runV (As := [.int (xs (i + 1))]) (rest := []) ⟨hx, hb, hml, hown, hts⟩ (v_drift l dC dI sK sV im vm kvm tm T2 m0 M (xs (i + 1)) H.size) (cwV 1 hts gL_law_X12_drift rfl rfl rfl hd_yX12_drift ⟨Nat.le_of_ble_eq_true rfl, Nat.le_of_ble_eq_true rfl⟩) ⟨fun a U g mk q => by obtain ⟨q0, q1, qX, qK, qG⟩ := q; exact ⟨q0, q1, qX, va_K.moved (u := U) (U := U.calling g mk a) (Vm.Alike.refl U.vm) qK, qG.same rfl rfl⟩, hLS.2.1.recv hLS.2.2.2.1, fun U hU hW => ⟨rfl, by rw [hU], by rw [hU]; exact hLS.2.1, va_K.moved hW.alike hLS.2.2.2.1, hGA.2.2.2.2.2.2.call hS hU hW (bl_in hLS.2.2.2.2.2.1 hS hA)⟩⟩ rfl rfl hl.1 rfl (lv_room (Nat.le_of_ble_eq_true rfl)) dL_law_626 ⟨by show _ ≤ 600000; omega, by show _ ≤ 7302250; omega⟩) hLS hS hA (fun r2_ u_ H locs M hp2 hLS hS => ?_)
  obtain ⟨e2_, rfl⟩ := hp2
  have hLS : Lst dC dI ad bS Y s A h0 m0 ik vs kvs tl im vm kvm tm X T M T2 H := hLS
  refine lv_pop hx hb dL_law_629 rfl ?_
  refine lv_goto (tgt := 1108) hx hb dL_law_630 (by decide) ?_
  refine W.widen (k := cells + 8) (n := slots + 200) (by omega) (by omega) ?_
  exact kk ik vs kvs tl im vm kvm tm X T M H locs hLS ⟨hcp.1, by rw [hcp.2.1], hcp.2.2⟩ hS

set_option maxHeartbeats 4000000 in
set_option maxRecDepth 100000 in
theorem lc_15 {p : Program} {l : Launch} {e : Env} {s : State} {m : MethodId} {below : List Frame} {meth : Method} {c : Code} {b L : Nat} {xs : Nat → Int32} {A : Nat → Prop} (hAe : A = fun q => s.heap.size ≤ q) (C0 : lw_At p s m meth c b L xs) (dC : Nat → ClassId) (dI : Nat → Nat → Nat) (gd : Nat → Nat) (kA : Nat) (ad : Nat → Nat) (cB bS : Nat) (sK sV : Nat → Nat) (Y : Nat → Prop) (h0 m0 : Nat) (ik : Int32) (vs kvs : VS) (tl : List Nat) (im : Int32) (vm kvm : VS) (tm : List Nat) (X : va_W) (T : List (ClassId × FieldType)) (M : va_W) (T2 : List (ClassId × FieldType)) (hGA : GA gd kA ad cB bS sK sV A s) (i : Nat) (hi : i + 5 ≤ L) (hL : L ≤ 320) (H : Heap) (locs : List Loc) (hLS : Lst dC dI ad bS Y s A h0 m0 ik vs kvs tl im vm kvm tm X T M T2 H) (cells slots : Nat) (hc0 : cells ≤ 590000) (hs0 : slots ≤ 7000000) (hS : va_S A s.heap H locs) (ls : Array Slot) (hl : lv_has ls 4 [(0, .ref b), (1, .ref h0), (2, .ref m0), (3, .int (nI i))]) (hcp : ik = im ∧ vs = vm ∧ (im = 0 ∨ kvs = kvm) ∧ tl = tm) (kk : ∀ (ik : Int32) (vs kvs : VS) (tl : List Nat) (im : Int32) (vm kvm : VS) (tm : List Nat) (X : va_W) (T : List (ClassId × FieldType)) (M : va_W) (H : Heap) (locs : List Loc), Lst dC dI ad bS Y s A h0 m0 ik vs kvs tl im vm kvm tm X T M T2 H → (ik = im ∧ vs = vm ∧ (im = 0 ∨ kvs = kvm) ∧ tl = tm) → va_S A s.heap H locs → W p l e room_1 s m #[Value.ref b] below meth c H locs (cells + 8) (slots + 200) (lw_Z below #[Value.ref b] s) (F0 m 1108 ls [])) : W p l e room_1 s m #[Value.ref b] below meth c H locs cells slots (lw_Z below #[Value.ref b] s) (F0 m 633 ls []) := by
  obtain ⟨hx, hb, hr, hml, hown, hts0, hX, hbl, hlocks, hgv⟩ := id C0
  have hown : s.vm.findClass RL = some m.cls := hown
  have hb : c.code = cL_law := hb
  have hts : ∀ w ∈ lw_tbl, w.before #[Value.ref b] s = true := fun w h => hts0 w (wsL_law_in w h)
  have hA : ∀ q : Nat, s.heap.size ≤ q → A q := fun q h => by rw [hAe]; exact h
  have hbA : ¬ A b := by rw [hAe]; exact Nat.not_le.mpr hbl
  refine lv_aload_n hx hb dL_law_633 rfl (lv_at hl 1 rfl) ?_
  refine lv_aload_n hx hb dL_law_634 rfl (lv_at hl 0 rfl) ?_
  refine lv_iload_n hx hb dL_law_635 rfl (lv_at hl 3 rfl) ?_
  refine lv_iconst (v := 1) hx hb dL_law_636 (by decide) ?_
  refine lv_iadd hx hb dL_law_637 ?_
  refine qi_as (y := nI (i + 1)) (nI_add i 1) ?_
  refine va_sld hx hb hX hbl hbA hS (vp_in_nI (n := i + 1) (N := L) (by omega) (by omega)) dL_law_638 ?_
  refine qi_as (y := xs (i + 1)) (by rw [nI_clamp (by omega)]) ?_
  refine lx_i (va_runV (As := [.int (xs (i + 1))]) (rest := []) ⟨hx, hb, hml, hown, hts⟩ (w_walk l dC dI gd kA ad cB bS sK sV Y ik vs kvs tl T h0 X (xs (i + 1)) H.size) (cwV 1 hts gL_law_X11_walk rfl rfl rfl hd_yX11_walk ⟨Nat.le_of_ble_eq_true rfl, Nat.le_of_ble_eq_true rfl⟩) ⟨fun a U g mk q => by obtain ⟨q0, q1, qX, qK, qY1, qY2, qG⟩ := q; exact ⟨q0, q1, qX, va_K.moved (u := U) (U := U.calling g mk a) (Vm.Alike.refl U.vm) qK, qY1, qY2, qG.same rfl rfl⟩, hLS.1.recv hLS.2.2.1, fun U hU hW => ⟨rfl, by rw [hU], by rw [hU]; exact hLS.1, va_K.moved hW.alike hLS.2.2.1, hLS.2.2.2.2.2.2.1, fun q hq hy => absurd (hLS.2.2.2.2.2.2.2.2 q hy) (Nat.not_lt.mpr hq), hGA.call hS hU hW (bl_in hLS.2.2.2.2.1 hS hA)⟩⟩ rfl rfl hl.1 rfl (lv_room (Nat.le_of_ble_eq_true rfl)) dL_law_639 ⟨by show _ ≤ 600000; omega, by show _ ≤ 7302250; omega⟩) hLS hS hA (fun r1_ u_ H locs X T hp1 hLS hS => ?_)
  obtain ⟨e1_, rfl⟩ := hp1
  have hLS : Lst dC dI ad bS Y s A h0 m0 ik (vs.1, wkN vs.2.1 (xs (i + 1)), vs.2.2.1, vs.2.2.2.1, vs.2.2.2.2.1, vs.2.2.2.2.2.1, vs.2.2.2.2.2.2.1, vs.2.2.2.2.2.2.2.1, vs.2.2.2.2.2.2.2.2.1, vs.2.2.2.2.2.2.2.2.2.1, vs.2.2.2.2.2.2.2.2.2.2.1, vs.2.2.2.2.2.2.2.2.2.2.2.1, vs.2.2.2.2.2.2.2.2.2.2.2.2) kvs tl im vm kvm tm X T M T2 H := hLS
  refine lv_pop hx hb dL_law_642 rfl ?_
  refine lv_aload_n hx hb dL_law_643 rfl (lv_at hl 2 rfl) ?_
  refine lv_aload_n hx hb dL_law_644 rfl (lv_at hl 0 rfl) ?_
  refine lv_iload_n hx hb dL_law_645 rfl (lv_at hl 3 rfl) ?_
  refine lv_iconst (v := 1) hx hb dL_law_646 (by decide) ?_
  refine lv_iadd hx hb dL_law_647 ?_
  refine qi_as (y := nI (i + 1)) (nI_add i 1) ?_
  refine va_sld hx hb hX hbl hbA hS (vp_in_nI (n := i + 1) (N := L) (by omega) (by omega)) dL_law_648 ?_
  refine qi_as (y := xs (i + 1)) (by rw [nI_clamp (by omega)]) ?_
  refine lm_i (va_runV (As := [.int (xs (i + 1))]) (rest := []) ⟨hx, hb, hml, hown, hts⟩ (v_walk l dC dI sK sV im vm kvm tm T2 m0 M (xs (i + 1)) H.size) (cwV 1 hts gL_law_X12_walk rfl rfl rfl hd_yX12_walk ⟨Nat.le_of_ble_eq_true rfl, Nat.le_of_ble_eq_true rfl⟩) ⟨fun a U g mk q => by obtain ⟨q0, q1, qX, qK, qG⟩ := q; exact ⟨q0, q1, qX, va_K.moved (u := U) (U := U.calling g mk a) (Vm.Alike.refl U.vm) qK, qG.same rfl rfl⟩, hLS.2.1.recv hLS.2.2.2.1, fun U hU hW => ⟨rfl, by rw [hU], by rw [hU]; exact hLS.2.1, va_K.moved hW.alike hLS.2.2.2.1, hGA.2.2.2.2.2.2.call hS hU hW (bl_in hLS.2.2.2.2.2.1 hS hA)⟩⟩ rfl rfl hl.1 rfl (lv_room (Nat.le_of_ble_eq_true rfl)) dL_law_649 ⟨by show _ ≤ 600000; omega, by show _ ≤ 7302250; omega⟩) hLS hS hA (fun r2_ u_ H locs M hp2 hLS hS => ?_)
  obtain ⟨e2_, rfl⟩ := hp2
  have hLS : Lst dC dI ad bS Y s A h0 m0 ik (vs.1, wkN vs.2.1 (xs (i + 1)), vs.2.2.1, vs.2.2.2.1, vs.2.2.2.2.1, vs.2.2.2.2.2.1, vs.2.2.2.2.2.2.1, vs.2.2.2.2.2.2.2.1, vs.2.2.2.2.2.2.2.2.1, vs.2.2.2.2.2.2.2.2.2.1, vs.2.2.2.2.2.2.2.2.2.2.1, vs.2.2.2.2.2.2.2.2.2.2.2.1, vs.2.2.2.2.2.2.2.2.2.2.2.2) kvs tl im (vm.1, wkN vm.2.1 (xs (i + 1)), vm.2.2.1, vm.2.2.2.1, vm.2.2.2.2.1, vm.2.2.2.2.2.1, vm.2.2.2.2.2.2.1, vm.2.2.2.2.2.2.2.1, vm.2.2.2.2.2.2.2.2.1, vm.2.2.2.2.2.2.2.2.2.1, vm.2.2.2.2.2.2.2.2.2.2.1, vm.2.2.2.2.2.2.2.2.2.2.2.1, vm.2.2.2.2.2.2.2.2.2.2.2.2) kvm tm X T M T2 H := hLS
  refine lv_pop hx hb dL_law_652 rfl ?_
  refine lv_goto (tgt := 1108) hx hb dL_law_653 (by decide) ?_
  refine W.widen (k := cells + 8) (n := slots + 200) (by omega) (by omega) ?_
  exact kk ik (vs.1, wkN vs.2.1 (xs (i + 1)), vs.2.2.1, vs.2.2.2.1, vs.2.2.2.2.1, vs.2.2.2.2.2.1, vs.2.2.2.2.2.2.1, vs.2.2.2.2.2.2.2.1, vs.2.2.2.2.2.2.2.2.1, vs.2.2.2.2.2.2.2.2.2.1, vs.2.2.2.2.2.2.2.2.2.2.1, vs.2.2.2.2.2.2.2.2.2.2.2.1, vs.2.2.2.2.2.2.2.2.2.2.2.2) kvs tl im (vm.1, wkN vm.2.1 (xs (i + 1)), vm.2.2.1, vm.2.2.2.1, vm.2.2.2.2.1, vm.2.2.2.2.2.1, vm.2.2.2.2.2.2.1, vm.2.2.2.2.2.2.2.1, vm.2.2.2.2.2.2.2.2.1, vm.2.2.2.2.2.2.2.2.2.1, vm.2.2.2.2.2.2.2.2.2.2.1, vm.2.2.2.2.2.2.2.2.2.2.2.1, vm.2.2.2.2.2.2.2.2.2.2.2.2) kvm tm X T M H locs hLS ⟨hcp.1, by rw [hcp.2.1], hcp.2.2⟩ hS
