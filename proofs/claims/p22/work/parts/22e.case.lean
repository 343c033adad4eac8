def dk22ecase_cL_law_0 : List (Nat × Instr × Nat) := [(468, .aload_n 1, 1), (469, .aload_n 0, 1), (470, .iload_n 3, 1), (471, .iconst 1, 1), (472, .iadd, 1), (473, .iaload, 1), (474, .aload_n 0, 1), (475, .iload_n 3, 1), (476, .iconst 2, 1), (477, .iadd, 1), (478, .iaload, 1), (479, .invokevirtual 61, 3), (482, .pop, 1), (483, .aload_n 2, 1), (484, .aload_n 0, 1), (485, .iload_n 3, 1), (486, .iconst 1, 1), (487, .iadd, 1), (488, .iaload, 1), (489, .aload_n 0, 1), (490, .iload_n 3, 1), (491, .iconst 2, 1), (492, .iadd, 1), (493, .iaload, 1), (494, .invokevirtual 64, 3), (497, .pop, 1), (498, .goto 610, 3)]
set_option maxRecDepth 100000 in
theorem dk22ecase_cL_law_0_a : dkA cL_law dk22ecase_cL_law_0 = true := by decide +kernel
theorem dL_law_468 : decode cL_law 468 = .ok (.aload_n 1, 1) := dkAt dk22ecase_cL_law_0_a 0 rfl
theorem dL_law_469 : decode cL_law 469 = .ok (.aload_n 0, 1) := dkAt dk22ecase_cL_law_0_a 1 rfl
theorem dL_law_470 : decode cL_law 470 = .ok (.iload_n 3, 1) := dkAt dk22ecase_cL_law_0_a 2 rfl
theorem dL_law_471 : decode cL_law 471 = .ok (.iconst 1, 1) := dkAt dk22ecase_cL_law_0_a 3 rfl
theorem dL_law_472 : decode cL_law 472 = .ok (.iadd, 1) := dkAt dk22ecase_cL_law_0_a 4 rfl
theorem dL_law_473 : decode cL_law 473 = .ok (.iaload, 1) := dkAt dk22ecase_cL_law_0_a 5 rfl
theorem dL_law_474 : decode cL_law 474 = .ok (.aload_n 0, 1) := dkAt dk22ecase_cL_law_0_a 6 rfl
theorem dL_law_475 : decode cL_law 475 = .ok (.iload_n 3, 1) := dkAt dk22ecase_cL_law_0_a 7 rfl
theorem dL_law_476 : decode cL_law 476 = .ok (.iconst 2, 1) := dkAt dk22ecase_cL_law_0_a 8 rfl
theorem dL_law_477 : decode cL_law 477 = .ok (.iadd, 1) := dkAt dk22ecase_cL_law_0_a 9 rfl
theorem dL_law_478 : decode cL_law 478 = .ok (.iaload, 1) := dkAt dk22ecase_cL_law_0_a 10 rfl
theorem dL_law_479 : decode cL_law 479 = .ok (.invokevirtual 61, 3) := dkAt dk22ecase_cL_law_0_a 11 rfl
theorem dL_law_482 : decode cL_law 482 = .ok (.pop, 1) := dkAt dk22ecase_cL_law_0_a 12 rfl
theorem dL_law_483 : decode cL_law 483 = .ok (.aload_n 2, 1) := dkAt dk22ecase_cL_law_0_a 13 rfl
theorem dL_law_484 : decode cL_law 484 = .ok (.aload_n 0, 1) := dkAt dk22ecase_cL_law_0_a 14 rfl
theorem dL_law_485 : decode cL_law 485 = .ok (.iload_n 3, 1) := dkAt dk22ecase_cL_law_0_a 15 rfl
theorem dL_law_486 : decode cL_law 486 = .ok (.iconst 1, 1) := dkAt dk22ecase_cL_law_0_a 16 rfl
theorem dL_law_487 : decode cL_law 487 = .ok (.iadd, 1) := dkAt dk22ecase_cL_law_0_a 17 rfl
theorem dL_law_488 : decode cL_law 488 = .ok (.iaload, 1) := dkAt dk22ecase_cL_law_0_a 18 rfl
theorem dL_law_489 : decode cL_law 489 = .ok (.aload_n 0, 1) := dkAt dk22ecase_cL_law_0_a 19 rfl
theorem dL_law_490 : decode cL_law 490 = .ok (.iload_n 3, 1) := dkAt dk22ecase_cL_law_0_a 20 rfl
theorem dL_law_491 : decode cL_law 491 = .ok (.iconst 2, 1) := dkAt dk22ecase_cL_law_0_a 21 rfl
theorem dL_law_492 : decode cL_law 492 = .ok (.iadd, 1) := dkAt dk22ecase_cL_law_0_a 22 rfl
theorem dL_law_493 : decode cL_law 493 = .ok (.iaload, 1) := dkAt dk22ecase_cL_law_0_a 23 rfl
theorem dL_law_494 : decode cL_law 494 = .ok (.invokevirtual 64, 3) := dkAt dk22ecase_cL_law_0_a 24 rfl
theorem dL_law_497 : decode cL_law 497 = .ok (.pop, 1) := dkAt dk22ecase_cL_law_0_a 25 rfl
theorem dL_law_498 : decode cL_law 498 = .ok (.goto 610, 3) := dkAt dk22ecase_cL_law_0_a 26 rfl
set_option maxHeartbeats 4000000 in
set_option maxRecDepth 100000 in
theorem lc_10 {p : Program} {l : Launch} {e : Env} {s : State} {m : MethodId} {below : List Frame} {meth : Method} {c : Code} {b L : Nat} {xs : Nat → Int32} {A : Nat → Prop} (hAe : A = fun q => s.heap.size ≤ q) (C0 : lw_At p s m meth c b L xs) (dC : Nat → ClassId) (dI : Nat → Nat → Nat) (gd : Nat → Nat) (kA : Nat) (ad : Nat → Nat) (cB bS : Nat) (sK sV : Nat → Nat) (Y : Nat → Prop) (h0 m0 : Nat) (ik : Int32) (vs kvs : VS) (tl : List Nat) (im : Int32) (vm kvm : VS) (tm : List Nat) (X : va_W) (T : List (ClassId × FieldType)) (M : va_W) (T2 : List (ClassId × FieldType)) (hGA : GA gd kA ad cB bS sK sV A s) (i : Nat) (hi : i + 5 ≤ L) (hL : L ≤ 320) (H : Heap) (locs : List Loc) (hLS : Lst dC dI ad bS Y s A h0 m0 ik vs kvs tl im vm kvm tm X T M T2 H) (cells slots : Nat) (hc0 : cells ≤ 590000) (hs0 : slots ≤ 7000000) (hS : va_S A s.heap H locs) (ls : Array Slot) (hl : lv_has ls 4 [(0, .ref b), (1, .ref h0), (2, .ref m0), (3, .int (nI i))]) (hcp : ik = im ∧ vs = vm ∧ (im = 0 ∨ kvs = kvm) ∧ tl = tm) (kk : ∀ (ik : Int32) (vs kvs : VS) (tl : List Nat) (im : Int32) (vm kvm : VS) (tm : List Nat) (X : va_W) (T : List (ClassId × FieldType)) (M : va_W) (H : Heap) (locs : List Loc), Lst dC dI ad bS Y s A h0 m0 ik vs kvs tl im vm kvm tm X T M T2 H → (ik = im ∧ vs = vm ∧ (im = 0 ∨ kvs = kvm) ∧ tl = tm) → va_S A s.heap H locs → W p l e room_1 s m #[Value.ref b] below meth c H locs (cells + 8) (slots + 200) (lw_Z below #[Value.ref b] s) (F0 m 1108 ls [])) : W p l e room_1 s m #[Value.ref b] below meth c H locs cells slots (lw_Z below #[Value.ref b] s) (F0 m 468 ls []) := by
  obtain ⟨hx, hb, hr, hml, hown, hts0, hX, hbl, hlocks, hgv⟩ := id C0
  have hown : s.vm.findClass RL = some m.cls := hown
  have hb : c.code = cL_law := hb
  have hts : ∀ w ∈ lw_tbl, w.before #[Value.ref b] s = true := fun w h => hts0 w (wsL_law_in w h)
  have hA : ∀ q : Nat, s.heap.size ≤ q → A q := fun q h => by rw [hAe]; exact h
  have hbA : ¬ A b := by rw [hAe]; exact Nat.not_le.mpr hbl
  refine lv_aload_n hx hb dL_law_468 rfl (lv_at hl 1 rfl) ?_
  refine lv_aload_n hx hb dL_law_469 rfl (lv_at hl 0 rfl) ?_
  refine lv_iload_n hx hb dL_law_470 rfl (lv_at hl 3 rfl) ?_
  refine lv_iconst (v := 1) hx hb dL_law_471 (by decide) ?_
  refine lv_iadd hx hb dL_law_472 ?_
  refine qi_as (y := nI (i + 1)) (nI_add i 1) ?_
  refine va_sld hx hb hX hbl hbA hS (vp_in_nI (n := i + 1) (N := L) (by omega) (by omega)) dL_law_473 ?_
  refine qi_as (y := xs (i + 1)) (by rw [nI_clamp (by omega)]) ?_
  refine lv_aload_n hx hb dL_law_474 rfl (lv_at hl 0 rfl) ?_
  refine lv_iload_n hx hb dL_law_475 rfl (lv_at hl 3 rfl) ?_
  refine lv_iconst (v := 2) hx hb dL_law_476 (by decide) ?_
  refine lv_iadd hx hb dL_law_477 ?_
  refine qi_as (y := nI (i + 2)) (nI_add i 2) ?_
  refine va_sld hx hb hX hbl hbA hS (vp_in_nI (n := i + 2) (N := L) (by omega) (by omega)) dL_law_478 ?_
  refine qi_as (y := xs (i + 2)) (by rw [nI_clamp (by omega)]) ?_
  refine lx_i (va_runV (As := [.int (xs (i + 1)), .int (xs (i + 2))]) (rest := []) ⟨hx, hb, hml, hown, hts⟩ (w_via l dC dI gd kA ad cB bS sK sV Y ik vs kvs tl T h0 X (xs (i + 1)) (xs (i + 2)) H.size) (cwV 2 hts gL_law_X11_via rfl rfl rfl hd_yX11_via ⟨Nat.le_of_ble_eq_true rfl, Nat.le_of_ble_eq_true rfl⟩) ⟨fun a U g mk q => by obtain ⟨q0, q1, qX, qK, qY1, qY2, qG⟩ := q; exact ⟨q0, q1, qX, va_K.moved (u := U) (U := U.calling g mk a) (Vm.Alike.refl U.vm) qK, qY1, qY2, qG.same rfl rfl⟩, hLS.1.recv hLS.2.2.1, fun U hU hW => ⟨rfl, by rw [hU], by rw [hU]; exact hLS.1, va_K.moved hW.alike hLS.2.2.1, hLS.2.2.2.2.2.2.1, fun q hq hy => absurd (hLS.2.2.2.2.2.2.2.2 q hy) (Nat.not_lt.mpr hq), hGA.call hS hU hW (bl_in hLS.2.2.2.2.1 hS hA)⟩⟩ rfl rfl hl.1 rfl (lv_room (Nat.le_of_ble_eq_true rfl)) dL_law_479 ⟨by show _ ≤ 600000; omega, by show _ ≤ 7302250; omega⟩) hLS hS hA (fun r1_ u_ H locs X T hp1 hLS hS => ?_)
  obtain ⟨e1_, rfl⟩ := hp1
  have hLS : Lst dC dI ad bS Y s A h0 m0 ik vs kvs tl im vm kvm tm X T M T2 H := hLS
  refine lv_pop hx hb dL_law_482 rfl ?_
  refine lv_aload_n hx hb dL_law_483 rfl (lv_at hl 2 rfl) ?_
  refine lv_aload_n hx hb dL_law_484 rfl (lv_at hl 0 rfl) ?_
  refine lv_iload_n hx hb dL_law_485 rfl (lv_at hl 3 rfl) ?_
  refine lv_iconst (v := 1) hx hb dL_law_486 (by decide) ?_
  refine lv_iadd hx hb dL_law_487 ?_
  refine qi_as (y := nI (i + 1)) (nI_add i 1) ?_
  refine va_sld hx hb hX hbl hbA hS (vp_in_nI (n := i + 1) (N := L) (by omega) (by omega)) dL_law_488 ?_
  refine qi_as (y := xs (i + 1)) (by rw [nI_clamp (by omega)]) ?_
  refine lv_aload_n hx hb dL_law_489 rfl (lv_at hl 0 rfl) ?_
  refine lv_iload_n hx hb dL_law_490 rfl (lv_at hl 3 rfl) ?_
  refine lv_iconst (v := 2) hx hb dL_law_491 (by decide) ?_
  refine lv_iadd hx hb dL_law_492 ?_
  refine qi_as (y := nI (i + 2)) (nI_add i 2) ?_
  refine va_sld hx hb hX hbl hbA hS (vp_in_nI (n := i + 2) (N := L) (by omega) (by omega)) dL_law_493 ?_
  refine qi_as (y := xs (i + 2)) (by rw [nI_clamp (by omega)]) ?_
  refine lm_i (va_runV (As := [.int (xs (i + 1)), .int (xs (i + 2))]) (rest := []) ⟨hx, hb, hml, hown, hts⟩ (v_via l dC dI sK sV im vm kvm tm T2 m0 M (xs (i + 1)) (xs (i + 2)) H.size) (cwV 2 hts gL_law_X12_via rfl rfl rfl hd_yX12_via ⟨Nat.le_of_ble_eq_true rfl, Nat.le_of_ble_eq_true rfl⟩) ⟨fun a U g mk q => by obtain ⟨q0, q1, qX, qK, qG⟩ := q; exact ⟨q0, q1, qX, va_K.moved (u := U) (U := U.calling g mk a) (Vm.Alike.refl U.vm) qK, qG.same rfl rfl⟩, hLS.2.1.recv hLS.2.2.2.1, fun U hU hW => ⟨rfl, by rw [hU], by rw [hU]; exact hLS.2.1, va_K.moved hW.alike hLS.2.2.2.1, hGA.2.2.2.2.2.2.call hS hU hW (bl_in hLS.2.2.2.2.2.1 hS hA)⟩⟩ rfl rfl hl.1 rfl (lv_room (Nat.le_of_ble_eq_true rfl)) dL_law_494 ⟨by show _ ≤ 600000; omega, by show _ ≤ 7302250; omega⟩) hLS hS hA (fun r2_ u_ H locs M hp2 hLS hS => ?_)
  obtain ⟨e2_, rfl⟩ := hp2
  have hLS : Lst dC dI ad bS Y s A h0 m0 ik vs kvs tl im vm kvm tm X T M T2 H := hLS
  refine lv_pop hx hb dL_law_497 rfl ?_
  refine lv_goto (tgt := 1108) hx hb dL_law_498 (by decide) ?_
  refine W.widen (k := cells + 8) (n := slots + 200) (by omega) (by omega) ?_
  exact kk ik vs kvs tl im vm kvm tm X T M H locs hLS ⟨hcp.1, by rw [hcp.2.1], hcp.2.2⟩ hS
