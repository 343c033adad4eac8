def dk22fcase_cL_law_0 : List (Nat × Instr × Nat) := [(501, .aload_n 1, 1), (502, .aload_n 0, 1), (503, .iload_n 3, 1), (504, .iconst 1, 1), (505, .iadd, 1), (506, .iaload, 1), (507, .aload_n 0, 1), (508, .iload_n 3, 1), (509, .iconst 2, 1), (510, .iadd, 1), (511, .iaload, 1), (512, .invokevirtual 65, 3), (515, .pop, 1), (516, .aload_n 2, 1), (517, .aload_n 0, 1), (518, .iload_n 3, 1), (519, .iconst 1, 1), (520, .iadd, 1), (521, .iaload, 1), (522, .aload_n 0, 1), (523, .iload_n 3, 1), (524, .iconst 2, 1), (525, .iadd, 1), (526, .iaload, 1), (527, .invokevirtual 68, 3), (530, .pop, 1), (531, .goto 577, 3)]
set_option maxRecDepth 100000 in
theorem dk22fcase_cL_law_0_a : dkA cL_law dk22fcase_cL_law_0 = true := by decide +kernel
theorem dL_law_501 : decode cL_law 501 = .ok (.aload_n 1, 1) := dkAt dk22fcase_cL_law_0_a 0 rfl
theorem dL_law_502 : decode cL_law 502 = .ok (.aload_n 0, 1) := dkAt dk22fcase_cL_law_0_a 1 rfl
theorem dL_law_503 : decode cL_law 503 = .ok (.iload_n 3, 1) := dkAt dk22fcase_cL_law_0_a 2 rfl
theorem dL_law_504 : decode cL_law 504 = .ok (.iconst 1, 1) := dkAt dk22fcase_cL_law_0_a 3 rfl
theorem dL_law_505 : decode cL_law 505 = .ok (.iadd, 1) := dkAt dk22fcase_cL_law_0_a 4 rfl
theorem dL_law_506 : decode cL_law 506 = .ok (.iaload, 1) := dkAt dk22fcase_cL_law_0_a 5 rfl
theorem dL_law_507 : decode cL_law 507 = .ok (.aload_n 0, 1) := dkAt dk22fcase_cL_law_0_a 6 rfl
theorem dL_law_508 : decode cL_law 508 = .ok (.iload_n 3, 1) := dkAt dk22fcase_cL_law_0_a 7 rfl
theorem dL_law_509 : decode cL_law 509 = .ok (.iconst 2, 1) := dkAt dk22fcase_cL_law_0_a 8 rfl
theorem dL_law_510 : decode cL_law 510 = .ok (.iadd, 1) := dkAt dk22fcase_cL_law_0_a 9 rfl
theorem dL_law_511 : decode cL_law 511 = .ok (.iaload, 1) := dkAt dk22fcase_cL_law_0_a 10 rfl
theorem dL_law_512 : decode cL_law 512 = .ok (.invokevirtual 65, 3) := dkAt dk22fcase_cL_law_0_a 11 rfl
theorem dL_law_515 : decode cL_law 515 = .ok (.pop, 1) := dkAt dk22fcase_cL_law_0_a 12 rfl
theorem dL_law_516 : decode cL_law 516 = .ok (.aload_n 2, 1) := dkAt dk22fcase_cL_law_0_a 13 rfl
theorem dL_law_517 : decode cL_law 517 = .ok (.aload_n 0, 1) := dkAt dk22fcase_cL_law_0_a 14 rfl
theorem dL_law_518 : decode cL_law 518 = .ok (.iload_n 3, 1) := dkAt dk22fcase_cL_law_0_a 15 rfl
theorem dL_law_519 : decode cL_law 519 = .ok (.iconst 1, 1) := dkAt dk22fcase_cL_law_0_a 16 rfl
theorem dL_law_520 : decode cL_law 520 = .ok (.iadd, 1) := dkAt dk22fcase_cL_law_0_a 17 rfl
theorem dL_law_521 : decode cL_law 521 = .ok (.iaload, 1) := dkAt dk22fcase_cL_law_0_a 18 rfl
theorem dL_law_522 : decode cL_law 522 = .ok (.aload_n 0, 1) := dkAt dk22fcase_cL_law_0_a 19 rfl
theorem dL_law_523 : decode cL_law 523 = .ok (.iload_n 3, 1) := dkAt dk22fcase_cL_law_0_a 20 rfl
theorem dL_law_524 : decode cL_law 524 = .ok (.iconst 2, 1) := dkAt dk22fcase_cL_law_0_a 21 rfl
theorem dL_law_525 : decode cL_law 525 = .ok (.iadd, 1) := dkAt dk22fcase_cL_law_0_a 22 rfl
theorem dL_law_526 : decode cL_law 526 = .ok (.iaload, 1) := dkAt dk22fcase_cL_law_0_a 23 rfl
theorem dL_law_527 : decode cL_law 527 = .ok (.invokevirtual 68, 3) := dkAt dk22fcase_cL_law_0_a 24 rfl
theorem dL_law_530 : decode cL_law 530 = .ok (.pop, 1) := dkAt dk22fcase_cL_law_0_a 25 rfl
theorem dL_law_531 : decode cL_law 531 = .ok (.goto 577, 3) := dkAt dk22fcase_cL_law_0_a 26 rfl
set_option maxHeartbeats 4000000 in
set_option maxRecDepth 100000 in
theorem lc_11 {p : Program} {l : Launch} {e : Env} {s : State} {m : MethodId} {below : List Frame} {meth : Method} {c : Code} {b L : Nat} {xs : Nat → Int32} {A : Nat → Prop} (hAe : A = fun q => s.heap.size ≤ q) (C0 : lw_At p s m meth c b L xs) (dC : Nat → ClassId) (dI : Nat → Nat → Nat) (gd : Nat → Nat) (kA : Nat) (ad : Nat → Nat) (cB bS : Nat) (sK sV : Nat → Nat) (Y : Nat → Prop) (h0 m0 : Nat) (ik : Int32) (vs kvs : VS) (tl : List Nat) (im : Int32) (vm kvm : VS) (tm : List Nat) (X : va_W) (T : List (ClassId × FieldType)) (M : va_W) (T2 : List (ClassId × FieldType)) (hGA : GA gd kA ad cB bS sK sV A s) (i : Nat) (hi : i + 5 ≤ L) (hL : L ≤ 320) (H : Heap) (locs : List Loc) (hLS : Lst dC dI ad bS Y s A h0 m0 ik vs kvs tl im vm kvm tm X T M T2 H) (cells slots : Nat) (hc0 : cells ≤ 590000) (hs0 : slots ≤ 7000000) (hS : va_S A s.heap H locs) (ls : Array Slot) (hl : lv_has ls 4 [(0, .ref b), (1, .ref h0), (2, .ref m0), (3, .int (nI i))]) (hcp : ik = im ∧ vs = vm ∧ (im = 0 ∨ kvs = kvm) ∧ tl = tm) (kk : ∀ (ik : Int32) (vs kvs : VS) (tl : List Nat) (im : Int32) (vm kvm : VS) (tm : List Nat) (X : va_W) (T : List (ClassId × FieldType)) (M : va_W) (H : Heap) (locs : List Loc), Lst dC dI ad bS Y s A h0 m0 ik vs kvs tl im vm kvm tm X T M T2 H → (ik = im ∧ vs = vm ∧ (im = 0 ∨ kvs = kvm) ∧ tl = tm) → va_S A s.heap H locs → W p l e room_1 s m #[Value.ref b] below meth c H locs (cells + 8) (slots + 200) (lw_Z below #[Value.ref b] s) (F0 m 1108 ls [])) : W p l e room_1 s m #[Value.ref b] below meth c H locs cells slots (lw_Z below #[Value.ref b] s) (F0 m 501 ls []) := by
  obtain ⟨hx, hb, hr, hml, hown, hts0, hX, hbl, hlocks, hgv⟩ := id C0
  have hown : s.vm.findClass RL = some m.cls := hown
  have hb : c.code = cL_law := hb
  have hts : ∀ w ∈ lw_tbl, w.before #[Value.ref b] s = true := fun w h => hts0 w (wsL_law_in w h)
  have hA : ∀ q : Nat, s.heap.size ≤ q → A q := fun q h => by rw [hAe]; exact h
  have hbA : ¬ A b := by rw [hAe]; exact Nat.not_le.mpr hbl
  refine lv_aload_n hx hb dL_law_501 rfl (lv_at hl 1 rfl) ?_
  refine lv_aload_n hx hb dL_law_502 rfl (lv_at hl 0 rfl) ?_
  refine lv_iload_n hx hb dL_law_503 rfl (lv_at hl 3 rfl) ?_
  refine lv_iconst (v := 1) hx hb dL_law_504 (by decide) ?_
  refine lv_iadd hx hb dL_law_505 ?_
  refine qi_as (y := nI (i + 1)) (nI_add i 1) ?_
  refine va_sld hx hb hX hbl hbA hS (vp_in_nI (n := i + 1) (N := L) (by omega) (by omega)) dL_law_506 ?_
  refine qi_as (y := xs (i + 1)) (by rw [nI_clamp (by omega)]) ?_
  refine lv_aload_n hx hb dL_law_507 rfl (lv_at hl 0 rfl) ?_
  refine lv_iload_n hx hb dL_law_508 rfl (lv_at hl 3 rfl) ?_
  refine lv_iconst (v := 2) hx hb dL_law_509 (by decide) ?_
  refine lv_iadd hx hb dL_law_510 ?_
  refine qi_as (y := nI (i + 2)) (nI_add i 2) ?_
  refine va_sld hx hb hX hbl hbA hS (vp_in_nI (n := i + 2) (N := L) (by omega) (by omega)) dL_law_511 ?_
  refine qi_as (y := xs (i + 2)) (by rw [nI_clamp (by omega)]) ?_
  refine lx_i (va_runV (As := [.int (xs (i + 1)), .int (xs (i + 2))]) (rest := []) ⟨hx, hb, hml, hown, hts⟩ (w_cuts l dC dI gd kA ad cB bS sK sV Y ik vs kvs tl T h0 X (xs (i + 1)) (xs (i + 2)) H.size) (cwV 2 hts gL_law_X11_cuts rfl rfl rfl hd_yX11_cuts ⟨Nat.le_of_ble_eq_true rfl, Nat.le_of_ble_eq_true rfl⟩) ⟨fun a U g mk q => by obtain ⟨q0, q1, qX, qK, qY1, qY2, qG⟩ := q; exact ⟨q0, q1, qX, va_K.moved (u := U) (U := U.calling g mk a) (Vm.Alike.refl U.vm) qK, qY1, qY2, qG.same rfl rfl⟩, hLS.1.recv hLS.2.2.1, fun U hU hW => ⟨rfl, by rw [hU], by rw [hU]; exact hLS.1, va_K.moved hW.alike hLS.2.2.1, hLS.2.2.2.2.2.2.1, fun q hq hy => absurd (hLS.2.2.2.2.2.2.2.2 q hy) (Nat.not_lt.mpr hq), hGA.call hS hU hW (bl_in hLS.2.2.2.2.1 hS hA)⟩⟩ rfl rfl hl.1 rfl (lv_room (Nat.le_of_ble_eq_true rfl)) dL_law_512 ⟨by show _ ≤ 600000; omega, by show _ ≤ 7302250; omega⟩) hLS hS hA (fun r1_ u_ H locs X T hp1 hLS hS => ?_)
  obtain ⟨e1_, rfl⟩ := hp1
  have hLS : Lst dC dI ad bS Y s A h0 m0 ik vs kvs tl im vm kvm tm X T M T2 H := hLS
  refine lv_pop hx hb dL_law_515 rfl ?_
  refine lv_aload_n hx hb dL_law_516 rfl (lv_at hl 2 rfl) ?_
  refine lv_aload_n hx hb dL_law_517 rfl (lv_at hl 0 rfl) ?_
  refine lv_iload_n hx hb dL_law_518 rfl (lv_at hl 3 rfl) ?_
  refine lv_iconst (v := 1) hx hb dL_law_519 (by decide) ?_
  refine lv_iadd hx hb dL_law_520 ?_
  refine qi_as (y := nI (i + 1)) (nI_add i 1) ?_
  refine va_sld hx hb hX hbl hbA hS (vp_in_nI (n := i + 1) (N := L) (by omega) (by omega)) dL_law_521 ?_
  refine qi_as (y := xs (i + 1)) (by rw [nI_clamp (by omega)]) ?_
  refine lv_aload_n hx hb dL_law_522 rfl (lv_at hl 0 rfl) ?_
  refine lv_iload_n hx hb dL_law_523 rfl (lv_at hl 3 rfl) ?_
  refine lv_iconst (v := 2) hx hb dL_law_524 (by decide) ?_
  refine lv_iadd hx hb dL_law_525 ?_
  refine qi_as (y := nI (i + 2)) (nI_add i 2) ?_
  refine va_sld hx hb hX hbl hbA hS (vp_in_nI (n := i + 2) (N := L) (by omega) (by omega)) dL_law_526 ?_
  refine qi_as (y := xs (i + 2)) (by rw [nI_clamp (by omega)]) ?_
  refine lm_i (va_runV (As := [.int (xs (i + 1)), .int (xs (i + 2))]) (rest := []) ⟨hx, hb, hml, hown, hts⟩ (v_cuts l dC dI sK sV im vm kvm tm T2 m0 M (xs (i + 1)) (xs (i + 2)) H.size) (cwV 2 hts gL_law_X12_cuts rfl rfl rfl hd_yX12_cuts ⟨Nat.le_of_ble_eq_true rfl, Nat.le_of_ble_eq_true rfl⟩) ⟨fun a U g mk q => by obtain ⟨q0, q1, qX, qK, qG⟩ := q; exact ⟨q0, q1, qX, va_K.moved (u := U) (U := U.calling g mk a) (Vm.Alike.refl U.vm) qK, qG.same rfl rfl⟩, hLS.2.1.recv hLS.2.2.2.1, fun U hU hW => ⟨rfl, by rw [hU], by rw [hU]; exact hLS.2.1, va_K.moved hW.alike hLS.2.2.2.1, hGA.2.2.2.2.2.2.call hS hU hW (bl_in hLS.2.2.2.2.2.1 hS hA)⟩⟩ rfl rfl hl.1 rfl (lv_room (Nat.le_of_ble_eq_true rfl)) dL_law_527 ⟨by show _ ≤ 600000; omega, by show _ ≤ 7302250; omega⟩) hLS hS hA (fun r2_ u_ H locs M hp2 hLS hS => ?_)
  obtain ⟨e2_, rfl⟩ := hp2
  have hLS : Lst dC dI ad bS Y s A h0 m0 ik vs kvs tl im vm kvm tm X T M T2 H := hLS
  refine lv_pop hx hb dL_law_530 rfl ?_
  refine lv_goto (tgt := 1108) hx hb dL_law_531 (by decide) ?_
  refine W.widen (k := cells + 8) (n := slots + 200) (by omega) (by omega) ?_
  exact kk ik vs kvs tl im vm kvm tm X T M H locs hLS ⟨hcp.1, by rw [hcp.2.1], hcp.2.2⟩ hS
