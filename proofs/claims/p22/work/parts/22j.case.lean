def dk22jcase_cL_law_0 : List (Nat × Instr × Nat) := [(656, .aload_n 1, 1), (657, .aload_n 0, 1), (658, .iload_n 3, 1), (659, .iconst 1, 1), (660, .iadd, 1), (661, .iaload, 1), (662, .aload_n 0, 1), (663, .iload_n 3, 1), (664, .iconst 2, 1), (665, .iadd, 1), (666, .iaload, 1), (667, .aload_n 0, 1), (668, .iload_n 3, 1), (669, .iconst 3, 1), (670, .iadd, 1), (671, .iaload, 1), (672, .invokevirtual 85, 3), (675, .pop2, 1), (676, .aload_n 2, 1), (677, .aload_n 0, 1), (678, .iload_n 3, 1), (679, .iconst 1, 1), (680, .iadd, 1), (681, .iaload, 1), (682, .aload_n 0, 1), (683, .iload_n 3, 1), (684, .iconst 2, 1), (685, .iadd, 1), (686, .iaload, 1), (687, .aload_n 0, 1), (688, .iload_n 3, 1), (689, .iconst 3, 1), (690, .iadd, 1), (691, .iaload, 1), (692, .invokevirtual 89, 3), (695, .pop2, 1), (696, .goto 412, 3)]
set_option maxRecDepth 100000 in
theorem dk22jcase_cL_law_0_a : dkA cL_law dk22jcase_cL_law_0 = true := by decide +kernel
theorem dL_law_656 : decode cL_law 656 = .ok (.aload_n 1, 1) := dkAt dk22jcase_cL_law_0_a 0 rfl
theorem dL_law_657 : decode cL_law 657 = .ok (.aload_n 0, 1) := dkAt dk22jcase_cL_law_0_a 1 rfl
theorem dL_law_658 : decode cL_law 658 = .ok (.iload_n 3, 1) := dkAt dk22jcase_cL_law_0_a 2 rfl
theorem dL_law_659 : decode cL_law 659 = .ok (.iconst 1, 1) := dkAt dk22jcase_cL_law_0_a 3 rfl
theorem dL_law_660 : decode cL_law 660 = .ok (.iadd, 1) := dkAt dk22jcase_cL_law_0_a 4 rfl
theorem dL_law_661 : decode cL_law 661 = .ok (.iaload, 1) := dkAt dk22jcase_cL_law_0_a 5 rfl
theorem dL_law_662 : decode cL_law 662 = .ok (.aload_n 0, 1) := dkAt dk22jcase_cL_law_0_a 6 rfl
theorem dL_law_663 : decode cL_law 663 = .ok (.iload_n 3, 1) := dkAt dk22jcase_cL_law_0_a 7 rfl
theorem dL_law_664 : decode cL_law 664 = .ok (.iconst 2, 1) := dkAt dk22jcase_cL_law_0_a 8 rfl
theorem dL_law_665 : decode cL_law 665 = .ok (.iadd, 1) := dkAt dk22jcase_cL_law_0_a 9 rfl
theorem dL_law_666 : decode cL_law 666 = .ok (.iaload, 1) := dkAt dk22jcase_cL_law_0_a 10 rfl
theorem dL_law_667 : decode cL_law 667 = .ok (.aload_n 0, 1) := dkAt dk22jcase_cL_law_0_a 11 rfl
theorem dL_law_668 : decode cL_law 668 = .ok (.iload_n 3, 1) := dkAt dk22jcase_cL_law_0_a 12 rfl
theorem dL_law_669 : decode cL_law 669 = .ok (.iconst 3, 1) := dkAt dk22jcase_cL_law_0_a 13 rfl
theorem dL_law_670 : decode cL_law 670 = .ok (.iadd, 1) := dkAt dk22jcase_cL_law_0_a 14 rfl
theorem dL_law_671 : decode cL_law 671 = .ok (.iaload, 1) := dkAt dk22jcase_cL_law_0_a 15 rfl
theorem dL_law_672 : decode cL_law 672 = .ok (.invokevirtual 85, 3) := dkAt dk22jcase_cL_law_0_a 16 rfl
theorem dL_law_675 : decode cL_law 675 = .ok (.pop2, 1) := dkAt dk22jcase_cL_law_0_a 17 rfl
theorem dL_law_676 : decode cL_law 676 = .ok (.aload_n 2, 1) := dkAt dk22jcase_cL_law_0_a 18 rfl
theorem dL_law_677 : decode cL_law 677 = .ok (.aload_n 0, 1) := dkAt dk22jcase_cL_law_0_a 19 rfl
theorem dL_law_678 : decode cL_law 678 = .ok (.iload_n 3, 1) := dkAt dk22jcase_cL_law_0_a 20 rfl
theorem dL_law_679 : decode cL_law 679 = .ok (.iconst 1, 1) := dkAt dk22jcase_cL_law_0_a 21 rfl
theorem dL_law_680 : decode cL_law 680 = .ok (.iadd, 1) := dkAt dk22jcase_cL_law_0_a 22 rfl
theorem dL_law_681 : decode cL_law 681 = .ok (.iaload, 1) := dkAt dk22jcase_cL_law_0_a 23 rfl
theorem dL_law_682 : decode cL_law 682 = .ok (.aload_n 0, 1) := dkAt dk22jcase_cL_law_0_a 24 rfl
theorem dL_law_683 : decode cL_law 683 = .ok (.iload_n 3, 1) := dkAt dk22jcase_cL_law_0_a 25 rfl
theorem dL_law_684 : decode cL_law 684 = .ok (.iconst 2, 1) := dkAt dk22jcase_cL_law_0_a 26 rfl
theorem dL_law_685 : decode cL_law 685 = .ok (.iadd, 1) := dkAt dk22jcase_cL_law_0_a 27 rfl
theorem dL_law_686 : decode cL_law 686 = .ok (.iaload, 1) := dkAt dk22jcase_cL_law_0_a 28 rfl
theorem dL_law_687 : decode cL_law 687 = .ok (.aload_n 0, 1) := dkAt dk22jcase_cL_law_0_a 29 rfl
theorem dL_law_688 : decode cL_law 688 = .ok (.iload_n 3, 1) := dkAt dk22jcase_cL_law_0_a 30 rfl
theorem dL_law_689 : decode cL_law 689 = .ok (.iconst 3, 1) := dkAt dk22jcase_cL_law_0_a 31 rfl
theorem dL_law_690 : decode cL_law 690 = .ok (.iadd, 1) := dkAt dk22jcase_cL_law_0_a 32 rfl
theorem dL_law_691 : decode cL_law 691 = .ok (.iaload, 1) := dkAt dk22jcase_cL_law_0_a 33 rfl
theorem dL_law_692 : decode cL_law 692 = .ok (.invokevirtual 89, 3) := dkAt dk22jcase_cL_law_0_a 34 rfl
theorem dL_law_695 : decode cL_law 695 = .ok (.pop2, 1) := dkAt dk22jcase_cL_law_0_a 35 rfl
theorem dL_law_696 : decode cL_law 696 = .ok (.goto 412, 3) := dkAt dk22jcase_cL_law_0_a 36 rfl
set_option maxHeartbeats 4000000 in
set_option maxRecDepth 100000 in
theorem lc_16 {p : Program} {l : Launch} {e : Env} {s : State} {m : MethodId} {below : List Frame} {meth : Method} {c : Code} {b L : Nat} {xs : Nat → Int32} {A : Nat → Prop} (hAe : A = fun q => s.heap.size ≤ q) (C0 : lw_At p s m meth c b L xs) (dC : Nat → ClassId) (dI : Nat → Nat → Nat) (gd : Nat → Nat) (kA : Nat) (ad : Nat → Nat) (cB bS : Nat) (sK sV : Nat → Nat) (Y : Nat → Prop) (h0 m0 : Nat) (ik : Int32) (vs kvs : VS) (tl : List Nat) (im : Int32) (vm kvm : VS) (tm : List Nat) (X : va_W) (T : List (ClassId × FieldType)) (M : va_W) (T2 : List (ClassId × FieldType)) (hGA : GA gd kA ad cB bS sK sV A s) (i : Nat) (hi : i + 5 ≤ L) (hL : L ≤ 320) (H : Heap) (locs : List Loc) (hLS : Lst dC dI ad bS Y s A h0 m0 ik vs kvs tl im vm kvm tm X T M T2 H) (cells slots : Nat) (hc0 : cells ≤ 590000) (hs0 : slots ≤ 7000000) (hS : va_S A s.heap H locs) (ls : Array Slot) (hl : lv_has ls 4 [(0, .ref b), (1, .ref h0), (2, .ref m0), (3, .int (nI i))]) (hcp : ik = im ∧ vs = vm ∧ (im = 0 ∨ kvs = kvm) ∧ tl = tm) (kk : ∀ (ik : Int32) (vs kvs : VS) (tl : List Nat) (im : Int32) (vm kvm : VS) (tm : List Nat) (X : va_W) (T : List (ClassId × FieldType)) (M : va_W) (H : Heap) (locs : List Loc), Lst dC dI ad bS Y s A h0 m0 ik vs kvs tl im vm kvm tm X T M T2 H → (ik = im ∧ vs = vm ∧ (im = 0 ∨ kvs = kvm) ∧ tl = tm) → va_S A s.heap H locs → W p l e room_1 s m #[Value.ref b] below meth c H locs (cells + 8) (slots + 200) (lw_Z below #[Value.ref b] s) (F0 m 1108 ls [])) : W p l e room_1 s m #[Value.ref b] below meth c H locs cells slots (lw_Z below #[Value.ref b] s) (F0 m 656 ls []) := by
  obtain ⟨hx, hb, hr, hml, hown, hts0, hX, hbl, hlocks, hgv⟩ := id C0
  have hown : s.vm.findClass RL = some m.cls := hown
  have hb : c.code = cL_law := hb
  have hts : ∀ w ∈ lw_tbl, w.before #[Value.ref b] s = true := fun w h => hts0 w (wsL_law_in w h)
  have hA : ∀ q : Nat, s.heap.size ≤ q → A q := fun q h => by rw [hAe]; exact h
  have hbA : ¬ A b := by rw [hAe]; exact Nat.not_le.mpr hbl
  refine lv_aload_n hx hb dL_law_656 rfl (lv_at hl 1 rfl) ?_
  refine lv_aload_n hx hb dL_law_657 rfl (lv_at hl 0 rfl) ?_
  refine lv_iload_n hx hb dL_law_658 rfl (lv_at hl 3 rfl) ?_
  refine lv_iconst (v := 1) hx hb dL_law_659 (by decide) ?_
  refine lv_iadd hx hb dL_law_660 ?_
  refine qi_as (y := nI (i + 1)) (nI_add i 1) ?_
  refine va_sld hx hb hX hbl hbA hS (vp_in_nI (n := i + 1) (N := L) (by omega) (by omega)) dL_law_661 ?_
  refine qi_as (y := xs (i + 1)) (by rw [nI_clamp (by omega)]) ?_
  refine lv_aload_n hx hb dL_law_662 rfl (lv_at hl 0 rfl) ?_
  refine lv_iload_n hx hb dL_law_663 rfl (lv_at hl 3 rfl) ?_
  refine lv_iconst (v := 2) hx hb dL_law_664 (by decide) ?_
  refine lv_iadd hx hb dL_law_665 ?_
  refine qi_as (y := nI (i + 2)) (nI_add i 2) ?_
  refine va_sld hx hb hX hbl hbA hS (vp_in_nI (n := i + 2) (N := L) (by omega) (by omega)) dL_law_666 ?_
  refine qi_as (y := xs (i + 2)) (by rw [nI_clamp (by omega)]) ?_
  refine lv_aload_n hx hb dL_law_667 rfl (lv_at hl 0 rfl) ?_
  refine lv_iload_n hx hb dL_law_668 rfl (lv_at hl 3 rfl) ?_
  refine lv_iconst (v := 3) hx hb dL_law_669 (by decide) ?_
  refine lv_iadd hx hb dL_law_670 ?_
  refine qi_as (y := nI (i + 3)) (nI_add i 3) ?_
  refine va_sld hx hb hX hbl hbA hS (vp_in_nI (n := i + 3) (N := L) (by omega) (by omega)) dL_law_671 ?_
  refine qi_as (y := xs (i + 3)) (by rw [nI_clamp (by omega)]) ?_
  refine lx_l (va_runV (As := [.int (xs (i + 1)), .int (xs (i + 2)), .int (xs (i + 3))]) (rest := []) ⟨hx, hb, hml, hown, hts⟩ (w_odds l dC dI gd kA ad cB bS sK sV Y ik vs kvs tl T h0 X (xs (i + 1)) (xs (i + 2)) (xs (i + 3)) H.size) (cwV 3 hts gL_law_X11_odds rfl rfl rfl hd_yX11_odds ⟨Nat.le_of_ble_eq_true rfl, Nat.le_of_ble_eq_true rfl⟩) ⟨fun a U g mk q => by obtain ⟨q0, q1, qX, qK, qY1, qY2, qG⟩ := q; exact ⟨q0, q1, qX, va_K.moved (u := U) (U := U.calling g mk a) (Vm.Alike.refl U.vm) qK, qY1, qY2, qG.same rfl rfl⟩, hLS.1.recv hLS.2.2.1, fun U hU hW => ⟨rfl, by rw [hU], by rw [hU]; exact hLS.1, va_K.moved hW.alike hLS.2.2.1, hLS.2.2.2.2.2.2.1, fun q hq hy => absurd (hLS.2.2.2.2.2.2.2.2 q hy) (Nat.not_lt.mpr hq), hGA.call hS hU hW (bl_in hLS.2.2.2.2.1 hS hA)⟩⟩ rfl rfl hl.1 rfl (lv_room (Nat.le_of_ble_eq_true rfl)) dL_law_672 ⟨by show _ ≤ 600000; omega, by show _ ≤ 7302250; omega⟩) hLS hS hA (fun r1_ u_ H locs X T hp1 hLS hS => ?_)
  obtain rfl := hp1
  have hLS : Lst dC dI ad bS Y s A h0 m0 ik vs kvs tl im vm kvm tm X T M T2 H := hLS
  refine lv_pop2_2 hx hb dL_law_675 rfl ?_
  refine lv_aload_n hx hb dL_law_676 rfl (lv_at hl 2 rfl) ?_
  refine lv_aload_n hx hb dL_law_677 rfl (lv_at hl 0 rfl) ?_
  refine lv_iload_n hx hb dL_law_678 rfl (lv_at hl 3 rfl) ?_
  refine lv_iconst (v := 1) hx hb dL_law_679 (by decide) ?_
  refine lv_iadd hx hb dL_law_680 ?_
  refine qi_as (y := nI (i + 1)) (nI_add i 1) ?_
  refine va_sld hx hb hX hbl hbA hS (vp_in_nI (n := i + 1) (N := L) (by omega) (by omega)) dL_law_681 ?_
  refine qi_as (y := xs (i + 1)) (by rw [nI_clamp (by omega)]) ?_
  refine lv_aload_n hx hb dL_law_682 rfl (lv_at hl 0 rfl) ?_
  refine lv_iload_n hx hb dL_law_683 rfl (lv_at hl 3 rfl) ?_
  refine lv_iconst (v := 2) hx hb dL_law_684 (by decide) ?_
  refine lv_iadd hx hb dL_law_685 ?_
  refine qi_as (y := nI (i + 2)) (nI_add i 2) ?_
  refine va_sld hx hb hX hbl hbA hS (vp_in_nI (n := i + 2) (N := L) (by omega) (by omega)) dL_law_686 ?_
  refine qi_as (y := xs (i + 2)) (by rw [nI_clamp (by omega)]) ?_
  refine lv_aload_n hx hb dL_law_687 rfl (lv_at hl 0 rfl) ?_
  refine lv_iload_n hx hb dL_law_688 rfl (lv_at hl 3 rfl) ?_
  refine lv_iconst (v := 3) hx hb dL_law_689 (by decide) ?_
  refine lv_iadd hx hb dL_law_690 ?_
  refine qi_as (y := nI (i + 3)) (nI_add i 3) ?_
  refine va_sld hx hb hX hbl hbA hS (vp_in_nI (n := i + 3) (N := L) (by omega) (by omega)) dL_law_691 ?_
  refine qi_as (y := xs (i + 3)) (by rw [nI_clamp (by omega)]) ?_
  refine lm_l (va_runV (As := [.int (xs (i + 1)), .int (xs (i + 2)), .int (xs (i + 3))]) (rest := []) ⟨hx, hb, hml, hown, hts⟩ (v_odds l dC dI sK sV im vm kvm tm T2 m0 M (xs (i + 1)) (xs (i + 2)) (xs (i + 3)) H.size) (cwV 3 hts gL_law_X12_odds rfl rfl rfl hd_yX12_odds ⟨Nat.le_of_ble_eq_true rfl, Nat.le_of_ble_eq_true rfl⟩) ⟨fun a U g mk q => by obtain ⟨q0, q1, qX, qK, qG⟩ := q; exact ⟨q0, q1, qX, va_K.moved (u := U) (U := U.calling g mk a) (Vm.Alike.refl U.vm) qK, qG.same rfl rfl⟩, hLS.2.1.recv hLS.2.2.2.1, fun U hU hW => ⟨rfl, by rw [hU], by rw [hU]; exact hLS.2.1, va_K.moved hW.alike hLS.2.2.2.1, hGA.2.2.2.2.2.2.call hS hU hW (bl_in hLS.2.2.2.2.2.1 hS hA)⟩⟩ rfl rfl hl.1 rfl (lv_room (Nat.le_of_ble_eq_true rfl)) dL_law_692 ⟨by show _ ≤ 600000; omega, by show _ ≤ 7302250; omega⟩) hLS hS hA (fun r2_ u_ H locs M hp2 hLS hS => ?_)
  obtain rfl := hp2
  have hLS : Lst dC dI ad bS Y s A h0 m0 ik vs kvs tl im vm kvm tm X T M T2 H := hLS
  refine lv_pop2_2 hx hb dL_law_695 rfl ?_
  refine lv_goto (tgt := 1108) hx hb dL_law_696 (by decide) ?_
  refine W.widen (k := cells + 8) (n := slots + 200) (by omega) (by omega) ?_
  exact kk ik vs kvs tl im vm kvm tm X T M H locs hLS hcp hS
