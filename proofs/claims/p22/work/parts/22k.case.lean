def dk22kcase_cL_law_0 : List (Nat × Instr × Nat) := [(699, .aload_n 1, 1), (700, .aload_n 0, 1), (701, .iload_n 3, 1), (702, .iconst 1, 1), (703, .iadd, 1), (704, .iaload, 1), (705, .aload_n 0, 1), (706, .iload_n 3, 1), (707, .iconst 2, 1), (708, .iadd, 1), (709, .iaload, 1), (710, .aload_n 0, 1), (711, .iload_n 3, 1), (712, .iconst 3, 1), (713, .iadd, 1), (714, .iaload, 1), (715, .aload_n 0, 1), (716, .iload_n 3, 1), (717, .iconst 4, 1), (718, .iadd, 1), (719, .iaload, 1), (720, .invokevirtual 90, 3), (723, .pop, 1), (724, .aload_n 2, 1), (725, .aload_n 0, 1), (726, .iload_n 3, 1), (727, .iconst 1, 1), (728, .iadd, 1), (729, .iaload, 1), (730, .aload_n 0, 1), (731, .iload_n 3, 1), (732, .iconst 2, 1), (733, .iadd, 1), (734, .iaload, 1), (735, .aload_n 0, 1), (736, .iload_n 3, 1), (737, .iconst 3, 1), (738, .iadd, 1), (739, .iaload, 1), (740, .aload_n 0, 1)]
set_option maxRecDepth 100000 in
theorem dk22kcase_cL_law_0_a : dkA cL_law dk22kcase_cL_law_0 = true := by decide +kernel
theorem dL_law_699 : decode cL_law 699 = .ok (.aload_n 1, 1) := dkAt dk22kcase_cL_law_0_a 0 rfl
theorem dL_law_700 : decode cL_law 700 = .ok (.aload_n 0, 1) := dkAt dk22kcase_cL_law_0_a 1 rfl
theorem dL_law_701 : decode cL_law 701 = .ok (.iload_n 3, 1) := dkAt dk22kcase_cL_law_0_a 2 rfl
theorem dL_law_702 : decode cL_law 702 = .ok (.iconst 1, 1) := dkAt dk22kcase_cL_law_0_a 3 rfl
theorem dL_law_703 : decode cL_law 703 = .ok (.iadd, 1) := dkAt dk22kcase_cL_law_0_a 4 rfl
theorem dL_law_704 : decode cL_law 704 = .ok (.iaload, 1) := dkAt dk22kcase_cL_law_0_a 5 rfl
theorem dL_law_705 : decode cL_law 705 = .ok (.aload_n 0, 1) := dkAt dk22kcase_cL_law_0_a 6 rfl
theorem dL_law_706 : decode cL_law 706 = .ok (.iload_n 3, 1) := dkAt dk22kcase_cL_law_0_a 7 rfl
theorem dL_law_707 : decode cL_law 707 = .ok (.iconst 2, 1) := dkAt dk22kcase_cL_law_0_a 8 rfl
theorem dL_law_708 : decode cL_law 708 = .ok (.iadd, 1) := dkAt dk22kcase_cL_law_0_a 9 rfl
theorem dL_law_709 : decode cL_law 709 = .ok (.iaload, 1) := dkAt dk22kcase_cL_law_0_a 10 rfl
theorem dL_law_710 : decode cL_law 710 = .ok (.aload_n 0, 1) := dkAt dk22kcase_cL_law_0_a 11 rfl
theorem dL_law_711 : decode cL_law 711 = .ok (.iload_n 3, 1) := dkAt dk22kcase_cL_law_0_a 12 rfl
theorem dL_law_712 : decode cL_law 712 = .ok (.iconst 3, 1) := dkAt dk22kcase_cL_law_0_a 13 rfl
theorem dL_law_713 : decode cL_law 713 = .ok (.iadd, 1) := dkAt dk22kcase_cL_law_0_a 14 rfl
theorem dL_law_714 : decode cL_law 714 = .ok (.iaload, 1) := dkAt dk22kcase_cL_law_0_a 15 rfl
theorem dL_law_715 : decode cL_law 715 = .ok (.aload_n 0, 1) := dkAt dk22kcase_cL_law_0_a 16 rfl
theorem dL_law_716 : decode cL_law 716 = .ok (.iload_n 3, 1) := dkAt dk22kcase_cL_law_0_a 17 rfl
theorem dL_law_717 : decode cL_law 717 = .ok (.iconst 4, 1) := dkAt dk22kcase_cL_law_0_a 18 rfl
theorem dL_law_718 : decode cL_law 718 = .ok (.iadd, 1) := dkAt dk22kcase_cL_law_0_a 19 rfl
theorem dL_law_719 : decode cL_law 719 = .ok (.iaload, 1) := dkAt dk22kcase_cL_law_0_a 20 rfl
theorem dL_law_720 : decode cL_law 720 = .ok (.invokevirtual 90, 3) := dkAt dk22kcase_cL_law_0_a 21 rfl
theorem dL_law_723 : decode cL_law 723 = .ok (.pop, 1) := dkAt dk22kcase_cL_law_0_a 22 rfl
theorem dL_law_724 : decode cL_law 724 = .ok (.aload_n 2, 1) := dkAt dk22kcase_cL_law_0_a 23 rfl
theorem dL_law_725 : decode cL_law 725 = .ok (.aload_n 0, 1) := dkAt dk22kcase_cL_law_0_a 24 rfl
theorem dL_law_726 : decode cL_law 726 = .ok (.iload_n 3, 1) := dkAt dk22kcase_cL_law_0_a 25 rfl
theorem dL_law_727 : decode cL_law 727 = .ok (.iconst 1, 1) := dkAt dk22kcase_cL_law_0_a 26 rfl
theorem dL_law_728 : decode cL_law 728 = .ok (.iadd, 1) := dkAt dk22kcase_cL_law_0_a 27 rfl
theorem dL_law_729 : decode cL_law 729 = .ok (.iaload, 1) := dkAt dk22kcase_cL_law_0_a 28 rfl
theorem dL_law_730 : decode cL_law 730 = .ok (.aload_n 0, 1) := dkAt dk22kcase_cL_law_0_a 29 rfl
theorem dL_law_731 : decode cL_law 731 = .ok (.iload_n 3, 1) := dkAt dk22kcase_cL_law_0_a 30 rfl
theorem dL_law_732 : decode cL_law 732 = .ok (.iconst 2, 1) := dkAt dk22kcase_cL_law_0_a 31 rfl
theorem dL_law_733 : decode cL_law 733 = .ok (.iadd, 1) := dkAt dk22kcase_cL_law_0_a 32 rfl
theorem dL_law_734 : decode cL_law 734 = .ok (.iaload, 1) := dkAt dk22kcase_cL_law_0_a 33 rfl
theorem dL_law_735 : decode cL_law 735 = .ok (.aload_n 0, 1) := dkAt dk22kcase_cL_law_0_a 34 rfl
theorem dL_law_736 : decode cL_law 736 = .ok (.iload_n 3, 1) := dkAt dk22kcase_cL_law_0_a 35 rfl
theorem dL_law_737 : decode cL_law 737 = .ok (.iconst 3, 1) := dkAt dk22kcase_cL_law_0_a 36 rfl
theorem dL_law_738 : decode cL_law 738 = .ok (.iadd, 1) := dkAt dk22kcase_cL_law_0_a 37 rfl
theorem dL_law_739 : decode cL_law 739 = .ok (.iaload, 1) := dkAt dk22kcase_cL_law_0_a 38 rfl
theorem dL_law_740 : decode cL_law 740 = .ok (.aload_n 0, 1) := dkAt dk22kcase_cL_law_0_a 39 rfl
def dk22kcase_cL_law_40 : List (Nat × Instr × Nat) := [(741, .iload_n 3, 1), (742, .iconst 4, 1), (743, .iadd, 1), (744, .iaload, 1), (745, .invokevirtual 94, 3), (748, .pop, 1), (749, .goto 359, 3)]
set_option maxRecDepth 100000 in
theorem dk22kcase_cL_law_40_a : dkA cL_law dk22kcase_cL_law_40 = true := by decide +kernel
theorem dL_law_741 : decode cL_law 741 = .ok (.iload_n 3, 1) := dkAt dk22kcase_cL_law_40_a 0 rfl
theorem dL_law_742 : decode cL_law 742 = .ok (.iconst 4, 1) := dkAt dk22kcase_cL_law_40_a 1 rfl
theorem dL_law_743 : decode cL_law 743 = .ok (.iadd, 1) := dkAt dk22kcase_cL_law_40_a 2 rfl
theorem dL_law_744 : decode cL_law 744 = .ok (.iaload, 1) := dkAt dk22kcase_cL_law_40_a 3 rfl
theorem dL_law_745 : decode cL_law 745 = .ok (.invokevirtual 94, 3) := dkAt dk22kcase_cL_law_40_a 4 rfl
theorem dL_law_748 : decode cL_law 748 = .ok (.pop, 1) := dkAt dk22kcase_cL_law_40_a 5 rfl
theorem dL_law_749 : decode cL_law 749 = .ok (.goto 359, 3) := dkAt dk22kcase_cL_law_40_a 6 rfl
set_option maxHeartbeats 4000000 in
set_option maxRecDepth 100000 in
theorem lc_17 {p : Program} {l : Launch} {e : Env} {s : State} {m : MethodId} {below : List Frame} {meth : Method} {c : Code} {b L : Nat} {xs : Nat → Int32} {A : Nat → Prop} (hAe : A = fun q => s.heap.size ≤ q) (C0 : lw_At p s m meth c b L xs) (dC : Nat → ClassId) (dI : Nat → Nat → Nat) (gd : Nat → Nat) (kA : Nat) (ad : Nat → Nat) (cB bS : Nat) (sK sV : Nat → Nat) (Y : Nat → Prop) (h0 m0 : Nat) (ik : Int32) (vs kvs : VS) (tl : List Nat) (im : Int32) (vm kvm : VS) (tm : List Nat) (X : va_W) (T : List (ClassId × FieldType)) (M : va_W) (T2 : List (ClassId × FieldType)) (hGA : GA gd kA ad cB bS sK sV A s) (i : Nat) (hi : i + 5 ≤ L) (hL : L ≤ 320) (H : Heap) (locs : List Loc) (hLS : Lst dC dI ad bS Y s A h0 m0 ik vs kvs tl im vm kvm tm X T M T2 H) (cells slots : Nat) (hc0 : cells ≤ 590000) (hs0 : slots ≤ 7000000) (hS : va_S A s.heap H locs) (ls : Array Slot) (hl : lv_has ls 4 [(0, .ref b), (1, .ref h0), (2, .ref m0), (3, .int (nI i))]) (hcp : ik = im ∧ vs = vm ∧ (im = 0 ∨ kvs = kvm) ∧ tl = tm) (kk : ∀ (ik : Int32) (vs kvs : VS) (tl : List Nat) (im : Int32) (vm kvm : VS) (tm : List Nat) (X : va_W) (T : List (ClassId × FieldType)) (M : va_W) (H : Heap) (locs : List Loc), Lst dC dI ad bS Y s A h0 m0 ik vs kvs tl im vm kvm tm X T M T2 H → (ik = im ∧ vs = vm ∧ (im = 0 ∨ kvs = kvm) ∧ tl = tm) → va_S A s.heap H locs → W p l e room_1 s m #[Value.ref b] below meth c H locs (cells + 8) (slots + 200) (lw_Z below #[Value.ref b] s) (F0 m 1108 ls [])) : W p l e room_1 s m #[Value.ref b] below meth c H locs cells slots (lw_Z below #[Value.ref b] s) (F0 m 699 ls []) := by
  obtain ⟨hx, hb, hr, hml, hown, hts0, hX, hbl, hlocks, hgv⟩ := id C0
  have hown : s.vm.findClass RL = some m.cls := hown
  have hb : c.code = cL_law := hb
  have hts : ∀ w ∈ lw_tbl, w.before #[Value.ref b] s = true := fun w h => hts0 w (wsL_law_in w h)
  have hA : ∀ q : Nat, s.heap.size ≤ q → A q := fun q h => by rw [hAe]; exact h
  have hbA : ¬ A b := by rw [hAe]; exact Nat.not_le.mpr hbl
  refine lv_aload_n hx hb dL_law_699 rfl (lv_at hl 1 rfl) ?_
  refine lv_aload_n hx hb dL_law_700 rfl (lv_at hl 0 rfl) ?_
  refine lv_iload_n hx hb dL_law_701 rfl (lv_at hl 3 rfl) ?_
  refine lv_iconst (v := 1) hx hb dL_law_702 (by decide) ?_
  refine lv_iadd hx hb dL_law_703 ?_
  refine qi_as (y := nI (i + 1)) (nI_add i 1) ?_
  refine va_sld hx hb hX hbl hbA hS (vp_in_nI (n := i + 1) (N := L) (by omega) (by omega)) dL_law_704 ?_
  refine qi_as (y := xs (i + 1)) (by rw [nI_clamp (by omega)]) ?_
  refine lv_aload_n hx hb dL_law_705 rfl (lv_at hl 0 rfl) ?_
  refine lv_iload_n hx hb dL_law_706 rfl (lv_at hl 3 rfl) ?_
  refine lv_iconst (v := 2) hx hb dL_law_707 (by decide) ?_
  refine lv_iadd hx hb dL_law_708 ?_
  refine qi_as (y := nI (i + 2)) (nI_add i 2) ?_
  refine va_sld hx hb hX hbl hbA hS (vp_in_nI (n := i + 2) (N := L) (by omega) (by omega)) dL_law_709 ?_
  refine qi_as (y := xs (i + 2)) (by rw [nI_clamp (by omega)]) ?_
  refine lv_aload_n hx hb dL_law_710 rfl (lv_at hl 0 rfl) ?_
  refine lv_iload_n hx hb dL_law_711 rfl (lv_at hl 3 rfl) ?_
  refine lv_iconst (v := 3) hx hb dL_law_712 (by decide) ?_
  refine lv_iadd hx hb dL_law_713 ?_
  refine qi_as (y := nI (i + 3)) (nI_add i 3) ?_
  refine va_sld hx hb hX hbl hbA hS (vp_in_nI (n := i + 3) (N := L) (by omega) (by omega)) dL_law_714 ?_
  refine qi_as (y := xs (i + 3)) (by rw [nI_clamp (by omega)]) ?_
  refine lv_aload_n hx hb dL_law_715 rfl (lv_at hl 0 rfl) ?_
  refine lv_iload_n hx hb dL_law_716 rfl (lv_at hl 3 rfl) ?_
  refine lv_iconst (v := 4) hx hb dL_law_717 (by decide) ?_
  refine lv_iadd hx hb dL_law_718 ?_
  refine qi_as (y := nI (i + 4)) (nI_add i 4) ?_
  refine va_sld hx hb hX hbl hbA hS (vp_in_nI (n := i + 4) (N := L) (by omega) (by omega)) dL_law_719 ?_
  refine qi_as (y := xs (i + 4)) (by rw [nI_clamp (by omega)]) ?_
  refine lx_i (va_runV (As := [.int (xs (i + 1)), .int (xs (i + 2)), .int (xs (i + 3)), .int (xs (i + 4))]) (rest := []) ⟨hx, hb, hml, hown, hts⟩ (w_best l dC dI gd kA ad cB bS sK sV Y ik vs kvs tl T h0 X (xs (i + 1)) (xs (i + 2)) (xs (i + 3)) (xs (i + 4)) H.size) (cwV 4 hts gL_law_X11_best rfl rfl rfl hd_yX11_best ⟨Nat.le_of_ble_eq_true rfl, Nat.le_of_ble_eq_true rfl⟩) ⟨fun a U g mk q => by obtain ⟨q0, q1, qX, qK, qY1, qY2, qG⟩ := q; exact ⟨q0, q1, qX, va_K.moved (u := U) (U := U.calling g mk a) (Vm.Alike.refl U.vm) qK, qY1, qY2, qG.same rfl rfl⟩, hLS.1.recv hLS.2.2.1, fun U hU hW => ⟨rfl, by rw [hU], by rw [hU]; exact hLS.1, va_K.moved hW.alike hLS.2.2.1, hLS.2.2.2.2.2.2.1, fun q hq hy => absurd (hLS.2.2.2.2.2.2.2.2 q hy) (Nat.not_lt.mpr hq), hGA.call hS hU hW (bl_in hLS.2.2.2.2.1 hS hA)⟩⟩ rfl rfl hl.1 rfl (lv_room (Nat.le_of_ble_eq_true rfl)) dL_law_720 ⟨by show _ ≤ 600000; omega, by show _ ≤ 7302250; omega⟩) hLS hS hA (fun r1_ u_ H locs X T hp1 hLS hS => ?_)
  obtain rfl := hp1
  have hLS : Lst dC dI ad bS Y s A h0 m0 ik vs kvs tl im vm kvm tm X T M T2 H := hLS
  refine lv_pop hx hb dL_law_723 rfl ?_
  refine lv_aload_n hx hb dL_law_724 rfl (lv_at hl 2 rfl) ?_
  refine lv_aload_n hx hb dL_law_725 rfl (lv_at hl 0 rfl) ?_
  refine lv_iload_n hx hb dL_law_726 rfl (lv_at hl 3 rfl) ?_
  refine lv_iconst (v := 1) hx hb dL_law_727 (by decide) ?_
  refine lv_iadd hx hb dL_law_728 ?_
  refine qi_as (y := nI (i + 1)) (nI_add i 1) ?_
  refine va_sld hx hb hX hbl hbA hS (vp_in_nI (n := i + 1) (N := L) (by omega) (by omega)) dL_law_729 ?_
  refine qi_as (y := xs (i + 1)) (by rw [nI_clamp (by omega)]) ?_
  refine lv_aload_n hx hb dL_law_730 rfl (lv_at hl 0 rfl) ?_
  refine lv_iload_n hx hb dL_law_731 rfl (lv_at hl 3 rfl) ?_
  refine lv_iconst (v := 2) hx hb dL_law_732 (by decide) ?_
  refine lv_iadd hx hb dL_law_733 ?_
  refine qi_as (y := nI (i + 2)) (nI_add i 2) ?_
  refine va_sld hx hb hX hbl hbA hS (vp_in_nI (n := i + 2) (N := L) (by omega) (by omega)) dL_law_734 ?_
  refine qi_as (y := xs (i + 2)) (by rw [nI_clamp (by omega)]) ?_
  refine lv_aload_n hx hb dL_law_735 rfl (lv_at hl 0 rfl) ?_
  refine lv_iload_n hx hb dL_law_736 rfl (lv_at hl 3 rfl) ?_
  refine lv_iconst (v := 3) hx hb dL_law_737 (by decide) ?_
  refine lv_iadd hx hb dL_law_738 ?_
  refine qi_as (y := nI (i + 3)) (nI_add i 3) ?_
  refine va_sld hx hb hX hbl hbA hS (vp_in_nI (n := i + 3) (N := L) (by omega) (by omega)) dL_law_739 ?_
  refine qi_as (y := xs (i + 3)) (by rw [nI_clamp (by omega)]) ?_
  refine lv_aload_n hx hb dL_law_740 rfl (lv_at hl 0 rfl) ?_
  refine lv_iload_n hx hb dL_law_741 rfl (lv_at hl 3 rfl) ?_
  refine lv_iconst (v := 4) hx hb dL_law_742 (by decide) ?_
  refine lv_iadd hx hb dL_law_743 ?_
  refine qi_as (y := nI (i + 4)) (nI_add i 4) ?_
  refine va_sld hx hb hX hbl hbA hS (vp_in_nI (n := i + 4) (N := L) (by omega) (by omega)) dL_law_744 ?_
  refine qi_as (y := xs (i + 4)) (by rw [nI_clamp (by omega)]) ?_
  refine lm_i (va_runV (As := [.int (xs (i + 1)), .int (xs (i + 2)), .int (xs (i + 3)), .int (xs (i + 4))]) (rest := []) ⟨hx, hb, hml, hown, hts⟩ (v_best l dC dI sK sV im vm kvm tm T2 m0 M (xs (i + 1)) (xs (i + 2)) (xs (i + 3)) (xs (i + 4)) H.size) (cwV 4 hts gL_law_X12_best rfl rfl rfl hd_yX12_best ⟨Nat.le_of_ble_eq_true rfl, Nat.le_of_ble_eq_true rfl⟩) ⟨fun a U g mk q => by obtain ⟨q0, q1, qX, qK, qG⟩ := q; exact ⟨q0, q1, qX, va_K.moved (u := U) (U := U.calling g mk a) (Vm.Alike.refl U.vm) qK, qG.same rfl rfl⟩, hLS.2.1.recv hLS.2.2.2.1, fun U hU hW => ⟨rfl, by rw [hU], by rw [hU]; exact hLS.2.1, va_K.moved hW.alike hLS.2.2.2.1, hGA.2.2.2.2.2.2.call hS hU hW (bl_in hLS.2.2.2.2.2.1 hS hA)⟩⟩ rfl rfl hl.1 rfl (lv_room (Nat.le_of_ble_eq_true rfl)) dL_law_745 ⟨by show _ ≤ 600000; omega, by show _ ≤ 7302250; omega⟩) hLS hS hA (fun r2_ u_ H locs M hp2 hLS hS => ?_)
  obtain rfl := hp2
  have hLS : Lst dC dI ad bS Y s A h0 m0 ik vs kvs tl im vm kvm tm X T M T2 H := hLS
  refine lv_pop hx hb dL_law_748 rfl ?_
  refine lv_goto (tgt := 1108) hx hb dL_law_749 (by decide) ?_
  refine W.widen (k := cells + 8) (n := slots + 200) (by omega) (by omega) ?_
  exact kk ik vs kvs tl im vm kvm tm X T M H locs hLS hcp hS
