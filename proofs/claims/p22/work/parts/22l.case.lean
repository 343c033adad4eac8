def dk22lcase_cL_law_0 : List (Nat × Instr × Nat) := [(752, .aload_n 1, 1), (753, .aload_n 0, 1), (754, .iload_n 3, 1), (755, .iconst 1, 1), (756, .iadd, 1), (757, .iaload, 1), (758, .aload_n 0, 1), (759, .iload_n 3, 1), (760, .iconst 2, 1), (761, .iadd, 1), (762, .iaload, 1), (763, .aload_n 0, 1), (764, .iload_n 3, 1), (765, .iconst 3, 1), (766, .iadd, 1), (767, .iaload, 1), (768, .aload_n 0, 1), (769, .iload_n 3, 1), (770, .iconst 4, 1), (771, .iadd, 1), (772, .iaload, 1), (773, .invokevirtual 95, 3), (776, .pop2, 1), (777, .aload_n 2, 1), (778, .aload_n 0, 1), (779, .iload_n 3, 1), (780, .iconst 1, 1), (781, .iadd, 1), (782, .iaload, 1), (783, .aload_n 0, 1), (784, .iload_n 3, 1), (785, .iconst 2, 1), (786, .iadd, 1), (787, .iaload, 1), (788, .aload_n 0, 1), (789, .iload_n 3, 1), (790, .iconst 3, 1), (791, .iadd, 1), (792, .iaload, 1), (793, .aload_n 0, 1)]
set_option maxRecDepth 100000 in
theorem dk22lcase_cL_law_0_a : dkA cL_law dk22lcase_cL_law_0 = true := by decide +kernel
theorem dL_law_752 : decode cL_law 752 = .ok (.aload_n 1, 1) := dkAt dk22lcase_cL_law_0_a 0 rfl
theorem dL_law_753 : decode cL_law 753 = .ok (.aload_n 0, 1) := dkAt dk22lcase_cL_law_0_a 1 rfl
theorem dL_law_754 : decode cL_law 754 = .ok (.iload_n 3, 1) := dkAt dk22lcase_cL_law_0_a 2 rfl
theorem dL_law_755 : decode cL_law 755 = .ok (.iconst 1, 1) := dkAt dk22lcase_cL_law_0_a 3 rfl
theorem dL_law_756 : decode cL_law 756 = .ok (.iadd, 1) := dkAt dk22lcase_cL_law_0_a 4 rfl
theorem dL_law_757 : decode cL_law 757 = .ok (.iaload, 1) := dkAt dk22lcase_cL_law_0_a 5 rfl
theorem dL_law_758 : decode cL_law 758 = .ok (.aload_n 0, 1) := dkAt dk22lcase_cL_law_0_a 6 rfl
theorem dL_law_759 : decode cL_law 759 = .ok (.iload_n 3, 1) := dkAt dk22lcase_cL_law_0_a 7 rfl
theorem dL_law_760 : decode cL_law 760 = .ok (.iconst 2, 1) := dkAt dk22lcase_cL_law_0_a 8 rfl
theorem dL_law_761 : decode cL_law 761 = .ok (.iadd, 1) := dkAt dk22lcase_cL_law_0_a 9 rfl
theorem dL_law_762 : decode cL_law 762 = .ok (.iaload, 1) := dkAt dk22lcase_cL_law_0_a 10 rfl
theorem dL_law_763 : decode cL_law 763 = .ok (.aload_n 0, 1) := dkAt dk22lcase_cL_law_0_a 11 rfl
theorem dL_law_764 : decode cL_law 764 = .ok (.iload_n 3, 1) := dkAt dk22lcase_cL_law_0_a 12 rfl
theorem dL_law_765 : decode cL_law 765 = .ok (.iconst 3, 1) := dkAt dk22lcase_cL_law_0_a 13 rfl
theorem dL_law_766 : decode cL_law 766 = .ok (.iadd, 1) := dkAt dk22lcase_cL_law_0_a 14 rfl
theorem dL_law_767 : decode cL_law 767 = .ok (.iaload, 1) := dkAt dk22lcase_cL_law_0_a 15 rfl
theorem dL_law_768 : decode cL_law 768 = .ok (.aload_n 0, 1) := dkAt dk22lcase_cL_law_0_a 16 rfl
theorem dL_law_769 : decode cL_law 769 = .ok (.iload_n 3, 1) := dkAt dk22lcase_cL_law_0_a 17 rfl
theorem dL_law_770 : decode cL_law 770 = .ok (.iconst 4, 1) := dkAt dk22lcase_cL_law_0_a 18 rfl
theorem dL_law_771 : decode cL_law 771 = .ok (.iadd, 1) := dkAt dk22lcase_cL_law_0_a 19 rfl
theorem dL_law_772 : decode cL_law 772 = .ok (.iaload, 1) := dkAt dk22lcase_cL_law_0_a 20 rfl
theorem dL_law_773 : decode cL_law 773 = .ok (.invokevirtual 95, 3) := dkAt dk22lcase_cL_law_0_a 21 rfl
theorem dL_law_776 : decode cL_law 776 = .ok (.pop2, 1) := dkAt dk22lcase_cL_law_0_a 22 rfl
theorem dL_law_777 : decode cL_law 777 = .ok (.aload_n 2, 1) := dkAt dk22lcase_cL_law_0_a 23 rfl
theorem dL_law_778 : decode cL_law 778 = .ok (.aload_n 0, 1) := dkAt dk22lcase_cL_law_0_a 24 rfl
theorem dL_law_779 : decode cL_law 779 = .ok (.iload_n 3, 1) := dkAt dk22lcase_cL_law_0_a 25 rfl
theorem dL_law_780 : decode cL_law 780 = .ok (.iconst 1, 1) := dkAt dk22lcase_cL_law_0_a 26 rfl
theorem dL_law_781 : decode cL_law 781 = .ok (.iadd, 1) := dkAt dk22lcase_cL_law_0_a 27 rfl
theorem dL_law_782 : decode cL_law 782 = .ok (.iaload, 1) := dkAt dk22lcase_cL_law_0_a 28 rfl
theorem dL_law_783 : decode cL_law 783 = .ok (.aload_n 0, 1) := dkAt dk22lcase_cL_law_0_a 29 rfl
theorem dL_law_784 : decode cL_law 784 = .ok (.iload_n 3, 1) := dkAt dk22lcase_cL_law_0_a 30 rfl
theorem dL_law_785 : decode cL_law 785 = .ok (.iconst 2, 1) := dkAt dk22lcase_cL_law_0_a 31 rfl
theorem dL_law_786 : decode cL_law 786 = .ok (.iadd, 1) := dkAt dk22lcase_cL_law_0_a 32 rfl
theorem dL_law_787 : decode cL_law 787 = .ok (.iaload, 1) := dkAt dk22lcase_cL_law_0_a 33 rfl
theorem dL_law_788 : decode cL_law 788 = .ok (.aload_n 0, 1) := dkAt dk22lcase_cL_law_0_a 34 rfl
theorem dL_law_789 : decode cL_law 789 = .ok (.iload_n 3, 1) := dkAt dk22lcase_cL_law_0_a 35 rfl
theorem dL_law_790 : decode cL_law 790 = .ok (.iconst 3, 1) := dkAt dk22lcase_cL_law_0_a 36 rfl
theorem dL_law_791 : decode cL_law 791 = .ok (.iadd, 1) := dkAt dk22lcase_cL_law_0_a 37 rfl
theorem dL_law_792 : decode cL_law 792 = .ok (.iaload, 1) := dkAt dk22lcase_cL_law_0_a 38 rfl
theorem dL_law_793 : decode cL_law 793 = .ok (.aload_n 0, 1) := dkAt dk22lcase_cL_law_0_a 39 rfl
def dk22lcase_cL_law_40 : List (Nat × Instr × Nat) := [(794, .iload_n 3, 1), (795, .iconst 4, 1), (796, .iadd, 1), (797, .iaload, 1), (798, .invokevirtual 99, 3), (801, .pop2, 1), (802, .goto 306, 3)]
set_option maxRecDepth 100000 in
theorem dk22lcase_cL_law_40_a : dkA cL_law dk22lcase_cL_law_40 = true := by decide +kernel
theorem dL_law_794 : decode cL_law 794 = .ok (.iload_n 3, 1) := dkAt dk22lcase_cL_law_40_a 0 rfl
theorem dL_law_795 : decode cL_law 795 = .ok (.iconst 4, 1) := dkAt dk22lcase_cL_law_40_a 1 rfl
theorem dL_law_796 : decode cL_law 796 = .ok (.iadd, 1) := dkAt dk22lcase_cL_law_40_a 2 rfl
theorem dL_law_797 : decode cL_law 797 = .ok (.iaload, 1) := dkAt dk22lcase_cL_law_40_a 3 rfl
theorem dL_law_798 : decode cL_law 798 = .ok (.invokevirtual 99, 3) := dkAt dk22lcase_cL_law_40_a 4 rfl
theorem dL_law_801 : decode cL_law 801 = .ok (.pop2, 1) := dkAt dk22lcase_cL_law_40_a 5 rfl
theorem dL_law_802 : decode cL_law 802 = .ok (.goto 306, 3) := dkAt dk22lcase_cL_law_40_a 6 rfl
set_option maxHeartbeats 4000000 in
set_option maxRecDepth 100000 in
theorem lc_18 {p : Program} {l : Launch} {e : Env} {s : State} {m : MethodId} {below : List Frame} {meth : Method} {c : Code} {b L : Nat} {xs : Nat → Int32} {A : Nat → Prop} (hAe : A = fun q => s.heap.size ≤ q) (C0 : lw_At p s m meth c b L xs) (dC : Nat → ClassId) (dI : Nat → Nat → Nat) (gd : Nat → Nat) (kA : Nat) (ad : Nat → Nat) (cB bS : Nat) (sK sV : Nat → Nat) (Y : Nat → Prop) (h0 m0 : Nat) (ik : Int32) (vs kvs : VS) (tl : List Nat) (im : Int32) (vm kvm : VS) (tm : List Nat) (X : va_W) (T : List (ClassId × FieldType)) (M : va_W) (T2 : List (ClassId × FieldType)) (hGA : GA gd kA ad cB bS sK sV A s) (i : Nat) (hi : i + 5 ≤ L) (hL : L ≤ 320) (H : Heap) (locs : List Loc) (hLS : Lst dC dI ad bS Y s A h0 m0 ik vs kvs tl im vm kvm tm X T M T2 H) (cells slots : Nat) (hc0 : cells ≤ 590000) (hs0 : slots ≤ 7000000) (hS : va_S A s.heap H locs) (ls : Array Slot) (hl : lv_has ls 4 [(0, .ref b), (1, .ref h0), (2, .ref m0), (3, .int (nI i))]) (hcp : ik = im ∧ vs = vm ∧ (im = 0 ∨ kvs = kvm) ∧ tl = tm) (kk : ∀ (ik : Int32) (vs kvs : VS) (tl : List Nat) (im : Int32) (vm kvm : VS) (tm : List Nat) (X : va_W) (T : List (ClassId × FieldType)) (M : va_W) (H : Heap) (locs : List Loc), Lst dC dI ad bS Y s A h0 m0 ik vs kvs tl im vm kvm tm X T M T2 H → (ik = im ∧ vs = vm ∧ (im = 0 ∨ kvs = kvm) ∧ tl = tm) → va_S A s.heap H locs → W p l e room_1 s m #[Value.ref b] below meth c H locs (cells + 8) (slots + 200) (lw_Z below #[Value.ref b] s) (F0 m 1108 ls [])) : W p l e room_1 s m #[Value.ref b] below meth c H locs cells slots (lw_Z below #[Value.ref b] s) (F0 m 752 ls []) := by
  obtain ⟨hx, hb, hr, hml, hown, hts0, hX, hbl, hlocks, hgv⟩ := id C0
  have hown : s.vm.findClass RL = some m.cls := hown
  have hb : c.code = cL_law := hb
  have hts : ∀ w ∈ lw_tbl, w.before #[Value.ref b] s = true := fun w h => hts0 w (wsL_law_in w h)
  have hA : ∀ q : Nat, s.heap.size ≤ q → A q := fun q h => by rw [hAe]; exact h
  have hbA : ¬ A b := by rw [hAe]; exact Nat.not_le.mpr hbl
  refine lv_aload_n hx hb dL_law_752 rfl (lv_at hl 1 rfl) ?_
  refine lv_aload_n hx hb dL_law_753 rfl (lv_at hl 0 rfl) ?_
  refine lv_iload_n hx hb dL_law_754 rfl (lv_at hl 3 rfl) ?_
  refine lv_iconst (v := 1) hx hb dL_law_755 (by decide) ?_
  refine lv_iadd hx hb dL_law_756 ?_
  refine qi_as (y := nI (i + 1)) (nI_add i 1) ?_
  refine va_sld hx hb hX hbl hbA hS (vp_in_nI (n := i + 1) (N := L) (by omega) (by omega)) dL_law_757 ?_
  refine qi_as (y := xs (i + 1)) (by rw [nI_clamp (by omega)]) ?_
  refine lv_aload_n hx hb dL_law_758 rfl (lv_at hl 0 rfl) ?_
  refine lv_iload_n hx hb dL_law_759 rfl (lv_at hl 3 rfl) ?_
  refine lv_iconst (v := 2) hx hb dL_law_760 (by decide) ?_
  refine lv_iadd hx hb dL_law_761 ?_
  refine qi_as (y := nI (i + 2)) (nI_add i 2) ?_
  refine va_sld hx hb hX hbl hbA hS (vp_in_nI (n := i + 2) (N := L) (by omega) (by omega)) dL_law_762 ?_
  refine qi_as (y := xs (i + 2)) (by rw [nI_clamp (by omega)]) ?_
  refine lv_aload_n hx hb dL_law_763 rfl (lv_at hl 0 rfl) ?_
  refine lv_iload_n hx hb dL_law_764 rfl (lv_at hl 3 rfl) ?_
  refine lv_iconst (v := 3) hx hb dL_law_765 (by decide) ?_
  refine lv_iadd hx hb dL_law_766 ?_
  refine qi_as (y := nI (i + 3)) (nI_add i 3) ?_
  refine va_sld hx hb hX hbl hbA hS (vp_in_nI (n := i + 3) (N := L) (by omega) (by omega)) dL_law_767 ?_
  refine qi_as (y := xs (i + 3)) (by rw [nI_clamp (by omega)]) ?_
  refine lv_aload_n hx hb dL_law_768 rfl (lv_at hl 0 rfl) ?_
  refine lv_iload_n hx hb dL_law_769 rfl (lv_at hl 3 rfl) ?_
  refine lv_iconst (v := 4) hx hb dL_law_770 (by decide) ?_
  refine lv_iadd hx hb dL_law_771 ?_
  refine qi_as (y := nI (i + 4)) (nI_add i 4) ?_
  refine va_sld hx hb hX hbl hbA hS (vp_in_nI (n := i + 4) (N := L) (by omega) (by omega)) dL_law_772 ?_
  refine qi_as (y := xs (i + 4)) (by rw [nI_clamp (by omega)]) ?_
  refine lx_l (va_runV (As := [.int (xs (i + 1)), .int (xs (i + 2)), .int (xs (i + 3)), .int (xs (i + 4))]) (rest := []) ⟨hx, hb, hml, hown, hts⟩ (w_bestOdds l dC dI gd kA ad cB bS sK sV Y ik vs kvs tl T h0 X (xs (i + 1)) (xs (i + 2)) (xs (i + 3)) (xs (i + 4)) H.size) (cwV 4 hts gL_law_X11_bestOdds rfl rfl rfl hd_yX11_bestOdds ⟨Nat.le_of_ble_eq_true rfl, Nat.le_of_ble_eq_true rfl⟩) ⟨fun a U g mk q => by obtain ⟨q0, q1, qX, qK, qY1, qY2, qG⟩ := q; exact ⟨q0, q1, qX, va_K.moved (u := U) (U := U.calling g mk a) (Vm.Alike.refl U.vm) qK, qY1, qY2, qG.same rfl rfl⟩, hLS.1.recv hLS.2.2.1, fun U hU hW => ⟨rfl, by rw [hU], by rw [hU]; exact hLS.1, va_K.moved hW.alike hLS.2.2.1, hLS.2.2.2.2.2.2.1, fun q hq hy => absurd (hLS.2.2.2.2.2.2.2.2 q hy) (Nat.not_lt.mpr hq), hGA.call hS hU hW (bl_in hLS.2.2.2.2.1 hS hA)⟩⟩ rfl rfl hl.1 rfl (lv_room (Nat.le_of_ble_eq_true rfl)) dL_law_773 ⟨by show _ ≤ 600000; omega, by show _ ≤ 7302250; omega⟩) hLS hS hA (fun r1_ u_ H locs X T hp1 hLS hS => ?_)
  obtain rfl := hp1
  have hLS : Lst dC dI ad bS Y s A h0 m0 ik vs kvs tl im vm kvm tm X T M T2 H := hLS
  refine lv_pop2_2 hx hb dL_law_776 rfl ?_
  refine lv_aload_n hx hb dL_law_777 rfl (lv_at hl 2 rfl) ?_
  refine lv_aload_n hx hb dL_law_778 rfl (lv_at hl 0 rfl) ?_
  refine lv_iload_n hx hb dL_law_779 rfl (lv_at hl 3 rfl) ?_
  refine lv_iconst (v := 1) hx hb dL_law_780 (by decide) ?_
  refine lv_iadd hx hb dL_law_781 ?_
  refine qi_as (y := nI (i + 1)) (nI_add i 1) ?_
  refine va_sld hx hb hX hbl hbA hS (vp_in_nI (n := i + 1) (N := L) (by omega) (by omega)) dL_law_782 ?_
  refine qi_as (y := xs (i + 1)) (by rw [nI_clamp (by omega)]) ?_
  refine lv_aload_n hx hb dL_law_783 rfl (lv_at hl 0 rfl) ?_
  refine lv_iload_n hx hb dL_law_784 rfl (lv_at hl 3 rfl) ?_
  refine lv_iconst (v := 2) hx hb dL_law_785 (by decide) ?_
  refine lv_iadd hx hb dL_law_786 ?_
  refine qi_as (y := nI (i + 2)) (nI_add i 2) ?_
  refine va_sld hx hb hX hbl hbA hS (vp_in_nI (n := i + 2) (N := L) (by omega) (by omega)) dL_law_787 ?_
  refine qi_as (y := xs (i + 2)) (by rw [nI_clamp (by omega)]) ?_
  refine lv_aload_n hx hb dL_law_788 rfl (lv_at hl 0 rfl) ?_
  refine lv_iload_n hx hb dL_law_789 rfl (lv_at hl 3 rfl) ?_
  refine lv_iconst (v := 3) hx hb dL_law_790 (by decide) ?_
  refine lv_iadd hx hb dL_law_791 ?_
  refine qi_as (y := nI (i + 3)) (nI_add i 3) ?_
  refine va_sld hx hb hX hbl hbA hS (vp_in_nI (n := i + 3) (N := L) (by omega) (by omega)) dL_law_792 ?_
  refine qi_as (y := xs (i + 3)) (by rw [nI_clamp (by omega)]) ?_
  refine lv_aload_n hx hb dL_law_793 rfl (lv_at hl 0 rfl) ?_
  refine lv_iload_n hx hb dL_law_794 rfl (lv_at hl 3 rfl) ?_
  refine lv_iconst (v := 4) hx hb dL_law_795 (by decide) ?_
  refine lv_iadd hx hb dL_law_796 ?_
  refine qi_as (y := nI (i + 4)) (nI_add i 4) ?_
  refine va_sld hx hb hX hbl hbA hS (vp_in_nI (n := i + 4) (N := L) (by omega) (by omega)) dL_law_797 ?_
  refine qi_as (y := xs (i + 4)) (by rw [nI_clamp (by omega)]) ?_
  refine lm_l (va_runV (As := [.int (xs (i + 1)), .int (xs (i + 2)), .int (xs (i + 3)), .int (xs (i + 4))]) (rest := []) ⟨hx, hb, hml, hown, hts⟩ (v_bestOdds l dC dI sK sV im vm kvm tm T2 m0 M (xs (i + 1)) (xs (i + 2)) (xs (i + 3)) (xs (i + 4)) H.size) (cwV 4 hts gL_law_X12_bestOdds rfl rfl rfl hd_yX12_bestOdds ⟨Nat.le_of_ble_eq_true rfl, Nat.le_of_ble_eq_true rfl⟩) ⟨fun a U g mk q => by obtain ⟨q0, q1, qX, qK, qG⟩ := q; exact ⟨q0, q1, qX, va_K.moved (u := U) (U := U.calling g mk a) (Vm.Alike.refl U.vm) qK, qG.same rfl rfl⟩, hLS.2.1.recv hLS.2.2.2.1, fun U hU hW => ⟨rfl, by rw [hU], by rw [hU]; exact hLS.2.1, va_K.moved hW.alike hLS.2.2.2.1, hGA.2.2.2.2.2.2.call hS hU hW (bl_in hLS.2.2.2.2.2.1 hS hA)⟩⟩ rfl rfl hl.1 rfl (lv_room (Nat.le_of_ble_eq_true rfl)) dL_law_798 ⟨by show _ ≤ 600000; omega, by show _ ≤ 7302250; omega⟩) hLS hS hA (fun r2_ u_ H locs M hp2 hLS hS => ?_)
  obtain rfl := hp2
  have hLS : Lst dC dI ad bS Y s A h0 m0 ik vs kvs tl im vm kvm tm X T M T2 H := hLS
  refine lv_pop2_2 hx hb dL_law_801 rfl ?_
  refine lv_goto (tgt := 1108) hx hb dL_law_802 (by decide) ?_
  refine W.widen (k := cells + 8) (n := slots + 200) (by omega) (by omega) ?_
  exact kk ik vs kvs tl im vm kvm tm X T M H locs hLS hcp hS
