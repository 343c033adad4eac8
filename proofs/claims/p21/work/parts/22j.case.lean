section mg22j
noncomputable def dk22jcase_cL_law_0 : List (Nat × List Nat) := [(656, [43]), (657, [42]), (658, [29]), (659, [4]), (660, [96]), (661, [46]), (662, [42]), (663, [29]), (664, [5]), (665, [96]), (666, [46]), (667, [42]), (668, [29]), (669, [6]), (670, [96]), (671, [46]), (672, [182, 0, 85]), (675, [88]), (676, [44]), (677, [42]), (678, [29]), (679, [4]), (680, [96]), (681, [46]), (682, [42]), (683, [29]), (684, [5]), (685, [96]), (686, [46]), (687, [42]), (688, [29]), (689, [6]), (690, [96]), (691, [46]), (692, [182, 0, 89]), (695, [88]), (696, [167, 1, 156])]
set_option maxRecDepth 100000 in
theorem dk22jcase_cL_law_0_a : btA cL_law dk22jcase_cL_law_0 = true := by decide +kernel
theorem dL_law_656 : decode cL_law 656 = .ok (.aload_n 1, 1) := bd43 (btAt dk22jcase_cL_law_0_a 0 rfl)
theorem dL_law_657 : decode cL_law 657 = .ok (.aload_n 0, 1) := bd42 (btAt dk22jcase_cL_law_0_a 1 rfl)
theorem dL_law_658 : decode cL_law 658 = .ok (.iload_n 3, 1) := bd29 (btAt dk22jcase_cL_law_0_a 2 rfl)
theorem dL_law_659 : decode cL_law 659 = .ok (.iconst 1, 1) := bd4 (btAt dk22jcase_cL_law_0_a 3 rfl)
theorem dL_law_660 : decode cL_law 660 = .ok (.iadd, 1) := bd96 (btAt dk22jcase_cL_law_0_a 4 rfl)
theorem dL_law_661 : decode cL_law 661 = .ok (.iaload, 1) := bd46 (btAt dk22jcase_cL_law_0_a 5 rfl)
theorem dL_law_662 : decode cL_law 662 = .ok (.aload_n 0, 1) := bd42 (btAt dk22jcase_cL_law_0_a 6 rfl)
theorem dL_law_663 : decode cL_law 663 = .ok (.iload_n 3, 1) := bd29 (btAt dk22jcase_cL_law_0_a 7 rfl)
theorem dL_law_664 : decode cL_law 664 = .ok (.iconst 2, 1) := bd5 (btAt dk22jcase_cL_law_0_a 8 rfl)
theorem dL_law_665 : decode cL_law 665 = .ok (.iadd, 1) := bd96 (btAt dk22jcase_cL_law_0_a 9 rfl)
theorem dL_law_666 : decode cL_law 666 = .ok (.iaload, 1) := bd46 (btAt dk22jcase_cL_law_0_a 10 rfl)
theorem dL_law_667 : decode cL_law 667 = .ok (.aload_n 0, 1) := bd42 (btAt dk22jcase_cL_law_0_a 11 rfl)
theorem dL_law_668 : decode cL_law 668 = .ok (.iload_n 3, 1) := bd29 (btAt dk22jcase_cL_law_0_a 12 rfl)
theorem dL_law_669 : decode cL_law 669 = .ok (.iconst 3, 1) := bd6 (btAt dk22jcase_cL_law_0_a 13 rfl)
theorem dL_law_670 : decode cL_law 670 = .ok (.iadd, 1) := bd96 (btAt dk22jcase_cL_law_0_a 14 rfl)
theorem dL_law_671 : decode cL_law 671 = .ok (.iaload, 1) := bd46 (btAt dk22jcase_cL_law_0_a 15 rfl)
theorem dL_law_672 : decode cL_law 672 = .ok (.invokevirtual 85, 3) := bd182 (a := 0) (b := 85) (btAt dk22jcase_cL_law_0_a 16 rfl)
theorem dL_law_675 : decode cL_law 675 = .ok (.pop2, 1) := bd88 (btAt dk22jcase_cL_law_0_a 17 rfl)
theorem dL_law_676 : decode cL_law 676 = .ok (.aload_n 2, 1) := bd44 (btAt dk22jcase_cL_law_0_a 18 rfl)
theorem dL_law_677 : decode cL_law 677 = .ok (.aload_n 0, 1) := bd42 (btAt dk22jcase_cL_law_0_a 19 rfl)
theorem dL_law_678 : decode cL_law 678 = .ok (.iload_n 3, 1) := bd29 (btAt dk22jcase_cL_law_0_a 20 rfl)
theorem dL_law_679 : decode cL_law 679 = .ok (.iconst 1, 1) := bd4 (btAt dk22jcase_cL_law_0_a 21 rfl)
theorem dL_law_680 : decode cL_law 680 = .ok (.iadd, 1) := bd96 (btAt dk22jcase_cL_law_0_a 22 rfl)
theorem dL_law_681 : decode cL_law 681 = .ok (.iaload, 1) := bd46 (btAt dk22jcase_cL_law_0_a 23 rfl)
theorem dL_law_682 : decode cL_law 682 = .ok (.aload_n 0, 1) := bd42 (btAt dk22jcase_cL_law_0_a 24 rfl)
theorem dL_law_683 : decode cL_law 683 = .ok (.iload_n 3, 1) := bd29 (btAt dk22jcase_cL_law_0_a 25 rfl)
theorem dL_law_684 : decode cL_law 684 = .ok (.iconst 2, 1) := bd5 (btAt dk22jcase_cL_law_0_a 26 rfl)
theorem dL_law_685 : decode cL_law 685 = .ok (.iadd, 1) := bd96 (btAt dk22jcase_cL_law_0_a 27 rfl)
theorem dL_law_686 : decode cL_law 686 = .ok (.iaload, 1) := bd46 (btAt dk22jcase_cL_law_0_a 28 rfl)
theorem dL_law_687 : decode cL_law 687 = .ok (.aload_n 0, 1) := bd42 (btAt dk22jcase_cL_law_0_a 29 rfl)
theorem dL_law_688 : decode cL_law 688 = .ok (.iload_n 3, 1) := bd29 (btAt dk22jcase_cL_law_0_a 30 rfl)
theorem dL_law_689 : decode cL_law 689 = .ok (.iconst 3, 1) := bd6 (btAt dk22jcase_cL_law_0_a 31 rfl)
theorem dL_law_690 : decode cL_law 690 = .ok (.iadd, 1) := bd96 (btAt dk22jcase_cL_law_0_a 32 rfl)
theorem dL_law_691 : decode cL_law 691 = .ok (.iaload, 1) := bd46 (btAt dk22jcase_cL_law_0_a 33 rfl)
theorem dL_law_692 : decode cL_law 692 = .ok (.invokevirtual 89, 3) := bd182 (a := 0) (b := 89) (btAt dk22jcase_cL_law_0_a 34 rfl)
theorem dL_law_695 : decode cL_law 695 = .ok (.pop2, 1) := bd88 (btAt dk22jcase_cL_law_0_a 35 rfl)
theorem dL_law_696 : decode cL_law 696 = .ok (.goto 412, 3) := bd167 (a := 1) (b := 156) (btAt dk22jcase_cL_law_0_a 36 rfl)
set_option maxHeartbeats 4000000 in
set_option maxRecDepth 100000 in
theorem lc_16 {p : Program} {l : Launch} {e : Env} {s : State} {m : MethodId} {below : List Frame} {meth : Method} {c : Code} {b L : Nat} {xs : Nat → Int32} {A : Nat → Prop} (hAe : A = fun q => s.heap.size ≤ q) (C0 : lw_At p s m meth c b L xs) (dC : Nat → ClassId) (dI : Nat → Nat → Nat) (gd : Nat → Nat) (kA : Nat) (ad : Nat → Nat) (cB bS : Nat) (sK sV : Nat → Nat) (Y : Nat → Prop) (h0 m0 : Nat) (ik : Int32) (vs kvs : VS) (tl : List Nat) (im : Int32) (vm kvm : VS) (tm : List Nat) (X : va_W) (T : List (ClassId × FieldType)) (M : va_W) (T2 : List (ClassId × FieldType)) (hGA : GA gd kA ad cB bS sK sV A s) (i : Nat) (hi : i + 5 ≤ L) (hL : L ≤ 320) (H : Heap) (locs : List Loc) (hLS : Lst dC dI ad bS Y s A h0 m0 ik vs kvs tl im vm kvm tm X T M T2 H) (cells slots : Nat) (hc0 : cells ≤ 590000) (hs0 : slots ≤ 7000000) (hS : va_S A s.heap H locs) (ls : Array Slot) (hl : lv_has ls 4 [(0, .ref b), (1, .ref h0), (2, .ref m0), (3, .int (nI i))]) (hcp : ik = im ∧ vs = vm ∧ (im = 0 ∨ kvs = kvm) ∧ tl = tm) (kk : ∀ (ik : Int32) (vs kvs : VS) (tl : List Nat) (im : Int32) (vm kvm : VS) (tm : List Nat) (X : va_W) (T : List (ClassId × FieldType)) (M : va_W) (H : Heap) (locs : List Loc), Lst dC dI ad bS Y s A h0 m0 ik vs kvs tl im vm kvm tm X T M T2 H → (ik = im ∧ vs = vm ∧ (im = 0 ∨ kvs = kvm) ∧ tl = tm) → va_S A s.heap H locs → W p l e room_1 s m #[Value.ref b] below meth c H locs (cells + 8) (slots + 200) (lw_Z below #[Value.ref b] s) (F0 m 1108 ls [])) : W p l e room_1 s m #[Value.ref b] below meth c H locs cells slots (lw_Z below #[Value.ref b] s) (F0 m 656 ls []) := by
  obtain ⟨hx, hb, hr, hml, hown, hts0, hX, hbl, hlocks, hgv⟩ := id C0
  have hown : s.vm.findClass RL = some m.cls := hown
  have hb : c.code = cL_law := hb
  have hts : ∀ w ∈ lw_tbl, w.before #[Value.ref b] s = true := fun w h => hts0 w (wsL_law_in w h)
  have hA : ∀ q : Nat, s.heap.size ≤ q → A q := fun q h => by rw [hAe]; exact h
  have hbA : ¬ A b := by rw [hAe]; exact Nat.not_le.mpr hbl
  refine lv_aload_n hx hb dL_law_656 rfl (lv_at hl 1 rfl) ?_
  refine lv_aload_n hx hb dL_law_657 rfl (lv_at hl 0 rfl) ?_
  refine lv_iload_n hx hb dL_law_658 rfl (lv_at hl 3 rfl) ?_
  refine lv_iconst (v := 1) hx hb dL_law_659 (by decide) ?_
  refine lv_iadd hx hb dL_law_660 ?_
  refine qi_as (y := nI (i + 1)) (nI_add i 1) ?_
  refine va_sld hx hb hX hbl hbA hS (vp_in_nI (n := i + 1) (N := L) (by omega) (by omega)) dL_law_661 ?_
  refine qi_as (y := xs (i + 1)) (by rw [nI_clamp (by omega)]) ?_
  refine lv_aload_n hx hb dL_law_662 rfl (lv_at hl 0 rfl) ?_
  refine lv_iload_n hx hb dL_law_663 rfl (lv_at hl 3 rfl) ?_
  refine lv_iconst (v := 2) hx hb dL_law_664 (by decide) ?_
  refine lv_iadd hx hb dL_law_665 ?_
  refine qi_as (y := nI (i + 2)) (nI_add i 2) ?_
  refine va_sld hx hb hX hbl hbA hS (vp_in_nI (n := i + 2) (N := L) (by omega) (by omega)) dL_law_666 ?_
  refine qi_as (y := xs (i + 2)) (by rw [nI_clamp (by omega)]) ?_
  refine lv_aload_n hx hb dL_law_667 rfl (lv_at hl 0 rfl) ?_
  refine lv_iload_n hx hb dL_law_668 rfl (lv_at hl 3 rfl) ?_
  refine lv_iconst (v := 3) hx hb dL_law_669 (by decide) ?_
  refine lv_iadd hx hb dL_law_670 ?_
  refine qi_as (y := nI (i + 3)) (nI_add i 3) ?_
  refine va_sld hx hb hX hbl hbA hS (vp_in_nI (n := i + 3) (N := L) (by omega) (by omega)) dL_law_671 ?_
  refine qi_as (y := xs (i + 3)) (by rw [nI_clamp (by omega)]) ?_
  refine lx_l (va_runV (As := [.int (xs (i + 1)), .int (xs (i + 2)), .int (xs (i + 3))]) (rest := []) ⟨hx, hb, hml, hown, hts⟩ (w_odds l dC dI gd kA ad cB bS sK sV Y ik vs kvs tl T h0 X (xs (i + 1)) (xs (i + 2)) (xs (i + 3)) H.size) (cwV 3 hts gL_law_X11_odds rfl rfl rfl hd_yX11_odds ⟨Nat.le_of_ble_eq_true rfl, Nat.le_of_ble_eq_true rfl⟩) ⟨fun a U g mk q => by obtain ⟨q0, q1, qX, qK, qY1, qY2, qG⟩ := q; exact ⟨q0, mvz g mk a q1, qX, mvK g mk a qK, qY1, qY2, qG.same rfl rfl⟩, hLS.1.recv hLS.2.2.1, fun U hU hW => ⟨rfl, by rw [hU], by rw [hU]; exact hLS.1, va_K.moved hW.alike hLS.2.2.1, hLS.2.2.2.2.2.2.1, fun q hq hy => absurd (hLS.2.2.2.2.2.2.2.2 q hy) (Nat.not_lt.mpr hq), hGA.call hS hU hW (bl_in hLS.2.2.2.2.1 hS hA)⟩⟩ rfl rfl hl.1 rfl (lv_room (Nat.le_of_ble_eq_true rfl)) dL_law_672 ⟨by show _ ≤ 600000; omega, by show _ ≤ 7302250; omega⟩) hLS hS hA (fun r1_ u_ H locs X T hp1 hLS hS => ?_)
  obtain ⟨e1_, rfl⟩ := hp1
  have hLS : Lst dC dI ad bS Y s A h0 m0 ik vs kvs tl im vm kvm tm X T M T2 H := hLS
  refine lv_pop2_2 hx hb dL_law_675 rfl ?_
  refine lv_aload_n hx hb dL_law_676 rfl (lv_at hl 2 rfl) ?_
  refine lv_aload_n hx hb dL_law_677 rfl (lv_at hl 0 rfl) ?_
  refine lv_iload_n hx hb dL_law_678 rfl (lv_at hl 3 rfl) ?_
  refine lv_iconst (v := 1) hx hb dL_law_679 (by decide) ?_
  refine lv_iadd hx hb dL_law_680 ?_
  refine qi_as (y := nI (i + 1)) (nI_add i 1) ?_
  refine va_sld hx hb hX hbl hbA hS (vp_in_nI (n := i + 1) (N := L) (by omega) (by omega)) dL_law_681 ?_
  refine qi_as (y := xs (i + 1)) (by rw [nI_clamp (by omega)]) ?_
  refine lv_aload_n hx hb dL_law_682 rfl (lv_at hl 0 rfl) ?_
  refine lv_iload_n hx hb dL_law_683 rfl (lv_at hl 3 rfl) ?_
  refine lv_iconst (v := 2) hx hb dL_law_684 (by decide) ?_
  refine lv_iadd hx hb dL_law_685 ?_
  refine qi_as (y := nI (i + 2)) (nI_add i 2) ?_
  refine va_sld hx hb hX hbl hbA hS (vp_in_nI (n := i + 2) (N := L) (by omega) (by omega)) dL_law_686 ?_
  refine qi_as (y := xs (i + 2)) (by rw [nI_clamp (by omega)]) ?_
  refine lv_aload_n hx hb dL_law_687 rfl (lv_at hl 0 rfl) ?_
  refine lv_iload_n hx hb dL_law_688 rfl (lv_at hl 3 rfl) ?_
  refine lv_iconst (v := 3) hx hb dL_law_689 (by decide) ?_
  refine lv_iadd hx hb dL_law_690 ?_
  refine qi_as (y := nI (i + 3)) (nI_add i 3) ?_
  refine va_sld hx hb hX hbl hbA hS (vp_in_nI (n := i + 3) (N := L) (by omega) (by omega)) dL_law_691 ?_
  refine qi_as (y := xs (i + 3)) (by rw [nI_clamp (by omega)]) ?_
  refine lm_l (va_runV (As := [.int (xs (i + 1)), .int (xs (i + 2)), .int (xs (i + 3))]) (rest := []) ⟨hx, hb, hml, hown, hts⟩ (v_odds l dC dI sK sV im vm kvm tm T2 m0 M (xs (i + 1)) (xs (i + 2)) (xs (i + 3)) H.size) (cwV 3 hts gL_law_X12_odds rfl rfl rfl hd_yX12_odds ⟨Nat.le_of_ble_eq_true rfl, Nat.le_of_ble_eq_true rfl⟩) ⟨fun a U g mk q => by obtain ⟨q0, q1, qX, qK, qG⟩ := q; exact ⟨q0, mvz g mk a q1, qX, mvK g mk a qK, qG.same rfl rfl⟩, hLS.2.1.recv hLS.2.2.2.1, fun U hU hW => ⟨rfl, by rw [hU], by rw [hU]; exact hLS.2.1, va_K.moved hW.alike hLS.2.2.2.1, hGA.2.2.2.2.2.2.call hS hU hW (bl_in hLS.2.2.2.2.2.1 hS hA)⟩⟩ rfl rfl hl.1 rfl (lv_room (Nat.le_of_ble_eq_true rfl)) dL_law_692 ⟨by show _ ≤ 600000; omega, by show _ ≤ 7302250; omega⟩) hLS hS hA (fun r2_ u_ H locs M hp2 hLS hS => ?_)
  obtain ⟨e2_, rfl⟩ := hp2
  have hLS : Lst dC dI ad bS Y s A h0 m0 ik vs kvs tl im vm kvm tm X T M T2 H := hLS
  refine lv_pop2_2 hx hb dL_law_695 rfl ?_
  refine lv_goto (tgt := 1108) hx hb dL_law_696 (by decide) ?_
  refine W.widen (k := cells + 8) (n := slots + 200) (by omega) (by omega) ?_
  exact kk ik vs kvs tl im vm kvm tm X T M H locs hLS ⟨hcp.1, by rw [hcp.2.1], hcp.2.2⟩ hS
end mg22j
section mg22j
noncomputable def dk22kcase_cL_law_0 : List (Nat × List Nat) := [(699, [43]), (700, [42]), (701, [29]), (702, [4]), (703, [96]), (704, [46]), (705, [42]), (706, [29]), (707, [5]), (708, [96]), (709, [46]), (710, [42]), (711, [29]), (712, [6]), (713, [96]), (714, [46]), (715, [42]), (716, [29]), (717, [7]), (718, [96]), (719, [46]), (720, [182, 0, 90]), (723, [87]), (724, [44]), (725, [42]), (726, [29]), (727, [4]), (728, [96]), (729, [46]), (730, [42]), (731, [29]), (732, [5]), (733, [96]), (734, [46]), (735, [42]), (736, [29]), (737, [6]), (738, [96]), (739, [46]), (740, [42])]
set_option maxRecDepth 100000 in
theorem dk22kcase_cL_law_0_a : btA cL_law dk22kcase_cL_law_0 = true := by decide +kernel
theorem dL_law_699 : decode cL_law 699 = .ok (.aload_n 1, 1) := bd43 (btAt dk22kcase_cL_law_0_a 0 rfl)
theorem dL_law_700 : decode cL_law 700 = .ok (.aload_n 0, 1) := bd42 (btAt dk22kcase_cL_law_0_a 1 rfl)
theorem dL_law_701 : decode cL_law 701 = .ok (.iload_n 3, 1) := bd29 (btAt dk22kcase_cL_law_0_a 2 rfl)
theorem dL_law_702 : decode cL_law 702 = .ok (.iconst 1, 1) := bd4 (btAt dk22kcase_cL_law_0_a 3 rfl)
theorem dL_law_703 : decode cL_law 703 = .ok (.iadd, 1) := bd96 (btAt dk22kcase_cL_law_0_a 4 rfl)
theorem dL_law_704 : decode cL_law 704 = .ok (.iaload, 1) := bd46 (btAt dk22kcase_cL_law_0_a 5 rfl)
theorem dL_law_705 : decode cL_law 705 = .ok (.aload_n 0, 1) := bd42 (btAt dk22kcase_cL_law_0_a 6 rfl)
theorem dL_law_706 : decode cL_law 706 = .ok (.iload_n 3, 1) := bd29 (btAt dk22kcase_cL_law_0_a 7 rfl)
theorem dL_law_707 : decode cL_law 707 = .ok (.iconst 2, 1) := bd5 (btAt dk22kcase_cL_law_0_a 8 rfl)
theorem dL_law_708 : decode cL_law 708 = .ok (.iadd, 1) := bd96 (btAt dk22kcase_cL_law_0_a 9 rfl)
theorem dL_law_709 : decode cL_law 709 = .ok (.iaload, 1) := bd46 (btAt dk22kcase_cL_law_0_a 10 rfl)
theorem dL_law_710 : decode cL_law 710 = .ok (.aload_n 0, 1) := bd42 (btAt dk22kcase_cL_law_0_a 11 rfl)
theorem dL_law_711 : decode cL_law 711 = .ok (.iload_n 3, 1) := bd29 (btAt dk22kcase_cL_law_0_a 12 rfl)
theorem dL_law_712 : decode cL_law 712 = .ok (.iconst 3, 1) := bd6 (btAt dk22kcase_cL_law_0_a 13 rfl)
theorem dL_law_713 : decode cL_law 713 = .ok (.iadd, 1) := bd96 (btAt dk22kcase_cL_law_0_a 14 rfl)
theorem dL_law_714 : decode cL_law 714 = .ok (.iaload, 1) := bd46 (btAt dk22kcase_cL_law_0_a 15 rfl)
theorem dL_law_715 : decode cL_law 715 = .ok (.aload_n 0, 1) := bd42 (btAt dk22kcase_cL_law_0_a 16 rfl)
theorem dL_law_716 : decode cL_law 716 = .ok (.iload_n 3, 1) := bd29 (btAt dk22kcase_cL_law_0_a 17 rfl)
theorem dL_law_717 : decode cL_law 717 = .ok (.iconst 4, 1) := bd7 (btAt dk22kcase_cL_law_0_a 18 rfl)
theorem dL_law_718 : decode cL_law 718 = .ok (.iadd, 1) := bd96 (btAt dk22kcase_cL_law_0_a 19 rfl)
theorem dL_law_719 : decode cL_law 719 = .ok (.iaload, 1) := bd46 (btAt dk22kcase_cL_law_0_a 20 rfl)
theorem dL_law_720 : decode cL_law 720 = .ok (.invokevirtual 90, 3) := bd182 (a := 0) (b := 90) (btAt dk22kcase_cL_law_0_a 21 rfl)
theorem dL_law_723 : decode cL_law 723 = .ok (.pop, 1) := bd87 (btAt dk22kcase_cL_law_0_a 22 rfl)
theorem dL_law_724 : decode cL_law 724 = .ok (.aload_n 2, 1) := bd44 (btAt dk22kcase_cL_law_0_a 23 rfl)
theorem dL_law_725 : decode cL_law 725 = .ok (.aload_n 0, 1) := bd42 (btAt dk22kcase_cL_law_0_a 24 rfl)
theorem dL_law_726 : decode cL_law 726 = .ok (.iload_n 3, 1) := bd29 (btAt dk22kcase_cL_law_0_a 25 rfl)
theorem dL_law_727 : decode cL_law 727 = .ok (.iconst 1, 1) := bd4 (btAt dk22kcase_cL_law_0_a 26 rfl)
theorem dL_law_728 : decode cL_law 728 = .ok (.iadd, 1) := bd96 (btAt dk22kcase_cL_law_0_a 27 rfl)
theorem dL_law_729 : decode cL_law 729 = .ok (.iaload, 1) := bd46 (btAt dk22kcase_cL_law_0_a 28 rfl)
theorem dL_law_730 : decode cL_law 730 = .ok (.aload_n 0, 1) := bd42 (btAt dk22kcase_cL_law_0_a 29 rfl)
theorem dL_law_731 : decode cL_law 731 = .ok (.iload_n 3, 1) := bd29 (btAt dk22kcase_cL_law_0_a 30 rfl)
theorem dL_law_732 : decode cL_law 732 = .ok (.iconst 2, 1) := bd5 (btAt dk22kcase_cL_law_0_a 31 rfl)
theorem dL_law_733 : decode cL_law 733 = .ok (.iadd, 1) := bd96 (btAt dk22kcase_cL_law_0_a 32 rfl)
theorem dL_law_734 : decode cL_law 734 = .ok (.iaload, 1) := bd46 (btAt dk22kcase_cL_law_0_a 33 rfl)
theorem dL_law_735 : decode cL_law 735 = .ok (.aload_n 0, 1) := bd42 (btAt dk22kcase_cL_law_0_a 34 rfl)
theorem dL_law_736 : decode cL_law 736 = .ok (.iload_n 3, 1) := bd29 (btAt dk22kcase_cL_law_0_a 35 rfl)
theorem dL_law_737 : decode cL_law 737 = .ok (.iconst 3, 1) := bd6 (btAt dk22kcase_cL_law_0_a 36 rfl)
theorem dL_law_738 : decode cL_law 738 = .ok (.iadd, 1) := bd96 (btAt dk22kcase_cL_law_0_a 37 rfl)
theorem dL_law_739 : decode cL_law 739 = .ok (.iaload, 1) := bd46 (btAt dk22kcase_cL_law_0_a 38 rfl)
theorem dL_law_740 : decode cL_law 740 = .ok (.aload_n 0, 1) := bd42 (btAt dk22kcase_cL_law_0_a 39 rfl)
noncomputable def dk22kcase_cL_law_40 : List (Nat × List Nat) := [(741, [29]), (742, [7]), (743, [96]), (744, [46]), (745, [182, 0, 94]), (748, [87]), (749, [167, 1, 103])]
set_option maxRecDepth 100000 in
theorem dk22kcase_cL_law_40_a : btA cL_law dk22kcase_cL_law_40 = true := by decide +kernel
theorem dL_law_741 : decode cL_law 741 = .ok (.iload_n 3, 1) := bd29 (btAt dk22kcase_cL_law_40_a 0 rfl)
theorem dL_law_742 : decode cL_law 742 = .ok (.iconst 4, 1) := bd7 (btAt dk22kcase_cL_law_40_a 1 rfl)
theorem dL_law_743 : decode cL_law 743 = .ok (.iadd, 1) := bd96 (btAt dk22kcase_cL_law_40_a 2 rfl)
theorem dL_law_744 : decode cL_law 744 = .ok (.iaload, 1) := bd46 (btAt dk22kcase_cL_law_40_a 3 rfl)
theorem dL_law_745 : decode cL_law 745 = .ok (.invokevirtual 94, 3) := bd182 (a := 0) (b := 94) (btAt dk22kcase_cL_law_40_a 4 rfl)
theorem dL_law_748 : decode cL_law 748 = .ok (.pop, 1) := bd87 (btAt dk22kcase_cL_law_40_a 5 rfl)
theorem dL_law_749 : decode cL_law 749 = .ok (.goto 359, 3) := bd167 (a := 1) (b := 103) (btAt dk22kcase_cL_law_40_a 6 rfl)
set_option maxHeartbeats 4000000 in
set_option maxRecDepth 100000 in
theorem lc_17 {p : Program} {l : Launch} {e : Env} {s : State} {m : MethodId} {below : List Frame} {meth : Method} {c : Code} {b L : Nat} {xs : Nat → Int32} {A : Nat → Prop} (hAe : A = fun q => s.heap.size ≤ q) (C0 : lw_At p s m meth c b L xs) (dC : Nat → ClassId) (dI : Nat → Nat → Nat) (gd : Nat → Nat) (kA : Nat) (ad : Nat → Nat) (cB bS : Nat) (sK sV : Nat → Nat) (Y : Nat → Prop) (h0 m0 : Nat) (ik : Int32) (vs kvs : VS) (tl : List Nat) (im : Int32) (vm kvm : VS) (tm : List Nat) (X : va_W) (T : List (ClassId × FieldType)) (M : va_W) (T2 : List (ClassId × FieldType)) (hGA : GA gd kA ad cB bS sK sV A s) (i : Nat) (hi : i + 5 ≤ L) (hL : L ≤ 320) (H : Heap) (locs : List Loc) (hLS : Lst dC dI ad bS Y s A h0 m0 ik vs kvs tl im vm kvm tm X T M T2 H) (cells slots : Nat) (hc0 : cells ≤ 590000) (hs0 : slots ≤ 7000000) (hS : va_S A s.heap H locs) (ls : Array Slot) (hl : lv_has ls 4 [(0, .ref b), (1, .ref h0), (2, .ref m0), (3, .int (nI i))]) (hcp : ik = im ∧ vs = vm ∧ (im = 0 ∨ kvs = kvm) ∧ tl = tm) (kk : ∀ (ik : Int32) (vs kvs : VS) (tl : List Nat) (im : Int32) (vm kvm : VS) (tm : List Nat) (X : va_W) (T : List (ClassId × FieldType)) (M : va_W) (H : Heap) (locs : List Loc), Lst dC dI ad bS Y s A h0 m0 ik vs kvs tl im vm kvm tm X T M T2 H → (ik = im ∧ vs = vm ∧ (im = 0 ∨ kvs = kvm) ∧ tl = tm) → va_S A s.heap H locs → W p l e room_1 s m #[Value.ref b] below meth c H locs (cells + 8) (slots + 200) (lw_Z below #[Value.ref b] s) (F0 m 1108 ls [])) : W p l e room_1 s m #[Value.ref b] below meth c H locs cells slots (lw_Z below #[Value.ref b] s) (F0 m 699 ls []) := by
  obtain ⟨hx, hb, hr, hml, hown, hts0, hX, hbl, hlocks, hgv⟩ := id C0
  have hown : s.vm.findClass RL = some m.cls := hown
  have hb : c.code = cL_law := hb
  have hts : ∀ w ∈ lw_tbl, w.before #[Value.ref b] s = true := fun w h => hts0 w (wsL_law_in w h)
  have hA : ∀ q : Nat, s.heap.size ≤ q → A q := fun q h => by rw [hAe]; exact h
  have hbA : ¬ A b := by rw [hAe]; exact Nat.not_le.mpr hbl
  refine lv_aload_n hx hb dL_law_699 rfl (lv_at hl 1 rfl) ?_
  refine lv_aload_n hx hb dL_law_700 rfl (lv_at hl 0 rfl) ?_
  refine lv_iload_n hx hb dL_law_701 rfl (lv_at hl 3 rfl) ?_
  refine lv_iconst (v := 1) hx hb dL_law_702 (by decide) ?_
  refine lv_iadd hx hb dL_law_703 ?_
  refine qi_as (y := nI (i + 1)) (nI_add i 1) ?_
  refine va_sld hx hb hX hbl hbA hS (vp_in_nI (n := i + 1) (N := L) (by omega) (by omega)) dL_law_704 ?_
  refine qi_as (y := xs (i + 1)) (by rw [nI_clamp (by omega)]) ?_
  refine lv_aload_n hx hb dL_law_705 rfl (lv_at hl 0 rfl) ?_
  refine lv_iload_n hx hb dL_law_706 rfl (lv_at hl 3 rfl) ?_
  refine lv_iconst (v := 2) hx hb dL_law_707 (by decide) ?_
  refine lv_iadd hx hb dL_law_708 ?_
  refine qi_as (y := nI (i + 2)) (nI_add i 2) ?_
  refine va_sld hx hb hX hbl hbA hS (vp_in_nI (n := i + 2) (N := L) (by omega) (by omega)) dL_law_709 ?_
  refine qi_as (y := xs (i + 2)) (by rw [nI_clamp (by omega)]) ?_
  refine lv_aload_n hx hb dL_law_710 rfl (lv_at hl 0 rfl) ?_
  refine lv_iload_n hx hb dL_law_711 rfl (lv_at hl 3 rfl) ?_
  refine lv_iconst (v := 3) hx hb dL_law_712 (by decide) ?_
  refine lv_iadd hx hb dL_law_713 ?_
  refine qi_as (y := nI (i + 3)) (nI_add i 3) ?_
  refine va_sld hx hb hX hbl hbA hS (vp_in_nI (n := i + 3) (N := L) (by omega) (by omega)) dL_law_714 ?_
  refine qi_as (y := xs (i + 3)) (by rw [nI_clamp (by omega)]) ?_
  refine lv_aload_n hx hb dL_law_715 rfl (lv_at hl 0 rfl) ?_
  refine lv_iload_n hx hb dL_law_716 rfl (lv_at hl 3 rfl) ?_
  refine lv_iconst (v := 4) hx hb dL_law_717 (by decide) ?_
  refine lv_iadd hx hb dL_law_718 ?_
  refine qi_as (y := nI (i + 4)) (nI_add i 4) ?_
  refine va_sld hx hb hX hbl hbA hS (vp_in_nI (n := i + 4) (N := L) (by omega) (by omega)) dL_law_719 ?_
  refine qi_as (y := xs (i + 4)) (by rw [nI_clamp (by omega)]) ?_
  refine lx_i (va_runV (As := [.int (xs (i + 1)), .int (xs (i + 2)), .int (xs (i + 3)), .int (xs (i + 4))]) (rest := []) ⟨hx, hb, hml, hown, hts⟩ (w_best l dC dI gd kA ad cB bS sK sV Y ik vs kvs tl T h0 X (xs (i + 1)) (xs (i + 2)) (xs (i + 3)) (xs (i + 4)) H.size) (cwV 4 hts gL_law_X11_best rfl rfl rfl hd_yX11_best ⟨Nat.le_of_ble_eq_true rfl, Nat.le_of_ble_eq_true rfl⟩) ⟨fun a U g mk q => by obtain ⟨q0, q1, qX, qK, qY1, qY2, qG⟩ := q; exact ⟨q0, mvz g mk a q1, qX, mvK g mk a qK, qY1, qY2, qG.same rfl rfl⟩, hLS.1.recv hLS.2.2.1, fun U hU hW => ⟨rfl, by rw [hU], by rw [hU]; exact hLS.1, va_K.moved hW.alike hLS.2.2.1, hLS.2.2.2.2.2.2.1, fun q hq hy => absurd (hLS.2.2.2.2.2.2.2.2 q hy) (Nat.not_lt.mpr hq), hGA.call hS hU hW (bl_in hLS.2.2.2.2.1 hS hA)⟩⟩ rfl rfl hl.1 rfl (lv_room (Nat.le_of_ble_eq_true rfl)) dL_law_720 ⟨by show _ ≤ 600000; omega, by show _ ≤ 7302250; omega⟩) hLS hS hA (fun r1_ u_ H locs X T hp1 hLS hS => ?_)
  obtain ⟨e1_, rfl⟩ := hp1
  have hLS : Lst dC dI ad bS Y s A h0 m0 ik vs kvs tl im vm kvm tm X T M T2 H := hLS
  refine lv_pop hx hb dL_law_723 rfl ?_
  refine lv_aload_n hx hb dL_law_724 rfl (lv_at hl 2 rfl) ?_
  refine lv_aload_n hx hb dL_law_725 rfl (lv_at hl 0 rfl) ?_
  refine lv_iload_n hx hb dL_law_726 rfl (lv_at hl 3 rfl) ?_
  refine lv_iconst (v := 1) hx hb dL_law_727 (by decide) ?_
  refine lv_iadd hx hb dL_law_728 ?_
  refine qi_as (y := nI (i + 1)) (nI_add i 1) ?_
  refine va_sld hx hb hX hbl hbA hS (vp_in_nI (n := i + 1) (N := L) (by omega) (by omega)) dL_law_729 ?_
  refine qi_as (y := xs (i + 1)) (by rw [nI_clamp (by omega)]) ?_
  refine lv_aload_n hx hb dL_law_730 rfl (lv_at hl 0 rfl) ?_
  refine lv_iload_n hx hb dL_law_731 rfl (lv_at hl 3 rfl) ?_
  refine lv_iconst (v := 2) hx hb dL_law_732 (by decide) ?_
  refine lv_iadd hx hb dL_law_733 ?_
  refine qi_as (y := nI (i + 2)) (nI_add i 2) ?_
  refine va_sld hx hb hX hbl hbA hS (vp_in_nI (n := i + 2) (N := L) (by omega) (by omega)) dL_law_734 ?_
  refine qi_as (y := xs (i + 2)) (by rw [nI_clamp (by omega)]) ?_
  refine lv_aload_n hx hb dL_law_735 rfl (lv_at hl 0 rfl) ?_
  refine lv_iload_n hx hb dL_law_736 rfl (lv_at hl 3 rfl) ?_
  refine lv_iconst (v := 3) hx hb dL_law_737 (by decide) ?_
  refine lv_iadd hx hb dL_law_738 ?_
  refine qi_as (y := nI (i + 3)) (nI_add i 3) ?_
  refine va_sld hx hb hX hbl hbA hS (vp_in_nI (n := i + 3) (N := L) (by omega) (by omega)) dL_law_739 ?_
  refine qi_as (y := xs (i + 3)) (by rw [nI_clamp (by omega)]) ?_
  refine lv_aload_n hx hb dL_law_740 rfl (lv_at hl 0 rfl) ?_
  refine lv_iload_n hx hb dL_law_741 rfl (lv_at hl 3 rfl) ?_
  refine lv_iconst (v := 4) hx hb dL_law_742 (by decide) ?_
  refine lv_iadd hx hb dL_law_743 ?_
  refine qi_as (y := nI (i + 4)) (nI_add i 4) ?_
  refine va_sld hx hb hX hbl hbA hS (vp_in_nI (n := i + 4) (N := L) (by omega) (by omega)) dL_law_744 ?_
  refine qi_as (y := xs (i + 4)) (by rw [nI_clamp (by omega)]) ?_
  refine lm_i (va_runV (As := [.int (xs (i + 1)), .int (xs (i + 2)), .int (xs (i + 3)), .int (xs (i + 4))]) (rest := []) ⟨hx, hb, hml, hown, hts⟩ (v_best l dC dI sK sV im vm kvm tm T2 m0 M (xs (i + 1)) (xs (i + 2)) (xs (i + 3)) (xs (i + 4)) H.size) (cwV 4 hts gL_law_X12_best rfl rfl rfl hd_yX12_best ⟨Nat.le_of_ble_eq_true rfl, Nat.le_of_ble_eq_true rfl⟩) ⟨fun a U g mk q => by obtain ⟨q0, q1, qX, qK, qG⟩ := q; exact ⟨q0, mvz g mk a q1, qX, mvK g mk a qK, qG.same rfl rfl⟩, hLS.2.1.recv hLS.2.2.2.1, fun U hU hW => ⟨rfl, by rw [hU], by rw [hU]; exact hLS.2.1, va_K.moved hW.alike hLS.2.2.2.1, hGA.2.2.2.2.2.2.call hS hU hW (bl_in hLS.2.2.2.2.2.1 hS hA)⟩⟩ rfl rfl hl.1 rfl (lv_room (Nat.le_of_ble_eq_true rfl)) dL_law_745 ⟨by show _ ≤ 600000; omega, by show _ ≤ 7302250; omega⟩) hLS hS hA (fun r2_ u_ H locs M hp2 hLS hS => ?_)
  obtain ⟨e2_, rfl⟩ := hp2
  have hLS : Lst dC dI ad bS Y s A h0 m0 ik vs kvs tl im vm kvm tm X T M T2 H := hLS
  refine lv_pop hx hb dL_law_748 rfl ?_
  refine lv_goto (tgt := 1108) hx hb dL_law_749 (by decide) ?_
  refine W.widen (k := cells + 8) (n := slots + 200) (by omega) (by omega) ?_
  exact kk ik vs kvs tl im vm kvm tm X T M H locs hLS ⟨hcp.1, by rw [hcp.2.1], hcp.2.2⟩ hS
end mg22j
section mg22j
noncomputable def dk22lcase_cL_law_0 : List (Nat × List Nat) := [(752, [43]), (753, [42]), (754, [29]), (755, [4]), (756, [96]), (757, [46]), (758, [42]), (759, [29]), (760, [5]), (761, [96]), (762, [46]), (763, [42]), (764, [29]), (765, [6]), (766, [96]), (767, [46]), (768, [42]), (769, [29]), (770, [7]), (771, [96]), (772, [46]), (773, [182, 0, 95]), (776, [88]), (777, [44]), (778, [42]), (779, [29]), (780, [4]), (781, [96]), (782, [46]), (783, [42]), (784, [29]), (785, [5]), (786, [96]), (787, [46]), (788, [42]), (789, [29]), (790, [6]), (791, [96]), (792, [46]), (793, [42])]
set_option maxRecDepth 100000 in
theorem dk22lcase_cL_law_0_a : btA cL_law dk22lcase_cL_law_0 = true := by decide +kernel
theorem dL_law_752 : decode cL_law 752 = .ok (.aload_n 1, 1) := bd43 (btAt dk22lcase_cL_law_0_a 0 rfl)
theorem dL_law_753 : decode cL_law 753 = .ok (.aload_n 0, 1) := bd42 (btAt dk22lcase_cL_law_0_a 1 rfl)
theorem dL_law_754 : decode cL_law 754 = .ok (.iload_n 3, 1) := bd29 (btAt dk22lcase_cL_law_0_a 2 rfl)
theorem dL_law_755 : decode cL_law 755 = .ok (.iconst 1, 1) := bd4 (btAt dk22lcase_cL_law_0_a 3 rfl)
theorem dL_law_756 : decode cL_law 756 = .ok (.iadd, 1) := bd96 (btAt dk22lcase_cL_law_0_a 4 rfl)
theorem dL_law_757 : decode cL_law 757 = .ok (.iaload, 1) := bd46 (btAt dk22lcase_cL_law_0_a 5 rfl)
theorem dL_law_758 : decode cL_law 758 = .ok (.aload_n 0, 1) := bd42 (btAt dk22lcase_cL_law_0_a 6 rfl)
theorem dL_law_759 : decode cL_law 759 = .ok (.iload_n 3, 1) := bd29 (btAt dk22lcase_cL_law_0_a 7 rfl)
theorem dL_law_760 : decode cL_law 760 = .ok (.iconst 2, 1) := bd5 (btAt dk22lcase_cL_law_0_a 8 rfl)
theorem dL_law_761 : decode cL_law 761 = .ok (.iadd, 1) := bd96 (btAt dk22lcase_cL_law_0_a 9 rfl)
theorem dL_law_762 : decode cL_law 762 = .ok (.iaload, 1) := bd46 (btAt dk22lcase_cL_law_0_a 10 rfl)
theorem dL_law_763 : decode cL_law 763 = .ok (.aload_n 0, 1) := bd42 (btAt dk22lcase_cL_law_0_a 11 rfl)
theorem dL_law_764 : decode cL_law 764 = .ok (.iload_n 3, 1) := bd29 (btAt dk22lcase_cL_law_0_a 12 rfl)
theorem dL_law_765 : decode cL_law 765 = .ok (.iconst 3, 1) := bd6 (btAt dk22lcase_cL_law_0_a 13 rfl)
theorem dL_law_766 : decode cL_law 766 = .ok (.iadd, 1) := bd96 (btAt dk22lcase_cL_law_0_a 14 rfl)
theorem dL_law_767 : decode cL_law 767 = .ok (.iaload, 1) := bd46 (btAt dk22lcase_cL_law_0_a 15 rfl)
theorem dL_law_768 : decode cL_law 768 = .ok (.aload_n 0, 1) := bd42 (btAt dk22lcase_cL_law_0_a 16 rfl)
theorem dL_law_769 : decode cL_law 769 = .ok (.iload_n 3, 1) := bd29 (btAt dk22lcase_cL_law_0_a 17 rfl)
theorem dL_law_770 : decode cL_law 770 = .ok (.iconst 4, 1) := bd7 (btAt dk22lcase_cL_law_0_a 18 rfl)
theorem dL_law_771 : decode cL_law 771 = .ok (.iadd, 1) := bd96 (btAt dk22lcase_cL_law_0_a 19 rfl)
theorem dL_law_772 : decode cL_law 772 = .ok (.iaload, 1) := bd46 (btAt dk22lcase_cL_law_0_a 20 rfl)
theorem dL_law_773 : decode cL_law 773 = .ok (.invokevirtual 95, 3) := bd182 (a := 0) (b := 95) (btAt dk22lcase_cL_law_0_a 21 rfl)
theorem dL_law_776 : decode cL_law 776 = .ok (.pop2, 1) := bd88 (btAt dk22lcase_cL_law_0_a 22 rfl)
theorem dL_law_777 : decode cL_law 777 = .ok (.aload_n 2, 1) := bd44 (btAt dk22lcase_cL_law_0_a 23 rfl)
theorem dL_law_778 : decode cL_law 778 = .ok (.aload_n 0, 1) := bd42 (btAt dk22lcase_cL_law_0_a 24 rfl)
theorem dL_law_779 : decode cL_law 779 = .ok (.iload_n 3, 1) := bd29 (btAt dk22lcase_cL_law_0_a 25 rfl)
theorem dL_law_780 : decode cL_law 780 = .ok (.iconst 1, 1) := bd4 (btAt dk22lcase_cL_law_0_a 26 rfl)
theorem dL_law_781 : decode cL_law 781 = .ok (.iadd, 1) := bd96 (btAt dk22lcase_cL_law_0_a 27 rfl)
theorem dL_law_782 : decode cL_law 782 = .ok (.iaload, 1) := bd46 (btAt dk22lcase_cL_law_0_a 28 rfl)
theorem dL_law_783 : decode cL_law 783 = .ok (.aload_n 0, 1) := bd42 (btAt dk22lcase_cL_law_0_a 29 rfl)
theorem dL_law_784 : decode cL_law 784 = .ok (.iload_n 3, 1) := bd29 (btAt dk22lcase_cL_law_0_a 30 rfl)
theorem dL_law_785 : decode cL_law 785 = .ok (.iconst 2, 1) := bd5 (btAt dk22lcase_cL_law_0_a 31 rfl)
theorem dL_law_786 : decode cL_law 786 = .ok (.iadd, 1) := bd96 (btAt dk22lcase_cL_law_0_a 32 rfl)
theorem dL_law_787 : decode cL_law 787 = .ok (.iaload, 1) := bd46 (btAt dk22lcase_cL_law_0_a 33 rfl)
theorem dL_law_788 : decode cL_law 788 = .ok (.aload_n 0, 1) := bd42 (btAt dk22lcase_cL_law_0_a 34 rfl)
theorem dL_law_789 : decode cL_law 789 = .ok (.iload_n 3, 1) := bd29 (btAt dk22lcase_cL_law_0_a 35 rfl)
theorem dL_law_790 : decode cL_law 790 = .ok (.iconst 3, 1) := bd6 (btAt dk22lcase_cL_law_0_a 36 rfl)
theorem dL_law_791 : decode cL_law 791 = .ok (.iadd, 1) := bd96 (btAt dk22lcase_cL_law_0_a 37 rfl)
theorem dL_law_792 : decode cL_law 792 = .ok (.iaload, 1) := bd46 (btAt dk22lcase_cL_law_0_a 38 rfl)
theorem dL_law_793 : decode cL_law 793 = .ok (.aload_n 0, 1) := bd42 (btAt dk22lcase_cL_law_0_a 39 rfl)
noncomputable def dk22lcase_cL_law_40 : List (Nat × List Nat) := [(794, [29]), (795, [7]), (796, [96]), (797, [46]), (798, [182, 0, 99]), (801, [88]), (802, [167, 1, 50])]
set_option maxRecDepth 100000 in
theorem dk22lcase_cL_law_40_a : btA cL_law dk22lcase_cL_law_40 = true := by decide +kernel
theorem dL_law_794 : decode cL_law 794 = .ok (.iload_n 3, 1) := bd29 (btAt dk22lcase_cL_law_40_a 0 rfl)
theorem dL_law_795 : decode cL_law 795 = .ok (.iconst 4, 1) := bd7 (btAt dk22lcase_cL_law_40_a 1 rfl)
theorem dL_law_796 : decode cL_law 796 = .ok (.iadd, 1) := bd96 (btAt dk22lcase_cL_law_40_a 2 rfl)
theorem dL_law_797 : decode cL_law 797 = .ok (.iaload, 1) := bd46 (btAt dk22lcase_cL_law_40_a 3 rfl)
theorem dL_law_798 : decode cL_law 798 = .ok (.invokevirtual 99, 3) := bd182 (a := 0) (b := 99) (btAt dk22lcase_cL_law_40_a 4 rfl)
theorem dL_law_801 : decode cL_law 801 = .ok (.pop2, 1) := bd88 (btAt dk22lcase_cL_law_40_a 5 rfl)
theorem dL_law_802 : decode cL_law 802 = .ok (.goto 306, 3) := bd167 (a := 1) (b := 50) (btAt dk22lcase_cL_law_40_a 6 rfl)
set_option maxHeartbeats 4000000 in
set_option maxRecDepth 100000 in
theorem lc_18 {p : Program} {l : Launch} {e : Env} {s : State} {m : MethodId} {below : List Frame} {meth : Method} {c : Code} {b L : Nat} {xs : Nat → Int32} {A : Nat → Prop} (hAe : A = fun q => s.heap.size ≤ q) (C0 : lw_At p s m meth c b L xs) (dC : Nat → ClassId) (dI : Nat → Nat → Nat) (gd : Nat → Nat) (kA : Nat) (ad : Nat → Nat) (cB bS : Nat) (sK sV : Nat → Nat) (Y : Nat → Prop) (h0 m0 : Nat) (ik : Int32) (vs kvs : VS) (tl : List Nat) (im : Int32) (vm kvm : VS) (tm : List Nat) (X : va_W) (T : List (ClassId × FieldType)) (M : va_W) (T2 : List (ClassId × FieldType)) (hGA : GA gd kA ad cB bS sK sV A s) (i : Nat) (hi : i + 5 ≤ L) (hL : L ≤ 320) (H : Heap) (locs : List Loc) (hLS : Lst dC dI ad bS Y s A h0 m0 ik vs kvs tl im vm kvm tm X T M T2 H) (cells slots : Nat) (hc0 : cells ≤ 590000) (hs0 : slots ≤ 7000000) (hS : va_S A s.heap H locs) (ls : Array Slot) (hl : lv_has ls 4 [(0, .ref b), (1, .ref h0), (2, .ref m0), (3, .int (nI i))]) (hcp : ik = im ∧ vs = vm ∧ (im = 0 ∨ kvs = kvm) ∧ tl = tm) (kk : ∀ (ik : Int32) (vs kvs : VS) (tl : List Nat) (im : Int32) (vm kvm : VS) (tm : List Nat) (X : va_W) (T : List (ClassId × FieldType)) (M : va_W) (H : Heap) (locs : List Loc), Lst dC dI ad bS Y s A h0 m0 ik vs kvs tl im vm kvm tm X T M T2 H → (ik = im ∧ vs = vm ∧ (im = 0 ∨ kvs = kvm) ∧ tl = tm) → va_S A s.heap H locs → W p l e room_1 s m #[Value.ref b] below meth c H locs (cells + 8) (slots + 200) (lw_Z below #[Value.ref b] s) (F0 m 1108 ls [])) : W p l e room_1 s m #[Value.ref b] below meth c H locs cells slots (lw_Z below #[Value.ref b] s) (F0 m 752 ls []) := by
  obtain ⟨hx, hb, hr, hml, hown, hts0, hX, hbl, hlocks, hgv⟩ := id C0
  have hown : s.vm.findClass RL = some m.cls := hown
  have hb : c.code = cL_law := hb
  have hts : ∀ w ∈ lw_tbl, w.before #[Value.ref b] s = true := fun w h => hts0 w (wsL_law_in w h)
  have hA : ∀ q : Nat, s.heap.size ≤ q → A q := fun q h => by rw [hAe]; exact h
  have hbA : ¬ A b := by rw [hAe]; exact Nat.not_le.mpr hbl
  refine lv_aload_n hx hb dL_law_752 rfl (lv_at hl 1 rfl) ?_
  refine lv_aload_n hx hb dL_law_753 rfl (lv_at hl 0 rfl) ?_
  refine lv_iload_n hx hb dL_law_754 rfl (lv_at hl 3 rfl) ?_
  refine lv_iconst (v := 1) hx hb dL_law_755 (by decide) ?_
  refine lv_iadd hx hb dL_law_756 ?_
  refine qi_as (y := nI (i + 1)) (nI_add i 1) ?_
  refine va_sld hx hb hX hbl hbA hS (vp_in_nI (n := i + 1) (N := L) (by omega) (by omega)) dL_law_757 ?_
  refine qi_as (y := xs (i + 1)) (by rw [nI_clamp (by omega)]) ?_
  refine lv_aload_n hx hb dL_law_758 rfl (lv_at hl 0 rfl) ?_
  refine lv_iload_n hx hb dL_law_759 rfl (lv_at hl 3 rfl) ?_
  refine lv_iconst (v := 2) hx hb dL_law_760 (by decide) ?_
  refine lv_iadd hx hb dL_law_761 ?_
  refine qi_as (y := nI (i + 2)) (nI_add i 2) ?_
  refine va_sld hx hb hX hbl hbA hS (vp_in_nI (n := i + 2) (N := L) (by omega) (by omega)) dL_law_762 ?_
  refine qi_as (y := xs (i + 2)) (by rw [nI_clamp (by omega)]) ?_
  refine lv_aload_n hx hb dL_law_763 rfl (lv_at hl 0 rfl) ?_
  refine lv_iload_n hx hb dL_law_764 rfl (lv_at hl 3 rfl) ?_
  refine lv_iconst (v := 3) hx hb dL_law_765 (by decide) ?_
  refine lv_iadd hx hb dL_law_766 ?_
  refine qi_as (y := nI (i + 3)) (nI_add i 3) ?_
  refine va_sld hx hb hX hbl hbA hS (vp_in_nI (n := i + 3) (N := L) (by omega) (by omega)) dL_law_767 ?_
  refine qi_as (y := xs (i + 3)) (by rw [nI_clamp (by omega)]) ?_
  refine lv_aload_n hx hb dL_law_768 rfl (lv_at hl 0 rfl) ?_
  refine lv_iload_n hx hb dL_law_769 rfl (lv_at hl 3 rfl) ?_
  refine lv_iconst (v := 4) hx hb dL_law_770 (by decide) ?_
  refine lv_iadd hx hb dL_law_771 ?_
  refine qi_as (y := nI (i + 4)) (nI_add i 4) ?_
  refine va_sld hx hb hX hbl hbA hS (vp_in_nI (n := i + 4) (N := L) (by omega) (by omega)) dL_law_772 ?_
  refine qi_as (y := xs (i + 4)) (by rw [nI_clamp (by omega)]) ?_
  refine lx_l (va_runV (As := [.int (xs (i + 1)), .int (xs (i + 2)), .int (xs (i + 3)), .int (xs (i + 4))]) (rest := []) ⟨hx, hb, hml, hown, hts⟩ (w_bestOdds l dC dI gd kA ad cB bS sK sV Y ik vs kvs tl T h0 X (xs (i + 1)) (xs (i + 2)) (xs (i + 3)) (xs (i + 4)) H.size) (cwV 4 hts gL_law_X11_bestOdds rfl rfl rfl hd_yX11_bestOdds ⟨Nat.le_of_ble_eq_true rfl, Nat.le_of_ble_eq_true rfl⟩) ⟨fun a U g mk q => by obtain ⟨q0, q1, qX, qK, qY1, qY2, qG⟩ := q; exact ⟨q0, mvz g mk a q1, qX, mvK g mk a qK, qY1, qY2, qG.same rfl rfl⟩, hLS.1.recv hLS.2.2.1, fun U hU hW => ⟨rfl, by rw [hU], by rw [hU]; exact hLS.1, va_K.moved hW.alike hLS.2.2.1, hLS.2.2.2.2.2.2.1, fun q hq hy => absurd (hLS.2.2.2.2.2.2.2.2 q hy) (Nat.not_lt.mpr hq), hGA.call hS hU hW (bl_in hLS.2.2.2.2.1 hS hA)⟩⟩ rfl rfl hl.1 rfl (lv_room (Nat.le_of_ble_eq_true rfl)) dL_law_773 ⟨by show _ ≤ 600000; omega, by show _ ≤ 7302250; omega⟩) hLS hS hA (fun r1_ u_ H locs X T hp1 hLS hS => ?_)
  obtain ⟨e1_, rfl⟩ := hp1
  have hLS : Lst dC dI ad bS Y s A h0 m0 ik vs kvs tl im vm kvm tm X T M T2 H := hLS
  refine lv_pop2_2 hx hb dL_law_776 rfl ?_
  refine lv_aload_n hx hb dL_law_777 rfl (lv_at hl 2 rfl) ?_
  refine lv_aload_n hx hb dL_law_778 rfl (lv_at hl 0 rfl) ?_
  refine lv_iload_n hx hb dL_law_779 rfl (lv_at hl 3 rfl) ?_
  refine lv_iconst (v := 1) hx hb dL_law_780 (by decide) ?_
  refine lv_iadd hx hb dL_law_781 ?_
  refine qi_as (y := nI (i + 1)) (nI_add i 1) ?_
  refine va_sld hx hb hX hbl hbA hS (vp_in_nI (n := i + 1) (N := L) (by omega) (by omega)) dL_law_782 ?_
  refine qi_as (y := xs (i + 1)) (by rw [nI_clamp (by omega)]) ?_
  refine lv_aload_n hx hb dL_law_783 rfl (lv_at hl 0 rfl) ?_
  refine lv_iload_n hx hb dL_law_784 rfl (lv_at hl 3 rfl) ?_
  refine lv_iconst (v := 2) hx hb dL_law_785 (by decide) ?_
  refine lv_iadd hx hb dL_law_786 ?_
  refine qi_as (y := nI (i + 2)) (nI_add i 2) ?_
  refine va_sld hx hb hX hbl hbA hS (vp_in_nI (n := i + 2) (N := L) (by omega) (by omega)) dL_law_787 ?_
  refine qi_as (y := xs (i + 2)) (by rw [nI_clamp (by omega)]) ?_
  refine lv_aload_n hx hb dL_law_788 rfl (lv_at hl 0 rfl) ?_
  refine lv_iload_n hx hb dL_law_789 rfl (lv_at hl 3 rfl) ?_
  refine lv_iconst (v := 3) hx hb dL_law_790 (by decide) ?_
  refine lv_iadd hx hb dL_law_791 ?_
  refine qi_as (y := nI (i + 3)) (nI_add i 3) ?_
  refine va_sld hx hb hX hbl hbA hS (vp_in_nI (n := i + 3) (N := L) (by omega) (by omega)) dL_law_792 ?_
  refine qi_as (y := xs (i + 3)) (by rw [nI_clamp (by omega)]) ?_
  refine lv_aload_n hx hb dL_law_793 rfl (lv_at hl 0 rfl) ?_
  refine lv_iload_n hx hb dL_law_794 rfl (lv_at hl 3 rfl) ?_
  refine lv_iconst (v := 4) hx hb dL_law_795 (by decide) ?_
  refine lv_iadd hx hb dL_law_796 ?_
  refine qi_as (y := nI (i + 4)) (nI_add i 4) ?_
  refine va_sld hx hb hX hbl hbA hS (vp_in_nI (n := i + 4) (N := L) (by omega) (by omega)) dL_law_797 ?_
  refine qi_as (y := xs (i + 4)) (by rw [nI_clamp (by omega)]) ?_
  refine lm_l (va_runV (As := [.int (xs (i + 1)), .int (xs (i + 2)), .int (xs (i + 3)), .int (xs (i + 4))]) (rest := []) ⟨hx, hb, hml, hown, hts⟩ (v_bestOdds l dC dI sK sV im vm kvm tm T2 m0 M (xs (i + 1)) (xs (i + 2)) (xs (i + 3)) (xs (i + 4)) H.size) (cwV 4 hts gL_law_X12_bestOdds rfl rfl rfl hd_yX12_bestOdds ⟨Nat.le_of_ble_eq_true rfl, Nat.le_of_ble_eq_true rfl⟩) ⟨fun a U g mk q => by obtain ⟨q0, q1, qX, qK, qG⟩ := q; exact ⟨q0, mvz g mk a q1, qX, mvK g mk a qK, qG.same rfl rfl⟩, hLS.2.1.recv hLS.2.2.2.1, fun U hU hW => ⟨rfl, by rw [hU], by rw [hU]; exact hLS.2.1, va_K.moved hW.alike hLS.2.2.2.1, hGA.2.2.2.2.2.2.call hS hU hW (bl_in hLS.2.2.2.2.2.1 hS hA)⟩⟩ rfl rfl hl.1 rfl (lv_room (Nat.le_of_ble_eq_true rfl)) dL_law_798 ⟨by show _ ≤ 600000; omega, by show _ ≤ 7302250; omega⟩) hLS hS hA (fun r2_ u_ H locs M hp2 hLS hS => ?_)
  obtain ⟨e2_, rfl⟩ := hp2
  have hLS : Lst dC dI ad bS Y s A h0 m0 ik vs kvs tl im vm kvm tm X T M T2 H := hLS
  refine lv_pop2_2 hx hb dL_law_801 rfl ?_
  refine lv_goto (tgt := 1108) hx hb dL_law_802 (by decide) ?_
  refine W.widen (k := cells + 8) (n := slots + 200) (by omega) (by omega) ?_
  exact kk ik vs kvs tl im vm kvm tm X T M H locs hLS ⟨hcp.1, by rw [hcp.2.1], hcp.2.2⟩ hS
end mg22j
section mg22j
noncomputable def dk22mcase_cL_law_0 : List (Nat × List Nat) := [(805, [43]), (806, [42]), (807, [29]), (808, [4]), (809, [96]), (810, [46]), (811, [42]), (812, [29]), (813, [5]), (814, [96]), (815, [46]), (816, [42]), (817, [29]), (818, [6]), (819, [96]), (820, [46]), (821, [182, 0, 100]), (824, [44]), (825, [42]), (826, [29]), (827, [4]), (828, [96]), (829, [46]), (830, [42]), (831, [29]), (832, [5]), (833, [96]), (834, [46]), (835, [42]), (836, [29]), (837, [6]), (838, [96]), (839, [46]), (840, [182, 0, 103]), (843, [159, 1, 9]), (848, [43]), (849, [42]), (850, [29]), (851, [4]), (852, [96])]
set_option maxRecDepth 100000 in
theorem dk22mcase_cL_law_0_a : btA cL_law dk22mcase_cL_law_0 = true := by decide +kernel
theorem dL_law_805 : decode cL_law 805 = .ok (.aload_n 1, 1) := bd43 (btAt dk22mcase_cL_law_0_a 0 rfl)
theorem dL_law_806 : decode cL_law 806 = .ok (.aload_n 0, 1) := bd42 (btAt dk22mcase_cL_law_0_a 1 rfl)
theorem dL_law_807 : decode cL_law 807 = .ok (.iload_n 3, 1) := bd29 (btAt dk22mcase_cL_law_0_a 2 rfl)
theorem dL_law_808 : decode cL_law 808 = .ok (.iconst 1, 1) := bd4 (btAt dk22mcase_cL_law_0_a 3 rfl)
theorem dL_law_809 : decode cL_law 809 = .ok (.iadd, 1) := bd96 (btAt dk22mcase_cL_law_0_a 4 rfl)
theorem dL_law_810 : decode cL_law 810 = .ok (.iaload, 1) := bd46 (btAt dk22mcase_cL_law_0_a 5 rfl)
theorem dL_law_811 : decode cL_law 811 = .ok (.aload_n 0, 1) := bd42 (btAt dk22mcase_cL_law_0_a 6 rfl)
theorem dL_law_812 : decode cL_law 812 = .ok (.iload_n 3, 1) := bd29 (btAt dk22mcase_cL_law_0_a 7 rfl)
theorem dL_law_813 : decode cL_law 813 = .ok (.iconst 2, 1) := bd5 (btAt dk22mcase_cL_law_0_a 8 rfl)
theorem dL_law_814 : decode cL_law 814 = .ok (.iadd, 1) := bd96 (btAt dk22mcase_cL_law_0_a 9 rfl)
theorem dL_law_815 : decode cL_law 815 = .ok (.iaload, 1) := bd46 (btAt dk22mcase_cL_law_0_a 10 rfl)
theorem dL_law_816 : decode cL_law 816 = .ok (.aload_n 0, 1) := bd42 (btAt dk22mcase_cL_law_0_a 11 rfl)
theorem dL_law_817 : decode cL_law 817 = .ok (.iload_n 3, 1) := bd29 (btAt dk22mcase_cL_law_0_a 12 rfl)
theorem dL_law_818 : decode cL_law 818 = .ok (.iconst 3, 1) := bd6 (btAt dk22mcase_cL_law_0_a 13 rfl)
theorem dL_law_819 : decode cL_law 819 = .ok (.iadd, 1) := bd96 (btAt dk22mcase_cL_law_0_a 14 rfl)
theorem dL_law_820 : decode cL_law 820 = .ok (.iaload, 1) := bd46 (btAt dk22mcase_cL_law_0_a 15 rfl)
theorem dL_law_821 : decode cL_law 821 = .ok (.invokevirtual 100, 3) := bd182 (a := 0) (b := 100) (btAt dk22mcase_cL_law_0_a 16 rfl)
theorem dL_law_824 : decode cL_law 824 = .ok (.aload_n 2, 1) := bd44 (btAt dk22mcase_cL_law_0_a 17 rfl)
theorem dL_law_825 : decode cL_law 825 = .ok (.aload_n 0, 1) := bd42 (btAt dk22mcase_cL_law_0_a 18 rfl)
theorem dL_law_826 : decode cL_law 826 = .ok (.iload_n 3, 1) := bd29 (btAt dk22mcase_cL_law_0_a 19 rfl)
theorem dL_law_827 : decode cL_law 827 = .ok (.iconst 1, 1) := bd4 (btAt dk22mcase_cL_law_0_a 20 rfl)
theorem dL_law_828 : decode cL_law 828 = .ok (.iadd, 1) := bd96 (btAt dk22mcase_cL_law_0_a 21 rfl)
theorem dL_law_829 : decode cL_law 829 = .ok (.iaload, 1) := bd46 (btAt dk22mcase_cL_law_0_a 22 rfl)
theorem dL_law_830 : decode cL_law 830 = .ok (.aload_n 0, 1) := bd42 (btAt dk22mcase_cL_law_0_a 23 rfl)
theorem dL_law_831 : decode cL_law 831 = .ok (.iload_n 3, 1) := bd29 (btAt dk22mcase_cL_law_0_a 24 rfl)
theorem dL_law_832 : decode cL_law 832 = .ok (.iconst 2, 1) := bd5 (btAt dk22mcase_cL_law_0_a 25 rfl)
theorem dL_law_833 : decode cL_law 833 = .ok (.iadd, 1) := bd96 (btAt dk22mcase_cL_law_0_a 26 rfl)
theorem dL_law_834 : decode cL_law 834 = .ok (.iaload, 1) := bd46 (btAt dk22mcase_cL_law_0_a 27 rfl)
theorem dL_law_835 : decode cL_law 835 = .ok (.aload_n 0, 1) := bd42 (btAt dk22mcase_cL_law_0_a 28 rfl)
theorem dL_law_836 : decode cL_law 836 = .ok (.iload_n 3, 1) := bd29 (btAt dk22mcase_cL_law_0_a 29 rfl)
theorem dL_law_837 : decode cL_law 837 = .ok (.iconst 3, 1) := bd6 (btAt dk22mcase_cL_law_0_a 30 rfl)
theorem dL_law_838 : decode cL_law 838 = .ok (.iadd, 1) := bd96 (btAt dk22mcase_cL_law_0_a 31 rfl)
theorem dL_law_839 : decode cL_law 839 = .ok (.iaload, 1) := bd46 (btAt dk22mcase_cL_law_0_a 32 rfl)
theorem dL_law_840 : decode cL_law 840 = .ok (.invokevirtual 103, 3) := bd182 (a := 0) (b := 103) (btAt dk22mcase_cL_law_0_a 33 rfl)
theorem dL_law_843 : decode cL_law 843 = .ok (.if_icmp .eq 265, 3) := bd159 (a := 1) (b := 9) (btAt dk22mcase_cL_law_0_a 34 rfl)
theorem dL_law_848 : decode cL_law 848 = .ok (.aload_n 1, 1) := bd43 (btAt dk22mcase_cL_law_0_a 35 rfl)
theorem dL_law_849 : decode cL_law 849 = .ok (.aload_n 0, 1) := bd42 (btAt dk22mcase_cL_law_0_a 36 rfl)
theorem dL_law_850 : decode cL_law 850 = .ok (.iload_n 3, 1) := bd29 (btAt dk22mcase_cL_law_0_a 37 rfl)
theorem dL_law_851 : decode cL_law 851 = .ok (.iconst 1, 1) := bd4 (btAt dk22mcase_cL_law_0_a 38 rfl)
theorem dL_law_852 : decode cL_law 852 = .ok (.iadd, 1) := bd96 (btAt dk22mcase_cL_law_0_a 39 rfl)
noncomputable def dk22mcase_cL_law_40 : List (Nat × List Nat) := [(853, [46]), (854, [42]), (855, [29]), (856, [5]), (857, [96]), (858, [46]), (859, [182, 0, 104]), (862, [87]), (863, [44]), (864, [42]), (865, [29]), (866, [4]), (867, [96]), (868, [46]), (869, [42]), (870, [29]), (871, [5]), (872, [96]), (873, [46]), (874, [182, 0, 107]), (877, [87]), (878, [167, 0, 230])]
set_option maxRecDepth 100000 in
theorem dk22mcase_cL_law_40_a : btA cL_law dk22mcase_cL_law_40 = true := by decide +kernel
theorem dL_law_853 : decode cL_law 853 = .ok (.iaload, 1) := bd46 (btAt dk22mcase_cL_law_40_a 0 rfl)
theorem dL_law_854 : decode cL_law 854 = .ok (.aload_n 0, 1) := bd42 (btAt dk22mcase_cL_law_40_a 1 rfl)
theorem dL_law_855 : decode cL_law 855 = .ok (.iload_n 3, 1) := bd29 (btAt dk22mcase_cL_law_40_a 2 rfl)
theorem dL_law_856 : decode cL_law 856 = .ok (.iconst 2, 1) := bd5 (btAt dk22mcase_cL_law_40_a 3 rfl)
theorem dL_law_857 : decode cL_law 857 = .ok (.iadd, 1) := bd96 (btAt dk22mcase_cL_law_40_a 4 rfl)
theorem dL_law_858 : decode cL_law 858 = .ok (.iaload, 1) := bd46 (btAt dk22mcase_cL_law_40_a 5 rfl)
theorem dL_law_859 : decode cL_law 859 = .ok (.invokevirtual 104, 3) := bd182 (a := 0) (b := 104) (btAt dk22mcase_cL_law_40_a 6 rfl)
theorem dL_law_862 : decode cL_law 862 = .ok (.pop, 1) := bd87 (btAt dk22mcase_cL_law_40_a 7 rfl)
theorem dL_law_863 : decode cL_law 863 = .ok (.aload_n 2, 1) := bd44 (btAt dk22mcase_cL_law_40_a 8 rfl)
theorem dL_law_864 : decode cL_law 864 = .ok (.aload_n 0, 1) := bd42 (btAt dk22mcase_cL_law_40_a 9 rfl)
theorem dL_law_865 : decode cL_law 865 = .ok (.iload_n 3, 1) := bd29 (btAt dk22mcase_cL_law_40_a 10 rfl)
theorem dL_law_866 : decode cL_law 866 = .ok (.iconst 1, 1) := bd4 (btAt dk22mcase_cL_law_40_a 11 rfl)
theorem dL_law_867 : decode cL_law 867 = .ok (.iadd, 1) := bd96 (btAt dk22mcase_cL_law_40_a 12 rfl)
theorem dL_law_868 : decode cL_law 868 = .ok (.iaload, 1) := bd46 (btAt dk22mcase_cL_law_40_a 13 rfl)
theorem dL_law_869 : decode cL_law 869 = .ok (.aload_n 0, 1) := bd42 (btAt dk22mcase_cL_law_40_a 14 rfl)
theorem dL_law_870 : decode cL_law 870 = .ok (.iload_n 3, 1) := bd29 (btAt dk22mcase_cL_law_40_a 15 rfl)
theorem dL_law_871 : decode cL_law 871 = .ok (.iconst 2, 1) := bd5 (btAt dk22mcase_cL_law_40_a 16 rfl)
theorem dL_law_872 : decode cL_law 872 = .ok (.iadd, 1) := bd96 (btAt dk22mcase_cL_law_40_a 17 rfl)
theorem dL_law_873 : decode cL_law 873 = .ok (.iaload, 1) := bd46 (btAt dk22mcase_cL_law_40_a 18 rfl)
theorem dL_law_874 : decode cL_law 874 = .ok (.invokevirtual 107, 3) := bd182 (a := 0) (b := 107) (btAt dk22mcase_cL_law_40_a 19 rfl)
theorem dL_law_877 : decode cL_law 877 = .ok (.pop, 1) := bd87 (btAt dk22mcase_cL_law_40_a 20 rfl)
theorem dL_law_878 : decode cL_law 878 = .ok (.goto 230, 3) := bd167 (a := 0) (b := 230) (btAt dk22mcase_cL_law_40_a 21 rfl)
set_option maxHeartbeats 4000000 in
set_option maxRecDepth 100000 in
theorem lc_19 {p : Program} {l : Launch} {e : Env} {s : State} {m : MethodId} {below : List Frame} {meth : Method} {c : Code} {b L : Nat} {xs : Nat → Int32} {A : Nat → Prop} (hAe : A = fun q => s.heap.size ≤ q) (C0 : lw_At p s m meth c b L xs) (dC : Nat → ClassId) (dI : Nat → Nat → Nat) (gd : Nat → Nat) (kA : Nat) (ad : Nat → Nat) (cB bS : Nat) (sK sV : Nat → Nat) (Y : Nat → Prop) (h0 m0 : Nat) (ik : Int32) (vs kvs : VS) (tl : List Nat) (im : Int32) (vm kvm : VS) (tm : List Nat) (X : va_W) (T : List (ClassId × FieldType)) (M : va_W) (T2 : List (ClassId × FieldType)) (hGA : GA gd kA ad cB bS sK sV A s) (i : Nat) (hi : i + 5 ≤ L) (hL : L ≤ 320) (H : Heap) (locs : List Loc) (hLS : Lst dC dI ad bS Y s A h0 m0 ik vs kvs tl im vm kvm tm X T M T2 H) (cells slots : Nat) (hc0 : cells ≤ 590000) (hs0 : slots ≤ 7000000) (hS : va_S A s.heap H locs) (ls : Array Slot) (hl : lv_has ls 4 [(0, .ref b), (1, .ref h0), (2, .ref m0), (3, .int (nI i))]) (hcp : ik = im ∧ vs = vm ∧ (im = 0 ∨ kvs = kvm) ∧ tl = tm) (kk : ∀ (ik : Int32) (vs kvs : VS) (tl : List Nat) (im : Int32) (vm kvm : VS) (tm : List Nat) (X : va_W) (T : List (ClassId × FieldType)) (M : va_W) (H : Heap) (locs : List Loc), Lst dC dI ad bS Y s A h0 m0 ik vs kvs tl im vm kvm tm X T M T2 H → (ik = im ∧ vs = vm ∧ (im = 0 ∨ kvs = kvm) ∧ tl = tm) → va_S A s.heap H locs → W p l e room_1 s m #[Value.ref b] below meth c H locs (cells + 8) (slots + 200) (lw_Z below #[Value.ref b] s) (F0 m 1108 ls [])) : W p l e room_1 s m #[Value.ref b] below meth c H locs cells slots (lw_Z below #[Value.ref b] s) (F0 m 805 ls []) := by
  obtain ⟨hx, hb, hr, hml, hown, hts0, hX, hbl, hlocks, hgv⟩ := id C0
  have hown : s.vm.findClass RL = some m.cls := hown
  have hb : c.code = cL_law := hb
  have hts : ∀ w ∈ lw_tbl, w.before #[Value.ref b] s = true := fun w h => hts0 w (wsL_law_in w h)
  have hA : ∀ q : Nat, s.heap.size ≤ q → A q := fun q h => by rw [hAe]; exact h
  have hbA : ¬ A b := by rw [hAe]; exact Nat.not_le.mpr hbl
  refine lv_aload_n hx hb dL_law_805 rfl (lv_at hl 1 rfl) ?_
  refine lv_aload_n hx hb dL_law_806 rfl (lv_at hl 0 rfl) ?_
  refine lv_iload_n hx hb dL_law_807 rfl (lv_at hl 3 rfl) ?_
  refine lv_iconst (v := 1) hx hb dL_law_808 (by decide) ?_
  refine lv_iadd hx hb dL_law_809 ?_
  refine qi_as (y := nI (i + 1)) (nI_add i 1) ?_
  refine va_sld hx hb hX hbl hbA hS (vp_in_nI (n := i + 1) (N := L) (by omega) (by omega)) dL_law_810 ?_
  refine qi_as (y := xs (i + 1)) (by rw [nI_clamp (by omega)]) ?_
  refine lv_aload_n hx hb dL_law_811 rfl (lv_at hl 0 rfl) ?_
  refine lv_iload_n hx hb dL_law_812 rfl (lv_at hl 3 rfl) ?_
  refine lv_iconst (v := 2) hx hb dL_law_813 (by decide) ?_
  refine lv_iadd hx hb dL_law_814 ?_
  refine qi_as (y := nI (i + 2)) (nI_add i 2) ?_
  refine va_sld hx hb hX hbl hbA hS (vp_in_nI (n := i + 2) (N := L) (by omega) (by omega)) dL_law_815 ?_
  refine qi_as (y := xs (i + 2)) (by rw [nI_clamp (by omega)]) ?_
  refine lv_aload_n hx hb dL_law_816 rfl (lv_at hl 0 rfl) ?_
  refine lv_iload_n hx hb dL_law_817 rfl (lv_at hl 3 rfl) ?_
  refine lv_iconst (v := 3) hx hb dL_law_818 (by decide) ?_
  refine lv_iadd hx hb dL_law_819 ?_
  refine qi_as (y := nI (i + 3)) (nI_add i 3) ?_
  refine va_sld hx hb hX hbl hbA hS (vp_in_nI (n := i + 3) (N := L) (by omega) (by omega)) dL_law_820 ?_
  refine qi_as (y := xs (i + 3)) (by rw [nI_clamp (by omega)]) ?_
  refine lx_i (va_runV (As := [.int (xs (i + 1)), .int (xs (i + 2)), .int (xs (i + 3))]) (rest := []) ⟨hx, hb, hml, hown, hts⟩ (w_safe l dC dI gd kA ad cB bS sK sV Y ik vs kvs tl T h0 X (xs (i + 1)) (xs (i + 2)) (xs (i + 3)) H.size) (cwV 3 hts gL_law_X11_safe rfl rfl rfl hd_yX11_safe ⟨Nat.le_of_ble_eq_true rfl, Nat.le_of_ble_eq_true rfl⟩) ⟨fun a U g mk q => by obtain ⟨q0, q1, qX, qK, qY1, qY2, qG⟩ := q; exact ⟨q0, mvz g mk a q1, qX, mvK g mk a qK, qY1, qY2, qG.same rfl rfl⟩, hLS.1.recv hLS.2.2.1, fun U hU hW => ⟨rfl, by rw [hU], by rw [hU]; exact hLS.1, va_K.moved hW.alike hLS.2.2.1, hLS.2.2.2.2.2.2.1, fun q hq hy => absurd (hLS.2.2.2.2.2.2.2.2 q hy) (Nat.not_lt.mpr hq), hGA.call hS hU hW (bl_in hLS.2.2.2.2.1 hS hA)⟩⟩ rfl rfl hl.1 rfl (lv_room (Nat.le_of_ble_eq_true rfl)) dL_law_821 ⟨by show _ ≤ 600000; omega, by show _ ≤ 7302250; omega⟩) hLS hS hA (fun r1_ u_ H locs X T hp1 hLS hS => ?_)
  obtain ⟨e1_, rfl⟩ := hp1
  have hLS : Lst dC dI ad bS Y s A h0 m0 ik vs kvs tl im vm kvm tm X T M T2 H := hLS
  refine lv_aload_n hx hb dL_law_824 rfl (lv_at hl 2 rfl) ?_
  refine lv_aload_n hx hb dL_law_825 rfl (lv_at hl 0 rfl) ?_
  refine lv_iload_n hx hb dL_law_826 rfl (lv_at hl 3 rfl) ?_
  refine lv_iconst (v := 1) hx hb dL_law_827 (by decide) ?_
  refine lv_iadd hx hb dL_law_828 ?_
  refine qi_as (y := nI (i + 1)) (nI_add i 1) ?_
  refine va_sld hx hb hX hbl hbA hS (vp_in_nI (n := i + 1) (N := L) (by omega) (by omega)) dL_law_829 ?_
  refine qi_as (y := xs (i + 1)) (by rw [nI_clamp (by omega)]) ?_
  refine lv_aload_n hx hb dL_law_830 rfl (lv_at hl 0 rfl) ?_
  refine lv_iload_n hx hb dL_law_831 rfl (lv_at hl 3 rfl) ?_
  refine lv_iconst (v := 2) hx hb dL_law_832 (by decide) ?_
  refine lv_iadd hx hb dL_law_833 ?_
  refine qi_as (y := nI (i + 2)) (nI_add i 2) ?_
  refine va_sld hx hb hX hbl hbA hS (vp_in_nI (n := i + 2) (N := L) (by omega) (by omega)) dL_law_834 ?_
  refine qi_as (y := xs (i + 2)) (by rw [nI_clamp (by omega)]) ?_
  refine lv_aload_n hx hb dL_law_835 rfl (lv_at hl 0 rfl) ?_
  refine lv_iload_n hx hb dL_law_836 rfl (lv_at hl 3 rfl) ?_
  refine lv_iconst (v := 3) hx hb dL_law_837 (by decide) ?_
  refine lv_iadd hx hb dL_law_838 ?_
  refine qi_as (y := nI (i + 3)) (nI_add i 3) ?_
  refine va_sld hx hb hX hbl hbA hS (vp_in_nI (n := i + 3) (N := L) (by omega) (by omega)) dL_law_839 ?_
  refine qi_as (y := xs (i + 3)) (by rw [nI_clamp (by omega)]) ?_
  refine lm_i (va_runV (As := [.int (xs (i + 1)), .int (xs (i + 2)), .int (xs (i + 3))]) (rest := [.int r1_]) ⟨hx, hb, hml, hown, hts⟩ (v_safe l dC dI sK sV im vm kvm tm T2 m0 M (xs (i + 1)) (xs (i + 2)) (xs (i + 3)) H.size) (cwV 3 hts gL_law_X12_safe rfl rfl rfl hd_yX12_safe ⟨Nat.le_of_ble_eq_true rfl, Nat.le_of_ble_eq_true rfl⟩) ⟨fun a U g mk q => by obtain ⟨q0, q1, qX, qK, qG⟩ := q; exact ⟨q0, mvz g mk a q1, qX, mvK g mk a qK, qG.same rfl rfl⟩, hLS.2.1.recv hLS.2.2.2.1, fun U hU hW => ⟨rfl, by rw [hU], by rw [hU]; exact hLS.2.1, va_K.moved hW.alike hLS.2.2.2.1, hGA.2.2.2.2.2.2.call hS hU hW (bl_in hLS.2.2.2.2.2.1 hS hA)⟩⟩ rfl rfl hl.1 rfl (lv_room (Nat.le_of_ble_eq_true rfl)) dL_law_840 ⟨by show _ ≤ 600000; omega, by show _ ≤ 7302250; omega⟩) hLS hS hA (fun r2_ u_ H locs M hp2 hLS hS => ?_)
  obtain ⟨e2_, rfl⟩ := hp2
  have hLS : Lst dC dI ad bS Y s A h0 m0 ik vs kvs tl im vm kvm tm X T M T2 H := hLS
  refine lv_icmp_eq (tgt := 1108) hx hb dL_law_843 (by decide) (fun c_1 => ?_) (fun c_1 => absurd c_1 (not_not_intro (by rw [e1_, e2_, hcp.2.1])))
  refine W.widen (k := cells + 8) (n := slots + 200) (by omega) (by omega) ?_
  exact kk ik vs kvs tl im vm kvm tm X T M H locs hLS ⟨hcp.1, by rw [hcp.2.1], hcp.2.2⟩ hS

set_option maxHeartbeats 4000000 in
set_option maxRecDepth 100000 in
theorem lc_20 {p : Program} {l : Launch} {e : Env} {s : State} {m : MethodId} {below : List Frame} {meth : Method} {c : Code} {b L : Nat} {xs : Nat → Int32} {A : Nat → Prop} (hAe : A = fun q => s.heap.size ≤ q) (C0 : lw_At p s m meth c b L xs) (dC : Nat → ClassId) (dI : Nat → Nat → Nat) (gd : Nat → Nat) (kA : Nat) (ad : Nat → Nat) (cB bS : Nat) (sK sV : Nat → Nat) (Y : Nat → Prop) (h0 m0 : Nat) (ik : Int32) (vs kvs : VS) (tl : List Nat) (im : Int32) (vm kvm : VS) (tm : List Nat) (X : va_W) (T : List (ClassId × FieldType)) (M : va_W) (T2 : List (ClassId × FieldType)) (hGA : GA gd kA ad cB bS sK sV A s) (i : Nat) (hi : i + 5 ≤ L) (hL : L ≤ 320) (H : Heap) (locs : List Loc) (hLS : Lst dC dI ad bS Y s A h0 m0 ik vs kvs tl im vm kvm tm X T M T2 H) (cells slots : Nat) (hc0 : cells ≤ 590000) (hs0 : slots ≤ 7000000) (hS : va_S A s.heap H locs) (ls : Array Slot) (hl : lv_has ls 4 [(0, .ref b), (1, .ref h0), (2, .ref m0), (3, .int (nI i))]) (hcp : ik = im ∧ vs = vm ∧ (im = 0 ∨ kvs = kvm) ∧ tl = tm) (kk : ∀ (ik : Int32) (vs kvs : VS) (tl : List Nat) (im : Int32) (vm kvm : VS) (tm : List Nat) (X : va_W) (T : List (ClassId × FieldType)) (M : va_W) (H : Heap) (locs : List Loc), Lst dC dI ad bS Y s A h0 m0 ik vs kvs tl im vm kvm tm X T M T2 H → (ik = im ∧ vs = vm ∧ (im = 0 ∨ kvs = kvm) ∧ tl = tm) → va_S A s.heap H locs → W p l e room_1 s m #[Value.ref b] below meth c H locs (cells + 8) (slots + 200) (lw_Z below #[Value.ref b] s) (F0 m 1108 ls [])) : W p l e room_1 s m #[Value.ref b] below meth c H locs cells slots (lw_Z below #[Value.ref b] s) (F0 m 848 ls []) := by
  obtain ⟨hx, hb, hr, hml, hown, hts0, hX, hbl, hlocks, hgv⟩ := id C0
  have hown : s.vm.findClass RL = some m.cls := hown
  have hb : c.code = cL_law := hb
  have hts : ∀ w ∈ lw_tbl, w.before #[Value.ref b] s = true := fun w h => hts0 w (wsL_law_in w h)
  have hA : ∀ q : Nat, s.heap.size ≤ q → A q := fun q h => by rw [hAe]; exact h
  have hbA : ¬ A b := by rw [hAe]; exact Nat.not_le.mpr hbl
  refine lv_aload_n hx hb dL_law_848 rfl (lv_at hl 1 rfl) ?_
  refine lv_aload_n hx hb dL_law_849 rfl (lv_at hl 0 rfl) ?_
  refine lv_iload_n hx hb dL_law_850 rfl (lv_at hl 3 rfl) ?_
  refine lv_iconst (v := 1) hx hb dL_law_851 (by decide) ?_
  refine lv_iadd hx hb dL_law_852 ?_
  refine qi_as (y := nI (i + 1)) (nI_add i 1) ?_
  refine va_sld hx hb hX hbl hbA hS (vp_in_nI (n := i + 1) (N := L) (by omega) (by omega)) dL_law_853 ?_
  refine qi_as (y := xs (i + 1)) (by rw [nI_clamp (by omega)]) ?_
  refine lv_aload_n hx hb dL_law_854 rfl (lv_at hl 0 rfl) ?_
  refine lv_iload_n hx hb dL_law_855 rfl (lv_at hl 3 rfl) ?_
  refine lv_iconst (v := 2) hx hb dL_law_856 (by decide) ?_
  refine lv_iadd hx hb dL_law_857 ?_
  refine qi_as (y := nI (i + 2)) (nI_add i 2) ?_
  refine va_sld hx hb hX hbl hbA hS (vp_in_nI (n := i + 2) (N := L) (by omega) (by omega)) dL_law_858 ?_
  refine qi_as (y := xs (i + 2)) (by rw [nI_clamp (by omega)]) ?_
  refine lx_i (va_runV (As := [.int (xs (i + 1)), .int (xs (i + 2))]) (rest := []) ⟨hx, hb, hml, hown, hts⟩ (w_line l dC dI gd kA ad cB bS sK sV Y ik vs kvs tl T h0 X (xs (i + 1)) (xs (i + 2)) H.size) (cwV 2 hts gL_law_X11_line rfl rfl rfl hd_yX11_line ⟨Nat.le_of_ble_eq_true rfl, Nat.le_of_ble_eq_true rfl⟩) ⟨fun a U g mk q => by obtain ⟨q0, q1, qX, qK, qY1, qY2, qG⟩ := q; exact ⟨q0, mvz g mk a q1, qX, mvK g mk a qK, qY1, qY2, qG.same rfl rfl⟩, hLS.1.recv hLS.2.2.1, fun U hU hW => ⟨rfl, by rw [hU], by rw [hU]; exact hLS.1, va_K.moved hW.alike hLS.2.2.1, hLS.2.2.2.2.2.2.1, fun q hq hy => absurd (hLS.2.2.2.2.2.2.2.2 q hy) (Nat.not_lt.mpr hq), hGA.call hS hU hW (bl_in hLS.2.2.2.2.1 hS hA)⟩⟩ rfl rfl hl.1 rfl (lv_room (Nat.le_of_ble_eq_true rfl)) dL_law_859 ⟨by show _ ≤ 600000; omega, by show _ ≤ 7302250; omega⟩) hLS hS hA (fun r1_ u_ H locs X T hp1 hLS hS => ?_)
  obtain ⟨e1_, rfl⟩ := hp1
  have hLS : Lst dC dI ad bS Y s A h0 m0 ik vs kvs tl im vm kvm tm X T M T2 H := hLS
  refine lv_pop hx hb dL_law_862 rfl ?_
  refine lv_aload_n hx hb dL_law_863 rfl (lv_at hl 2 rfl) ?_
  refine lv_aload_n hx hb dL_law_864 rfl (lv_at hl 0 rfl) ?_
  refine lv_iload_n hx hb dL_law_865 rfl (lv_at hl 3 rfl) ?_
  refine lv_iconst (v := 1) hx hb dL_law_866 (by decide) ?_
  refine lv_iadd hx hb dL_law_867 ?_
  refine qi_as (y := nI (i + 1)) (nI_add i 1) ?_
  refine va_sld hx hb hX hbl hbA hS (vp_in_nI (n := i + 1) (N := L) (by omega) (by omega)) dL_law_868 ?_
  refine qi_as (y := xs (i + 1)) (by rw [nI_clamp (by omega)]) ?_
  refine lv_aload_n hx hb dL_law_869 rfl (lv_at hl 0 rfl) ?_
  refine lv_iload_n hx hb dL_law_870 rfl (lv_at hl 3 rfl) ?_
  refine lv_iconst (v := 2) hx hb dL_law_871 (by decide) ?_
  refine lv_iadd hx hb dL_law_872 ?_
  refine qi_as (y := nI (i + 2)) (nI_add i 2) ?_
  refine va_sld hx hb hX hbl hbA hS (vp_in_nI (n := i + 2) (N := L) (by omega) (by omega)) dL_law_873 ?_
  refine qi_as (y := xs (i + 2)) (by rw [nI_clamp (by omega)]) ?_
  refine lm_i (va_runV (As := [.int (xs (i + 1)), .int (xs (i + 2))]) (rest := []) ⟨hx, hb, hml, hown, hts⟩ (v_line l dC dI sK sV im vm kvm tm T2 m0 M (xs (i + 1)) (xs (i + 2)) H.size) (cwV 2 hts gL_law_X12_line rfl rfl rfl hd_yX12_line ⟨Nat.le_of_ble_eq_true rfl, Nat.le_of_ble_eq_true rfl⟩) ⟨fun a U g mk q => by obtain ⟨q0, q1, qX, qK, qG⟩ := q; exact ⟨q0, mvz g mk a q1, qX, mvK g mk a qK, qG.same rfl rfl⟩, hLS.2.1.recv hLS.2.2.2.1, fun U hU hW => ⟨rfl, by rw [hU], by rw [hU]; exact hLS.2.1, va_K.moved hW.alike hLS.2.2.2.1, hGA.2.2.2.2.2.2.call hS hU hW (bl_in hLS.2.2.2.2.2.1 hS hA)⟩⟩ rfl rfl hl.1 rfl (lv_room (Nat.le_of_ble_eq_true rfl)) dL_law_874 ⟨by show _ ≤ 600000; omega, by show _ ≤ 7302250; omega⟩) hLS hS hA (fun r2_ u_ H locs M hp2 hLS hS => ?_)
  obtain ⟨e2_, rfl⟩ := hp2
  have hLS : Lst dC dI ad bS Y s A h0 m0 ik vs kvs tl im vm kvm tm X T M T2 H := hLS
  refine lv_pop hx hb dL_law_877 rfl ?_
  refine lv_goto (tgt := 1108) hx hb dL_law_878 (by decide) ?_
  refine W.widen (k := cells + 8) (n := slots + 200) (by omega) (by omega) ?_
  exact kk ik vs kvs tl im vm kvm tm X T M H locs hLS ⟨hcp.1, by rw [hcp.2.1], hcp.2.2⟩ hS
end mg22j
section mg22j
noncomputable def dk22ncase_cL_law_0 : List (Nat × List Nat) := [(881, [43]), (882, [42]), (883, [29]), (884, [4]), (885, [96]), (886, [46]), (887, [42]), (888, [29]), (889, [5]), (890, [96]), (891, [46]), (892, [42]), (893, [29]), (894, [6]), (895, [96]), (896, [46]), (897, [182, 0, 108]), (900, [87]), (901, [44]), (902, [42]), (903, [29]), (904, [4]), (905, [96]), (906, [46]), (907, [42]), (908, [29]), (909, [5]), (910, [96]), (911, [46]), (912, [42]), (913, [29]), (914, [6]), (915, [96]), (916, [46]), (917, [182, 0, 111]), (920, [87]), (921, [167, 0, 187]), (924, [43]), (925, [42]), (926, [29])]
set_option maxRecDepth 100000 in
theorem dk22ncase_cL_law_0_a : btA cL_law dk22ncase_cL_law_0 = true := by decide +kernel
theorem dL_law_881 : decode cL_law 881 = .ok (.aload_n 1, 1) := bd43 (btAt dk22ncase_cL_law_0_a 0 rfl)
theorem dL_law_882 : decode cL_law 882 = .ok (.aload_n 0, 1) := bd42 (btAt dk22ncase_cL_law_0_a 1 rfl)
theorem dL_law_883 : decode cL_law 883 = .ok (.iload_n 3, 1) := bd29 (btAt dk22ncase_cL_law_0_a 2 rfl)
theorem dL_law_884 : decode cL_law 884 = .ok (.iconst 1, 1) := bd4 (btAt dk22ncase_cL_law_0_a 3 rfl)
theorem dL_law_885 : decode cL_law 885 = .ok (.iadd, 1) := bd96 (btAt dk22ncase_cL_law_0_a 4 rfl)
theorem dL_law_886 : decode cL_law 886 = .ok (.iaload, 1) := bd46 (btAt dk22ncase_cL_law_0_a 5 rfl)
theorem dL_law_887 : decode cL_law 887 = .ok (.aload_n 0, 1) := bd42 (btAt dk22ncase_cL_law_0_a 6 rfl)
theorem dL_law_888 : decode cL_law 888 = .ok (.iload_n 3, 1) := bd29 (btAt dk22ncase_cL_law_0_a 7 rfl)
theorem dL_law_889 : decode cL_law 889 = .ok (.iconst 2, 1) := bd5 (btAt dk22ncase_cL_law_0_a 8 rfl)
theorem dL_law_890 : decode cL_law 890 = .ok (.iadd, 1) := bd96 (btAt dk22ncase_cL_law_0_a 9 rfl)
theorem dL_law_891 : decode cL_law 891 = .ok (.iaload, 1) := bd46 (btAt dk22ncase_cL_law_0_a 10 rfl)
theorem dL_law_892 : decode cL_law 892 = .ok (.aload_n 0, 1) := bd42 (btAt dk22ncase_cL_law_0_a 11 rfl)
theorem dL_law_893 : decode cL_law 893 = .ok (.iload_n 3, 1) := bd29 (btAt dk22ncase_cL_law_0_a 12 rfl)
theorem dL_law_894 : decode cL_law 894 = .ok (.iconst 3, 1) := bd6 (btAt dk22ncase_cL_law_0_a 13 rfl)
theorem dL_law_895 : decode cL_law 895 = .ok (.iadd, 1) := bd96 (btAt dk22ncase_cL_law_0_a 14 rfl)
theorem dL_law_896 : decode cL_law 896 = .ok (.iaload, 1) := bd46 (btAt dk22ncase_cL_law_0_a 15 rfl)
theorem dL_law_897 : decode cL_law 897 = .ok (.invokevirtual 108, 3) := bd182 (a := 0) (b := 108) (btAt dk22ncase_cL_law_0_a 16 rfl)
theorem dL_law_900 : decode cL_law 900 = .ok (.pop, 1) := bd87 (btAt dk22ncase_cL_law_0_a 17 rfl)
theorem dL_law_901 : decode cL_law 901 = .ok (.aload_n 2, 1) := bd44 (btAt dk22ncase_cL_law_0_a 18 rfl)
theorem dL_law_902 : decode cL_law 902 = .ok (.aload_n 0, 1) := bd42 (btAt dk22ncase_cL_law_0_a 19 rfl)
theorem dL_law_903 : decode cL_law 903 = .ok (.iload_n 3, 1) := bd29 (btAt dk22ncase_cL_law_0_a 20 rfl)
theorem dL_law_904 : decode cL_law 904 = .ok (.iconst 1, 1) := bd4 (btAt dk22ncase_cL_law_0_a 21 rfl)
theorem dL_law_905 : decode cL_law 905 = .ok (.iadd, 1) := bd96 (btAt dk22ncase_cL_law_0_a 22 rfl)
theorem dL_law_906 : decode cL_law 906 = .ok (.iaload, 1) := bd46 (btAt dk22ncase_cL_law_0_a 23 rfl)
theorem dL_law_907 : decode cL_law 907 = .ok (.aload_n 0, 1) := bd42 (btAt dk22ncase_cL_law_0_a 24 rfl)
theorem dL_law_908 : decode cL_law 908 = .ok (.iload_n 3, 1) := bd29 (btAt dk22ncase_cL_law_0_a 25 rfl)
theorem dL_law_909 : decode cL_law 909 = .ok (.iconst 2, 1) := bd5 (btAt dk22ncase_cL_law_0_a 26 rfl)
theorem dL_law_910 : decode cL_law 910 = .ok (.iadd, 1) := bd96 (btAt dk22ncase_cL_law_0_a 27 rfl)
theorem dL_law_911 : decode cL_law 911 = .ok (.iaload, 1) := bd46 (btAt dk22ncase_cL_law_0_a 28 rfl)
theorem dL_law_912 : decode cL_law 912 = .ok (.aload_n 0, 1) := bd42 (btAt dk22ncase_cL_law_0_a 29 rfl)
theorem dL_law_913 : decode cL_law 913 = .ok (.iload_n 3, 1) := bd29 (btAt dk22ncase_cL_law_0_a 30 rfl)
theorem dL_law_914 : decode cL_law 914 = .ok (.iconst 3, 1) := bd6 (btAt dk22ncase_cL_law_0_a 31 rfl)
theorem dL_law_915 : decode cL_law 915 = .ok (.iadd, 1) := bd96 (btAt dk22ncase_cL_law_0_a 32 rfl)
theorem dL_law_916 : decode cL_law 916 = .ok (.iaload, 1) := bd46 (btAt dk22ncase_cL_law_0_a 33 rfl)
theorem dL_law_917 : decode cL_law 917 = .ok (.invokevirtual 111, 3) := bd182 (a := 0) (b := 111) (btAt dk22ncase_cL_law_0_a 34 rfl)
theorem dL_law_920 : decode cL_law 920 = .ok (.pop, 1) := bd87 (btAt dk22ncase_cL_law_0_a 35 rfl)
theorem dL_law_921 : decode cL_law 921 = .ok (.goto 187, 3) := bd167 (a := 0) (b := 187) (btAt dk22ncase_cL_law_0_a 36 rfl)
theorem dL_law_924 : decode cL_law 924 = .ok (.aload_n 1, 1) := bd43 (btAt dk22ncase_cL_law_0_a 37 rfl)
theorem dL_law_925 : decode cL_law 925 = .ok (.aload_n 0, 1) := bd42 (btAt dk22ncase_cL_law_0_a 38 rfl)
theorem dL_law_926 : decode cL_law 926 = .ok (.iload_n 3, 1) := bd29 (btAt dk22ncase_cL_law_0_a 39 rfl)
noncomputable def dk22ncase_cL_law_40 : List (Nat × List Nat) := [(927, [4]), (928, [96]), (929, [46]), (930, [182, 0, 112]), (933, [87]), (934, [44]), (935, [42]), (936, [29]), (937, [4]), (938, [96]), (939, [46]), (940, [182, 0, 115]), (943, [87]), (944, [167, 0, 164])]
set_option maxRecDepth 100000 in
theorem dk22ncase_cL_law_40_a : btA cL_law dk22ncase_cL_law_40 = true := by decide +kernel
theorem dL_law_927 : decode cL_law 927 = .ok (.iconst 1, 1) := bd4 (btAt dk22ncase_cL_law_40_a 0 rfl)
theorem dL_law_928 : decode cL_law 928 = .ok (.iadd, 1) := bd96 (btAt dk22ncase_cL_law_40_a 1 rfl)
theorem dL_law_929 : decode cL_law 929 = .ok (.iaload, 1) := bd46 (btAt dk22ncase_cL_law_40_a 2 rfl)
theorem dL_law_930 : decode cL_law 930 = .ok (.invokevirtual 112, 3) := bd182 (a := 0) (b := 112) (btAt dk22ncase_cL_law_40_a 3 rfl)
theorem dL_law_933 : decode cL_law 933 = .ok (.pop, 1) := bd87 (btAt dk22ncase_cL_law_40_a 4 rfl)
theorem dL_law_934 : decode cL_law 934 = .ok (.aload_n 2, 1) := bd44 (btAt dk22ncase_cL_law_40_a 5 rfl)
theorem dL_law_935 : decode cL_law 935 = .ok (.aload_n 0, 1) := bd42 (btAt dk22ncase_cL_law_40_a 6 rfl)
theorem dL_law_936 : decode cL_law 936 = .ok (.iload_n 3, 1) := bd29 (btAt dk22ncase_cL_law_40_a 7 rfl)
theorem dL_law_937 : decode cL_law 937 = .ok (.iconst 1, 1) := bd4 (btAt dk22ncase_cL_law_40_a 8 rfl)
theorem dL_law_938 : decode cL_law 938 = .ok (.iadd, 1) := bd96 (btAt dk22ncase_cL_law_40_a 9 rfl)
theorem dL_law_939 : decode cL_law 939 = .ok (.iaload, 1) := bd46 (btAt dk22ncase_cL_law_40_a 10 rfl)
theorem dL_law_940 : decode cL_law 940 = .ok (.invokevirtual 115, 3) := bd182 (a := 0) (b := 115) (btAt dk22ncase_cL_law_40_a 11 rfl)
theorem dL_law_943 : decode cL_law 943 = .ok (.pop, 1) := bd87 (btAt dk22ncase_cL_law_40_a 12 rfl)
theorem dL_law_944 : decode cL_law 944 = .ok (.goto 164, 3) := bd167 (a := 0) (b := 164) (btAt dk22ncase_cL_law_40_a 13 rfl)
set_option maxHeartbeats 4000000 in
set_option maxRecDepth 100000 in
theorem lc_21 {p : Program} {l : Launch} {e : Env} {s : State} {m : MethodId} {below : List Frame} {meth : Method} {c : Code} {b L : Nat} {xs : Nat → Int32} {A : Nat → Prop} (hAe : A = fun q => s.heap.size ≤ q) (C0 : lw_At p s m meth c b L xs) (dC : Nat → ClassId) (dI : Nat → Nat → Nat) (gd : Nat → Nat) (kA : Nat) (ad : Nat → Nat) (cB bS : Nat) (sK sV : Nat → Nat) (Y : Nat → Prop) (h0 m0 : Nat) (ik : Int32) (vs kvs : VS) (tl : List Nat) (im : Int32) (vm kvm : VS) (tm : List Nat) (X : va_W) (T : List (ClassId × FieldType)) (M : va_W) (T2 : List (ClassId × FieldType)) (hGA : GA gd kA ad cB bS sK sV A s) (i : Nat) (hi : i + 5 ≤ L) (hL : L ≤ 320) (H : Heap) (locs : List Loc) (hLS : Lst dC dI ad bS Y s A h0 m0 ik vs kvs tl im vm kvm tm X T M T2 H) (cells slots : Nat) (hc0 : cells ≤ 590000) (hs0 : slots ≤ 7000000) (hS : va_S A s.heap H locs) (ls : Array Slot) (hl : lv_has ls 4 [(0, .ref b), (1, .ref h0), (2, .ref m0), (3, .int (nI i))]) (hcp : ik = im ∧ vs = vm ∧ (im = 0 ∨ kvs = kvm) ∧ tl = tm) (kk : ∀ (ik : Int32) (vs kvs : VS) (tl : List Nat) (im : Int32) (vm kvm : VS) (tm : List Nat) (X : va_W) (T : List (ClassId × FieldType)) (M : va_W) (H : Heap) (locs : List Loc), Lst dC dI ad bS Y s A h0 m0 ik vs kvs tl im vm kvm tm X T M T2 H → (ik = im ∧ vs = vm ∧ (im = 0 ∨ kvs = kvm) ∧ tl = tm) → va_S A s.heap H locs → W p l e room_1 s m #[Value.ref b] below meth c H locs (cells + 8) (slots + 200) (lw_Z below #[Value.ref b] s) (F0 m 1108 ls [])) : W p l e room_1 s m #[Value.ref b] below meth c H locs cells slots (lw_Z below #[Value.ref b] s) (F0 m 881 ls []) := by
  obtain ⟨hx, hb, hr, hml, hown, hts0, hX, hbl, hlocks, hgv⟩ := id C0
  have hown : s.vm.findClass RL = some m.cls := hown
  have hb : c.code = cL_law := hb
  have hts : ∀ w ∈ lw_tbl, w.before #[Value.ref b] s = true := fun w h => hts0 w (wsL_law_in w h)
  have hA : ∀ q : Nat, s.heap.size ≤ q → A q := fun q h => by rw [hAe]; exact h
  have hbA : ¬ A b := by rw [hAe]; exact Nat.not_le.mpr hbl
  refine lv_aload_n hx hb dL_law_881 rfl (lv_at hl 1 rfl) ?_
  refine lv_aload_n hx hb dL_law_882 rfl (lv_at hl 0 rfl) ?_
  refine lv_iload_n hx hb dL_law_883 rfl (lv_at hl 3 rfl) ?_
  refine lv_iconst (v := 1) hx hb dL_law_884 (by decide) ?_
  refine lv_iadd hx hb dL_law_885 ?_
  refine qi_as (y := nI (i + 1)) (nI_add i 1) ?_
  refine va_sld hx hb hX hbl hbA hS (vp_in_nI (n := i + 1) (N := L) (by omega) (by omega)) dL_law_886 ?_
  refine qi_as (y := xs (i + 1)) (by rw [nI_clamp (by omega)]) ?_
  refine lv_aload_n hx hb dL_law_887 rfl (lv_at hl 0 rfl) ?_
  refine lv_iload_n hx hb dL_law_888 rfl (lv_at hl 3 rfl) ?_
  refine lv_iconst (v := 2) hx hb dL_law_889 (by decide) ?_
  refine lv_iadd hx hb dL_law_890 ?_
  refine qi_as (y := nI (i + 2)) (nI_add i 2) ?_
  refine va_sld hx hb hX hbl hbA hS (vp_in_nI (n := i + 2) (N := L) (by omega) (by omega)) dL_law_891 ?_
  refine qi_as (y := xs (i + 2)) (by rw [nI_clamp (by omega)]) ?_
  refine lv_aload_n hx hb dL_law_892 rfl (lv_at hl 0 rfl) ?_
  refine lv_iload_n hx hb dL_law_893 rfl (lv_at hl 3 rfl) ?_
  refine lv_iconst (v := 3) hx hb dL_law_894 (by decide) ?_
  refine lv_iadd hx hb dL_law_895 ?_
  refine qi_as (y := nI (i + 3)) (nI_add i 3) ?_
  refine va_sld hx hb hX hbl hbA hS (vp_in_nI (n := i + 3) (N := L) (by omega) (by omega)) dL_law_896 ?_
  refine qi_as (y := xs (i + 3)) (by rw [nI_clamp (by omega)]) ?_
  refine lx_i (va_runV (As := [.int (xs (i + 1)), .int (xs (i + 2)), .int (xs (i + 3))]) (rest := []) ⟨hx, hb, hml, hown, hts⟩ (w_next l dC dI gd kA ad cB bS sK sV Y ik vs kvs tl T h0 X (xs (i + 1)) (xs (i + 2)) (xs (i + 3)) H.size) (cwV 3 hts gL_law_X11_next rfl rfl rfl hd_yX11_next ⟨Nat.le_of_ble_eq_true rfl, Nat.le_of_ble_eq_true rfl⟩) ⟨fun a U g mk q => by obtain ⟨q0, q1, qX, qK, qY1, qY2, qG⟩ := q; exact ⟨q0, mvz g mk a q1, qX, mvK g mk a qK, qY1, qY2, qG.same rfl rfl⟩, hLS.1.recv hLS.2.2.1, fun U hU hW => ⟨rfl, by rw [hU], by rw [hU]; exact hLS.1, va_K.moved hW.alike hLS.2.2.1, hLS.2.2.2.2.2.2.1, fun q hq hy => absurd (hLS.2.2.2.2.2.2.2.2 q hy) (Nat.not_lt.mpr hq), hGA.call hS hU hW (bl_in hLS.2.2.2.2.1 hS hA)⟩⟩ rfl rfl hl.1 rfl (lv_room (Nat.le_of_ble_eq_true rfl)) dL_law_897 ⟨by show _ ≤ 600000; omega, by show _ ≤ 7302250; omega⟩) hLS hS hA (fun r1_ u_ H locs X T hp1 hLS hS => ?_)
  obtain ⟨e1_, rfl⟩ := hp1
  have hLS : Lst dC dI ad bS Y s A h0 m0 ik vs kvs tl im vm kvm tm X T M T2 H := hLS
  refine lv_pop hx hb dL_law_900 rfl ?_
  refine lv_aload_n hx hb dL_law_901 rfl (lv_at hl 2 rfl) ?_
  refine lv_aload_n hx hb dL_law_902 rfl (lv_at hl 0 rfl) ?_
  refine lv_iload_n hx hb dL_law_903 rfl (lv_at hl 3 rfl) ?_
  refine lv_iconst (v := 1) hx hb dL_law_904 (by decide) ?_
  refine lv_iadd hx hb dL_law_905 ?_
  refine qi_as (y := nI (i + 1)) (nI_add i 1) ?_
  refine va_sld hx hb hX hbl hbA hS (vp_in_nI (n := i + 1) (N := L) (by omega) (by omega)) dL_law_906 ?_
  refine qi_as (y := xs (i + 1)) (by rw [nI_clamp (by omega)]) ?_
  refine lv_aload_n hx hb dL_law_907 rfl (lv_at hl 0 rfl) ?_
  refine lv_iload_n hx hb dL_law_908 rfl (lv_at hl 3 rfl) ?_
  refine lv_iconst (v := 2) hx hb dL_law_909 (by decide) ?_
  refine lv_iadd hx hb dL_law_910 ?_
  refine qi_as (y := nI (i + 2)) (nI_add i 2) ?_
  refine va_sld hx hb hX hbl hbA hS (vp_in_nI (n := i + 2) (N := L) (by omega) (by omega)) dL_law_911 ?_
  refine qi_as (y := xs (i + 2)) (by rw [nI_clamp (by omega)]) ?_
  refine lv_aload_n hx hb dL_law_912 rfl (lv_at hl 0 rfl) ?_
  refine lv_iload_n hx hb dL_law_913 rfl (lv_at hl 3 rfl) ?_
  refine lv_iconst (v := 3) hx hb dL_law_914 (by decide) ?_
  refine lv_iadd hx hb dL_law_915 ?_
  refine qi_as (y := nI (i + 3)) (nI_add i 3) ?_
  refine va_sld hx hb hX hbl hbA hS (vp_in_nI (n := i + 3) (N := L) (by omega) (by omega)) dL_law_916 ?_
  refine qi_as (y := xs (i + 3)) (by rw [nI_clamp (by omega)]) ?_
  refine lm_i (va_runV (As := [.int (xs (i + 1)), .int (xs (i + 2)), .int (xs (i + 3))]) (rest := []) ⟨hx, hb, hml, hown, hts⟩ (v_next l dC dI sK sV im vm kvm tm T2 m0 M (xs (i + 1)) (xs (i + 2)) (xs (i + 3)) H.size) (cwV 3 hts gL_law_X12_next rfl rfl rfl hd_yX12_next ⟨Nat.le_of_ble_eq_true rfl, Nat.le_of_ble_eq_true rfl⟩) ⟨fun a U g mk q => by obtain ⟨q0, q1, qX, qK, qG⟩ := q; exact ⟨q0, mvz g mk a q1, qX, mvK g mk a qK, qG.same rfl rfl⟩, hLS.2.1.recv hLS.2.2.2.1, fun U hU hW => ⟨rfl, by rw [hU], by rw [hU]; exact hLS.2.1, va_K.moved hW.alike hLS.2.2.2.1, hGA.2.2.2.2.2.2.call hS hU hW (bl_in hLS.2.2.2.2.2.1 hS hA)⟩⟩ rfl rfl hl.1 rfl (lv_room (Nat.le_of_ble_eq_true rfl)) dL_law_917 ⟨by show _ ≤ 600000; omega, by show _ ≤ 7302250; omega⟩) hLS hS hA (fun r2_ u_ H locs M hp2 hLS hS => ?_)
  obtain ⟨e2_, rfl⟩ := hp2
  have hLS : Lst dC dI ad bS Y s A h0 m0 ik vs kvs tl im vm kvm tm X T M T2 H := hLS
  refine lv_pop hx hb dL_law_920 rfl ?_
  refine lv_goto (tgt := 1108) hx hb dL_law_921 (by decide) ?_
  refine W.widen (k := cells + 8) (n := slots + 200) (by omega) (by omega) ?_
  exact kk ik vs kvs tl im vm kvm tm X T M H locs hLS ⟨hcp.1, by rw [hcp.2.1], hcp.2.2⟩ hS

set_option maxHeartbeats 4000000 in
set_option maxRecDepth 100000 in
theorem lc_22 {p : Program} {l : Launch} {e : Env} {s : State} {m : MethodId} {below : List Frame} {meth : Method} {c : Code} {b L : Nat} {xs : Nat → Int32} {A : Nat → Prop} (hAe : A = fun q => s.heap.size ≤ q) (C0 : lw_At p s m meth c b L xs) (dC : Nat → ClassId) (dI : Nat → Nat → Nat) (gd : Nat → Nat) (kA : Nat) (ad : Nat → Nat) (cB bS : Nat) (sK sV : Nat → Nat) (Y : Nat → Prop) (h0 m0 : Nat) (ik : Int32) (vs kvs : VS) (tl : List Nat) (im : Int32) (vm kvm : VS) (tm : List Nat) (X : va_W) (T : List (ClassId × FieldType)) (M : va_W) (T2 : List (ClassId × FieldType)) (hGA : GA gd kA ad cB bS sK sV A s) (i : Nat) (hi : i + 5 ≤ L) (hL : L ≤ 320) (H : Heap) (locs : List Loc) (hLS : Lst dC dI ad bS Y s A h0 m0 ik vs kvs tl im vm kvm tm X T M T2 H) (cells slots : Nat) (hc0 : cells ≤ 590000) (hs0 : slots ≤ 7000000) (hS : va_S A s.heap H locs) (ls : Array Slot) (hl : lv_has ls 4 [(0, .ref b), (1, .ref h0), (2, .ref m0), (3, .int (nI i))]) (hcp : ik = im ∧ vs = vm ∧ (im = 0 ∨ kvs = kvm) ∧ tl = tm) (kk : ∀ (ik : Int32) (vs kvs : VS) (tl : List Nat) (im : Int32) (vm kvm : VS) (tm : List Nat) (X : va_W) (T : List (ClassId × FieldType)) (M : va_W) (H : Heap) (locs : List Loc), Lst dC dI ad bS Y s A h0 m0 ik vs kvs tl im vm kvm tm X T M T2 H → (ik = im ∧ vs = vm ∧ (im = 0 ∨ kvs = kvm) ∧ tl = tm) → va_S A s.heap H locs → W p l e room_1 s m #[Value.ref b] below meth c H locs (cells + 8) (slots + 200) (lw_Z below #[Value.ref b] s) (F0 m 1108 ls [])) : W p l e room_1 s m #[Value.ref b] below meth c H locs cells slots (lw_Z below #[Value.ref b] s) (F0 m 924 ls []) := by
  obtain ⟨hx, hb, hr, hml, hown, hts0, hX, hbl, hlocks, hgv⟩ := id C0
  have hown : s.vm.findClass RL = some m.cls := hown
  have hb : c.code = cL_law := hb
  have hts : ∀ w ∈ lw_tbl, w.before #[Value.ref b] s = true := fun w h => hts0 w (wsL_law_in w h)
  have hA : ∀ q : Nat, s.heap.size ≤ q → A q := fun q h => by rw [hAe]; exact h
  have hbA : ¬ A b := by rw [hAe]; exact Nat.not_le.mpr hbl
  refine lv_aload_n hx hb dL_law_924 rfl (lv_at hl 1 rfl) ?_
  refine lv_aload_n hx hb dL_law_925 rfl (lv_at hl 0 rfl) ?_
  refine lv_iload_n hx hb dL_law_926 rfl (lv_at hl 3 rfl) ?_
  refine lv_iconst (v := 1) hx hb dL_law_927 (by decide) ?_
  refine lv_iadd hx hb dL_law_928 ?_
  refine qi_as (y := nI (i + 1)) (nI_add i 1) ?_
  refine va_sld hx hb hX hbl hbA hS (vp_in_nI (n := i + 1) (N := L) (by omega) (by omega)) dL_law_929 ?_
  refine qi_as (y := xs (i + 1)) (by rw [nI_clamp (by omega)]) ?_
  refine lx_i (va_runV (As := [.int (xs (i + 1))]) (rest := []) ⟨hx, hb, hml, hown, hts⟩ (w_book l dC dI gd kA ad cB bS sK sV Y ik vs kvs tl T h0 X (xs (i + 1)) H.size) (cwV 1 hts gL_law_X11_book rfl rfl rfl hd_yX11_book ⟨Nat.le_of_ble_eq_true rfl, Nat.le_of_ble_eq_true rfl⟩) ⟨fun a U g mk q => by obtain ⟨q0, q1, qX, qK, qY1, qY2, qG⟩ := q; exact ⟨q0, mvz g mk a q1, qX, mvK g mk a qK, qY1, qY2, qG.same rfl rfl⟩, hLS.1.recv hLS.2.2.1, fun U hU hW => ⟨rfl, by rw [hU], by rw [hU]; exact hLS.1, va_K.moved hW.alike hLS.2.2.1, hLS.2.2.2.2.2.2.1, fun q hq hy => absurd (hLS.2.2.2.2.2.2.2.2 q hy) (Nat.not_lt.mpr hq), hGA.call hS hU hW (bl_in hLS.2.2.2.2.1 hS hA)⟩⟩ rfl rfl hl.1 rfl (lv_room (Nat.le_of_ble_eq_true rfl)) dL_law_930 ⟨by show _ ≤ 600000; omega, by show _ ≤ 7302250; omega⟩) hLS hS hA (fun r1_ u_ H locs X T hp1 hLS hS => ?_)
  obtain ⟨e1_, rfl⟩ := hp1
  have hLS : Lst dC dI ad bS Y s A h0 m0 ik (vs.1, vs.2.1, bkN vs.1 vs.2.2.1 (xs (i + 1)), vs.2.2.2.1, vs.2.2.2.2.1, vs.2.2.2.2.2.1, vs.2.2.2.2.2.2.1, vs.2.2.2.2.2.2.2.1, vs.2.2.2.2.2.2.2.2.1, vs.2.2.2.2.2.2.2.2.2.1, vs.2.2.2.2.2.2.2.2.2.2.1, vs.2.2.2.2.2.2.2.2.2.2.2.1, vs.2.2.2.2.2.2.2.2.2.2.2.2.1, vs.2.2.2.2.2.2.2.2.2.2.2.2.2) kvs tl im vm kvm tm X T M T2 H := hLS
  refine lv_pop hx hb dL_law_933 rfl ?_
  refine lv_aload_n hx hb dL_law_934 rfl (lv_at hl 2 rfl) ?_
  refine lv_aload_n hx hb dL_law_935 rfl (lv_at hl 0 rfl) ?_
  refine lv_iload_n hx hb dL_law_936 rfl (lv_at hl 3 rfl) ?_
  refine lv_iconst (v := 1) hx hb dL_law_937 (by decide) ?_
  refine lv_iadd hx hb dL_law_938 ?_
  refine qi_as (y := nI (i + 1)) (nI_add i 1) ?_
  refine va_sld hx hb hX hbl hbA hS (vp_in_nI (n := i + 1) (N := L) (by omega) (by omega)) dL_law_939 ?_
  refine qi_as (y := xs (i + 1)) (by rw [nI_clamp (by omega)]) ?_
  refine lm_i (va_runV (As := [.int (xs (i + 1))]) (rest := []) ⟨hx, hb, hml, hown, hts⟩ (v_book l dC dI sK sV im vm kvm tm T2 m0 M (xs (i + 1)) H.size) (cwV 1 hts gL_law_X12_book rfl rfl rfl hd_yX12_book ⟨Nat.le_of_ble_eq_true rfl, Nat.le_of_ble_eq_true rfl⟩) ⟨fun a U g mk q => by obtain ⟨q0, q1, qX, qK, qG⟩ := q; exact ⟨q0, mvz g mk a q1, qX, mvK g mk a qK, qG.same rfl rfl⟩, hLS.2.1.recv hLS.2.2.2.1, fun U hU hW => ⟨rfl, by rw [hU], by rw [hU]; exact hLS.2.1, va_K.moved hW.alike hLS.2.2.2.1, hGA.2.2.2.2.2.2.call hS hU hW (bl_in hLS.2.2.2.2.2.1 hS hA)⟩⟩ rfl rfl hl.1 rfl (lv_room (Nat.le_of_ble_eq_true rfl)) dL_law_940 ⟨by show _ ≤ 600000; omega, by show _ ≤ 7302250; omega⟩) hLS hS hA (fun r2_ u_ H locs M hp2 hLS hS => ?_)
  obtain ⟨e2_, rfl⟩ := hp2
  have hLS : Lst dC dI ad bS Y s A h0 m0 ik (vs.1, vs.2.1, bkN vs.1 vs.2.2.1 (xs (i + 1)), vs.2.2.2.1, vs.2.2.2.2.1, vs.2.2.2.2.2.1, vs.2.2.2.2.2.2.1, vs.2.2.2.2.2.2.2.1, vs.2.2.2.2.2.2.2.2.1, vs.2.2.2.2.2.2.2.2.2.1, vs.2.2.2.2.2.2.2.2.2.2.1, vs.2.2.2.2.2.2.2.2.2.2.2.1, vs.2.2.2.2.2.2.2.2.2.2.2.2.1, vs.2.2.2.2.2.2.2.2.2.2.2.2.2) kvs tl im (vm.1, vm.2.1, bkN vm.1 vm.2.2.1 (xs (i + 1)), vm.2.2.2.1, vm.2.2.2.2.1, vm.2.2.2.2.2.1, vm.2.2.2.2.2.2.1, vm.2.2.2.2.2.2.2.1, vm.2.2.2.2.2.2.2.2.1, vm.2.2.2.2.2.2.2.2.2.1, vm.2.2.2.2.2.2.2.2.2.2.1, vm.2.2.2.2.2.2.2.2.2.2.2.1, vm.2.2.2.2.2.2.2.2.2.2.2.2.1, vm.2.2.2.2.2.2.2.2.2.2.2.2.2) kvm tm X T M T2 H := hLS
  refine lv_pop hx hb dL_law_943 rfl ?_
  refine lv_goto (tgt := 1108) hx hb dL_law_944 (by decide) ?_
  refine W.widen (k := cells + 8) (n := slots + 200) (by omega) (by omega) ?_
  exact kk ik (vs.1, vs.2.1, bkN vs.1 vs.2.2.1 (xs (i + 1)), vs.2.2.2.1, vs.2.2.2.2.1, vs.2.2.2.2.2.1, vs.2.2.2.2.2.2.1, vs.2.2.2.2.2.2.2.1, vs.2.2.2.2.2.2.2.2.1, vs.2.2.2.2.2.2.2.2.2.1, vs.2.2.2.2.2.2.2.2.2.2.1, vs.2.2.2.2.2.2.2.2.2.2.2.1, vs.2.2.2.2.2.2.2.2.2.2.2.2.1, vs.2.2.2.2.2.2.2.2.2.2.2.2.2) kvs tl im (vm.1, vm.2.1, bkN vm.1 vm.2.2.1 (xs (i + 1)), vm.2.2.2.1, vm.2.2.2.2.1, vm.2.2.2.2.2.1, vm.2.2.2.2.2.2.1, vm.2.2.2.2.2.2.2.1, vm.2.2.2.2.2.2.2.2.1, vm.2.2.2.2.2.2.2.2.2.1, vm.2.2.2.2.2.2.2.2.2.2.1, vm.2.2.2.2.2.2.2.2.2.2.2.1, vm.2.2.2.2.2.2.2.2.2.2.2.2.1, vm.2.2.2.2.2.2.2.2.2.2.2.2.2) kvm tm X T M H locs hLS ⟨hcp.1, by rw [hcp.2.1], hcp.2.2⟩ hS
end mg22j
section mg22j
noncomputable def dk22ocase_cL_law_0 : List (Nat × List Nat) := [(947, [43]), (948, [182, 0, 116]), (951, [87]), (952, [44]), (953, [182, 0, 119]), (956, [87]), (957, [167, 0, 151])]
set_option maxRecDepth 100000 in
theorem dk22ocase_cL_law_0_a : btA cL_law dk22ocase_cL_law_0 = true := by decide +kernel
theorem dL_law_947 : decode cL_law 947 = .ok (.aload_n 1, 1) := bd43 (btAt dk22ocase_cL_law_0_a 0 rfl)
theorem dL_law_948 : decode cL_law 948 = .ok (.invokevirtual 116, 3) := bd182 (a := 0) (b := 116) (btAt dk22ocase_cL_law_0_a 1 rfl)
theorem dL_law_951 : decode cL_law 951 = .ok (.pop, 1) := bd87 (btAt dk22ocase_cL_law_0_a 2 rfl)
theorem dL_law_952 : decode cL_law 952 = .ok (.aload_n 2, 1) := bd44 (btAt dk22ocase_cL_law_0_a 3 rfl)
theorem dL_law_953 : decode cL_law 953 = .ok (.invokevirtual 119, 3) := bd182 (a := 0) (b := 119) (btAt dk22ocase_cL_law_0_a 4 rfl)
theorem dL_law_956 : decode cL_law 956 = .ok (.pop, 1) := bd87 (btAt dk22ocase_cL_law_0_a 5 rfl)
theorem dL_law_957 : decode cL_law 957 = .ok (.goto 151, 3) := bd167 (a := 0) (b := 151) (btAt dk22ocase_cL_law_0_a 6 rfl)
set_option maxHeartbeats 4000000 in
set_option maxRecDepth 100000 in
theorem lc_23 {p : Program} {l : Launch} {e : Env} {s : State} {m : MethodId} {below : List Frame} {meth : Method} {c : Code} {b L : Nat} {xs : Nat → Int32} {A : Nat → Prop} (hAe : A = fun q => s.heap.size ≤ q) (C0 : lw_At p s m meth c b L xs) (dC : Nat → ClassId) (dI : Nat → Nat → Nat) (gd : Nat → Nat) (kA : Nat) (ad : Nat → Nat) (cB bS : Nat) (sK sV : Nat → Nat) (Y : Nat → Prop) (h0 m0 : Nat) (ik : Int32) (vs kvs : VS) (tl : List Nat) (im : Int32) (vm kvm : VS) (tm : List Nat) (X : va_W) (T : List (ClassId × FieldType)) (M : va_W) (T2 : List (ClassId × FieldType)) (hGA : GA gd kA ad cB bS sK sV A s) (i : Nat) (hi : i + 5 ≤ L) (hL : L ≤ 320) (H : Heap) (locs : List Loc) (hLS : Lst dC dI ad bS Y s A h0 m0 ik vs kvs tl im vm kvm tm X T M T2 H) (cells slots : Nat) (hc0 : cells ≤ 590000) (hs0 : slots ≤ 7000000) (hS : va_S A s.heap H locs) (ls : Array Slot) (hl : lv_has ls 4 [(0, .ref b), (1, .ref h0), (2, .ref m0), (3, .int (nI i))]) (hcp : ik = im ∧ vs = vm ∧ (im = 0 ∨ kvs = kvm) ∧ tl = tm) (kk : ∀ (ik : Int32) (vs kvs : VS) (tl : List Nat) (im : Int32) (vm kvm : VS) (tm : List Nat) (X : va_W) (T : List (ClassId × FieldType)) (M : va_W) (H : Heap) (locs : List Loc), Lst dC dI ad bS Y s A h0 m0 ik vs kvs tl im vm kvm tm X T M T2 H → (ik = im ∧ vs = vm ∧ (im = 0 ∨ kvs = kvm) ∧ tl = tm) → va_S A s.heap H locs → W p l e room_1 s m #[Value.ref b] below meth c H locs (cells + 8) (slots + 200) (lw_Z below #[Value.ref b] s) (F0 m 1108 ls [])) : W p l e room_1 s m #[Value.ref b] below meth c H locs cells slots (lw_Z below #[Value.ref b] s) (F0 m 947 ls []) := by
  obtain ⟨hx, hb, hr, hml, hown, hts0, hX, hbl, hlocks, hgv⟩ := id C0
  have hown : s.vm.findClass RL = some m.cls := hown
  have hb : c.code = cL_law := hb
  have hts : ∀ w ∈ lw_tbl, w.before #[Value.ref b] s = true := fun w h => hts0 w (wsL_law_in w h)
  have hA : ∀ q : Nat, s.heap.size ≤ q → A q := fun q h => by rw [hAe]; exact h
  have hbA : ¬ A b := by rw [hAe]; exact Nat.not_le.mpr hbl
  refine lv_aload_n hx hb dL_law_947 rfl (lv_at hl 1 rfl) ?_
  refine lx_i (va_runV (As := []) (rest := []) ⟨hx, hb, hml, hown, hts⟩ (w_looked l dC dI gd kA ad cB bS sK sV Y ik vs kvs tl T h0 X H.size) (cwV 0 hts gL_law_X11_looked rfl rfl rfl hd_yX11_looked ⟨Nat.le_of_ble_eq_true rfl, Nat.le_of_ble_eq_true rfl⟩) ⟨fun a U g mk q => by obtain ⟨q0, q1, qX, qK, qY1, qY2, qG⟩ := q; exact ⟨q0, mvz g mk a q1, qX, mvK g mk a qK, qY1, qY2, qG.same rfl rfl⟩, hLS.1.recv hLS.2.2.1, fun U hU hW => ⟨rfl, by rw [hU], by rw [hU]; exact hLS.1, va_K.moved hW.alike hLS.2.2.1, hLS.2.2.2.2.2.2.1, fun q hq hy => absurd (hLS.2.2.2.2.2.2.2.2 q hy) (Nat.not_lt.mpr hq), hGA.call hS hU hW (bl_in hLS.2.2.2.2.1 hS hA)⟩⟩ rfl rfl hl.1 rfl (lv_room (Nat.le_of_ble_eq_true rfl)) dL_law_948 ⟨by show _ ≤ 600000; omega, by show _ ≤ 7302250; omega⟩) hLS hS hA (fun r1_ u_ H locs X T hp1 hLS hS => ?_)
  obtain rfl := hp1
  have hLS : Lst dC dI ad bS Y s A h0 m0 ik vs kvs tl im vm kvm tm X T M T2 H := hLS
  refine lv_pop hx hb dL_law_951 rfl ?_
  refine lv_aload_n hx hb dL_law_952 rfl (lv_at hl 2 rfl) ?_
  refine lm_i (va_runV (As := []) (rest := []) ⟨hx, hb, hml, hown, hts⟩ (v_looked l dC dI sK sV im vm kvm tm T2 m0 M H.size) (cwV 0 hts gL_law_X12_looked rfl rfl rfl hd_yX12_looked ⟨Nat.le_of_ble_eq_true rfl, Nat.le_of_ble_eq_true rfl⟩) ⟨fun a U g mk q => by obtain ⟨q0, q1, qX, qK, qG⟩ := q; exact ⟨q0, mvz g mk a q1, qX, mvK g mk a qK, qG.same rfl rfl⟩, hLS.2.1.recv hLS.2.2.2.1, fun U hU hW => ⟨rfl, by rw [hU], by rw [hU]; exact hLS.2.1, va_K.moved hW.alike hLS.2.2.2.1, hGA.2.2.2.2.2.2.call hS hU hW (bl_in hLS.2.2.2.2.2.1 hS hA)⟩⟩ rfl rfl hl.1 rfl (lv_room (Nat.le_of_ble_eq_true rfl)) dL_law_953 ⟨by show _ ≤ 600000; omega, by show _ ≤ 7302250; omega⟩) hLS hS hA (fun r2_ u_ H locs M hp2 hLS hS => ?_)
  obtain rfl := hp2
  have hLS : Lst dC dI ad bS Y s A h0 m0 ik vs kvs tl im vm kvm tm X T M T2 H := hLS
  refine lv_pop hx hb dL_law_956 rfl ?_
  refine lv_goto (tgt := 1108) hx hb dL_law_957 (by decide) ?_
  refine W.widen (k := cells + 8) (n := slots + 200) (by omega) (by omega) ?_
  exact kk ik vs kvs tl im vm kvm tm X T M H locs hLS hcp hS
end mg22j
section mg22j
noncomputable def dk22pcase_cL_law_0 : List (Nat × List Nat) := [(960, [43]), (961, [42]), (962, [29]), (963, [4]), (964, [96]), (965, [46]), (966, [42]), (967, [29]), (968, [5]), (969, [96]), (970, [46]), (971, [42]), (972, [29]), (973, [6]), (974, [96]), (975, [46]), (976, [182, 0, 120]), (979, [87]), (980, [44]), (981, [42]), (982, [29]), (983, [4]), (984, [96]), (985, [46]), (986, [42]), (987, [29]), (988, [5]), (989, [96]), (990, [46]), (991, [42]), (992, [29]), (993, [6]), (994, [96]), (995, [46]), (996, [182, 0, 123]), (999, [87]), (1000, [167, 0, 108])]
set_option maxRecDepth 100000 in
theorem dk22pcase_cL_law_0_a : btA cL_law dk22pcase_cL_law_0 = true := by decide +kernel
theorem dL_law_960 : decode cL_law 960 = .ok (.aload_n 1, 1) := bd43 (btAt dk22pcase_cL_law_0_a 0 rfl)
theorem dL_law_961 : decode cL_law 961 = .ok (.aload_n 0, 1) := bd42 (btAt dk22pcase_cL_law_0_a 1 rfl)
theorem dL_law_962 : decode cL_law 962 = .ok (.iload_n 3, 1) := bd29 (btAt dk22pcase_cL_law_0_a 2 rfl)
theorem dL_law_963 : decode cL_law 963 = .ok (.iconst 1, 1) := bd4 (btAt dk22pcase_cL_law_0_a 3 rfl)
theorem dL_law_964 : decode cL_law 964 = .ok (.iadd, 1) := bd96 (btAt dk22pcase_cL_law_0_a 4 rfl)
theorem dL_law_965 : decode cL_law 965 = .ok (.iaload, 1) := bd46 (btAt dk22pcase_cL_law_0_a 5 rfl)
theorem dL_law_966 : decode cL_law 966 = .ok (.aload_n 0, 1) := bd42 (btAt dk22pcase_cL_law_0_a 6 rfl)
theorem dL_law_967 : decode cL_law 967 = .ok (.iload_n 3, 1) := bd29 (btAt dk22pcase_cL_law_0_a 7 rfl)
theorem dL_law_968 : decode cL_law 968 = .ok (.iconst 2, 1) := bd5 (btAt dk22pcase_cL_law_0_a 8 rfl)
theorem dL_law_969 : decode cL_law 969 = .ok (.iadd, 1) := bd96 (btAt dk22pcase_cL_law_0_a 9 rfl)
theorem dL_law_970 : decode cL_law 970 = .ok (.iaload, 1) := bd46 (btAt dk22pcase_cL_law_0_a 10 rfl)
theorem dL_law_971 : decode cL_law 971 = .ok (.aload_n 0, 1) := bd42 (btAt dk22pcase_cL_law_0_a 11 rfl)
theorem dL_law_972 : decode cL_law 972 = .ok (.iload_n 3, 1) := bd29 (btAt dk22pcase_cL_law_0_a 12 rfl)
theorem dL_law_973 : decode cL_law 973 = .ok (.iconst 3, 1) := bd6 (btAt dk22pcase_cL_law_0_a 13 rfl)
theorem dL_law_974 : decode cL_law 974 = .ok (.iadd, 1) := bd96 (btAt dk22pcase_cL_law_0_a 14 rfl)
theorem dL_law_975 : decode cL_law 975 = .ok (.iaload, 1) := bd46 (btAt dk22pcase_cL_law_0_a 15 rfl)
theorem dL_law_976 : decode cL_law 976 = .ok (.invokevirtual 120, 3) := bd182 (a := 0) (b := 120) (btAt dk22pcase_cL_law_0_a 16 rfl)
theorem dL_law_979 : decode cL_law 979 = .ok (.pop, 1) := bd87 (btAt dk22pcase_cL_law_0_a 17 rfl)
theorem dL_law_980 : decode cL_law 980 = .ok (.aload_n 2, 1) := bd44 (btAt dk22pcase_cL_law_0_a 18 rfl)
theorem dL_law_981 : decode cL_law 981 = .ok (.aload_n 0, 1) := bd42 (btAt dk22pcase_cL_law_0_a 19 rfl)
theorem dL_law_982 : decode cL_law 982 = .ok (.iload_n 3, 1) := bd29 (btAt dk22pcase_cL_law_0_a 20 rfl)
theorem dL_law_983 : decode cL_law 983 = .ok (.iconst 1, 1) := bd4 (btAt dk22pcase_cL_law_0_a 21 rfl)
theorem dL_law_984 : decode cL_law 984 = .ok (.iadd, 1) := bd96 (btAt dk22pcase_cL_law_0_a 22 rfl)
theorem dL_law_985 : decode cL_law 985 = .ok (.iaload, 1) := bd46 (btAt dk22pcase_cL_law_0_a 23 rfl)
theorem dL_law_986 : decode cL_law 986 = .ok (.aload_n 0, 1) := bd42 (btAt dk22pcase_cL_law_0_a 24 rfl)
theorem dL_law_987 : decode cL_law 987 = .ok (.iload_n 3, 1) := bd29 (btAt dk22pcase_cL_law_0_a 25 rfl)
theorem dL_law_988 : decode cL_law 988 = .ok (.iconst 2, 1) := bd5 (btAt dk22pcase_cL_law_0_a 26 rfl)
theorem dL_law_989 : decode cL_law 989 = .ok (.iadd, 1) := bd96 (btAt dk22pcase_cL_law_0_a 27 rfl)
theorem dL_law_990 : decode cL_law 990 = .ok (.iaload, 1) := bd46 (btAt dk22pcase_cL_law_0_a 28 rfl)
theorem dL_law_991 : decode cL_law 991 = .ok (.aload_n 0, 1) := bd42 (btAt dk22pcase_cL_law_0_a 29 rfl)
theorem dL_law_992 : decode cL_law 992 = .ok (.iload_n 3, 1) := bd29 (btAt dk22pcase_cL_law_0_a 30 rfl)
theorem dL_law_993 : decode cL_law 993 = .ok (.iconst 3, 1) := bd6 (btAt dk22pcase_cL_law_0_a 31 rfl)
theorem dL_law_994 : decode cL_law 994 = .ok (.iadd, 1) := bd96 (btAt dk22pcase_cL_law_0_a 32 rfl)
theorem dL_law_995 : decode cL_law 995 = .ok (.iaload, 1) := bd46 (btAt dk22pcase_cL_law_0_a 33 rfl)
theorem dL_law_996 : decode cL_law 996 = .ok (.invokevirtual 123, 3) := bd182 (a := 0) (b := 123) (btAt dk22pcase_cL_law_0_a 34 rfl)
theorem dL_law_999 : decode cL_law 999 = .ok (.pop, 1) := bd87 (btAt dk22pcase_cL_law_0_a 35 rfl)
theorem dL_law_1000 : decode cL_law 1000 = .ok (.goto 108, 3) := bd167 (a := 0) (b := 108) (btAt dk22pcase_cL_law_0_a 36 rfl)
set_option maxHeartbeats 4000000 in
set_option maxRecDepth 100000 in
theorem lc_24 {p : Program} {l : Launch} {e : Env} {s : State} {m : MethodId} {below : List Frame} {meth : Method} {c : Code} {b L : Nat} {xs : Nat → Int32} {A : Nat → Prop} (hAe : A = fun q => s.heap.size ≤ q) (C0 : lw_At p s m meth c b L xs) (dC : Nat → ClassId) (dI : Nat → Nat → Nat) (gd : Nat → Nat) (kA : Nat) (ad : Nat → Nat) (cB bS : Nat) (sK sV : Nat → Nat) (Y : Nat → Prop) (h0 m0 : Nat) (ik : Int32) (vs kvs : VS) (tl : List Nat) (im : Int32) (vm kvm : VS) (tm : List Nat) (X : va_W) (T : List (ClassId × FieldType)) (M : va_W) (T2 : List (ClassId × FieldType)) (hGA : GA gd kA ad cB bS sK sV A s) (i : Nat) (hi : i + 5 ≤ L) (hL : L ≤ 320) (H : Heap) (locs : List Loc) (hLS : Lst dC dI ad bS Y s A h0 m0 ik vs kvs tl im vm kvm tm X T M T2 H) (cells slots : Nat) (hc0 : cells ≤ 590000) (hs0 : slots ≤ 7000000) (hS : va_S A s.heap H locs) (ls : Array Slot) (hl : lv_has ls 4 [(0, .ref b), (1, .ref h0), (2, .ref m0), (3, .int (nI i))]) (hcp : ik = im ∧ vs = vm ∧ (im = 0 ∨ kvs = kvm) ∧ tl = tm) (kk : ∀ (ik : Int32) (vs kvs : VS) (tl : List Nat) (im : Int32) (vm kvm : VS) (tm : List Nat) (X : va_W) (T : List (ClassId × FieldType)) (M : va_W) (H : Heap) (locs : List Loc), Lst dC dI ad bS Y s A h0 m0 ik vs kvs tl im vm kvm tm X T M T2 H → (ik = im ∧ vs = vm ∧ (im = 0 ∨ kvs = kvm) ∧ tl = tm) → va_S A s.heap H locs → W p l e room_1 s m #[Value.ref b] below meth c H locs (cells + 8) (slots + 200) (lw_Z below #[Value.ref b] s) (F0 m 1108 ls [])) : W p l e room_1 s m #[Value.ref b] below meth c H locs cells slots (lw_Z below #[Value.ref b] s) (F0 m 960 ls []) := by
  obtain ⟨hx, hb, hr, hml, hown, hts0, hX, hbl, hlocks, hgv⟩ := id C0
  have hown : s.vm.findClass RL = some m.cls := hown
  have hb : c.code = cL_law := hb
  have hts : ∀ w ∈ lw_tbl, w.before #[Value.ref b] s = true := fun w h => hts0 w (wsL_law_in w h)
  have hA : ∀ q : Nat, s.heap.size ≤ q → A q := fun q h => by rw [hAe]; exact h
  have hbA : ¬ A b := by rw [hAe]; exact Nat.not_le.mpr hbl
  refine lv_aload_n hx hb dL_law_960 rfl (lv_at hl 1 rfl) ?_
  refine lv_aload_n hx hb dL_law_961 rfl (lv_at hl 0 rfl) ?_
  refine lv_iload_n hx hb dL_law_962 rfl (lv_at hl 3 rfl) ?_
  refine lv_iconst (v := 1) hx hb dL_law_963 (by decide) ?_
  refine lv_iadd hx hb dL_law_964 ?_
  refine qi_as (y := nI (i + 1)) (nI_add i 1) ?_
  refine va_sld hx hb hX hbl hbA hS (vp_in_nI (n := i + 1) (N := L) (by omega) (by omega)) dL_law_965 ?_
  refine qi_as (y := xs (i + 1)) (by rw [nI_clamp (by omega)]) ?_
  refine lv_aload_n hx hb dL_law_966 rfl (lv_at hl 0 rfl) ?_
  refine lv_iload_n hx hb dL_law_967 rfl (lv_at hl 3 rfl) ?_
  refine lv_iconst (v := 2) hx hb dL_law_968 (by decide) ?_
  refine lv_iadd hx hb dL_law_969 ?_
  refine qi_as (y := nI (i + 2)) (nI_add i 2) ?_
  refine va_sld hx hb hX hbl hbA hS (vp_in_nI (n := i + 2) (N := L) (by omega) (by omega)) dL_law_970 ?_
  refine qi_as (y := xs (i + 2)) (by rw [nI_clamp (by omega)]) ?_
  refine lv_aload_n hx hb dL_law_971 rfl (lv_at hl 0 rfl) ?_
  refine lv_iload_n hx hb dL_law_972 rfl (lv_at hl 3 rfl) ?_
  refine lv_iconst (v := 3) hx hb dL_law_973 (by decide) ?_
  refine lv_iadd hx hb dL_law_974 ?_
  refine qi_as (y := nI (i + 3)) (nI_add i 3) ?_
  refine va_sld hx hb hX hbl hbA hS (vp_in_nI (n := i + 3) (N := L) (by omega) (by omega)) dL_law_975 ?_
  refine qi_as (y := xs (i + 3)) (by rw [nI_clamp (by omega)]) ?_
  refine lx_i (va_runV (As := [.int (xs (i + 1)), .int (xs (i + 2)), .int (xs (i + 3))]) (rest := []) ⟨hx, hb, hml, hown, hts⟩ (w_act l dC dI gd kA ad cB bS sK sV Y ik vs kvs tl T h0 X (xs (i + 1)) (xs (i + 2)) (xs (i + 3)) H.size) (cwV 3 hts gL_law_X11_act rfl rfl rfl hd_yX11_act ⟨Nat.le_of_ble_eq_true rfl, Nat.le_of_ble_eq_true rfl⟩) ⟨fun a U g mk q => by obtain ⟨q0, q1, qX, qK, qY1, qY2, qG⟩ := q; exact ⟨q0, mvz g mk a q1, qX, mvK g mk a qK, qY1, qY2, qG.same rfl rfl⟩, hLS.1.recv hLS.2.2.1, fun U hU hW => ⟨rfl, by rw [hU], by rw [hU]; exact hLS.1, va_K.moved hW.alike hLS.2.2.1, hLS.2.2.2.2.2.2.1, fun q hq hy => absurd (hLS.2.2.2.2.2.2.2.2 q hy) (Nat.not_lt.mpr hq), hGA.call hS hU hW (bl_in hLS.2.2.2.2.1 hS hA)⟩⟩ rfl rfl hl.1 rfl (lv_room (Nat.le_of_ble_eq_true rfl)) dL_law_976 ⟨by show _ ≤ 600000; omega, by show _ ≤ 7302250; omega⟩) hLS hS hA (fun r1_ u_ H locs X T hp1 hLS hS => ?_)
  obtain ⟨e1_, rfl⟩ := hp1
  have hLS : Lst dC dI ad bS Y s A h0 m0 ik vs kvs (acT vs.1 vs.2.2.2.2.2.1 (xs (i + 1)) (xs (i + 2))) im vm kvm tm X T M T2 H := hLS
  refine lv_pop hx hb dL_law_979 rfl ?_
  refine lv_aload_n hx hb dL_law_980 rfl (lv_at hl 2 rfl) ?_
  refine lv_aload_n hx hb dL_law_981 rfl (lv_at hl 0 rfl) ?_
  refine lv_iload_n hx hb dL_law_982 rfl (lv_at hl 3 rfl) ?_
  refine lv_iconst (v := 1) hx hb dL_law_983 (by decide) ?_
  refine lv_iadd hx hb dL_law_984 ?_
  refine qi_as (y := nI (i + 1)) (nI_add i 1) ?_
  refine va_sld hx hb hX hbl hbA hS (vp_in_nI (n := i + 1) (N := L) (by omega) (by omega)) dL_law_985 ?_
  refine qi_as (y := xs (i + 1)) (by rw [nI_clamp (by omega)]) ?_
  refine lv_aload_n hx hb dL_law_986 rfl (lv_at hl 0 rfl) ?_
  refine lv_iload_n hx hb dL_law_987 rfl (lv_at hl 3 rfl) ?_
  refine lv_iconst (v := 2) hx hb dL_law_988 (by decide) ?_
  refine lv_iadd hx hb dL_law_989 ?_
  refine qi_as (y := nI (i + 2)) (nI_add i 2) ?_
  refine va_sld hx hb hX hbl hbA hS (vp_in_nI (n := i + 2) (N := L) (by omega) (by omega)) dL_law_990 ?_
  refine qi_as (y := xs (i + 2)) (by rw [nI_clamp (by omega)]) ?_
  refine lv_aload_n hx hb dL_law_991 rfl (lv_at hl 0 rfl) ?_
  refine lv_iload_n hx hb dL_law_992 rfl (lv_at hl 3 rfl) ?_
  refine lv_iconst (v := 3) hx hb dL_law_993 (by decide) ?_
  refine lv_iadd hx hb dL_law_994 ?_
  refine qi_as (y := nI (i + 3)) (nI_add i 3) ?_
  refine va_sld hx hb hX hbl hbA hS (vp_in_nI (n := i + 3) (N := L) (by omega) (by omega)) dL_law_995 ?_
  refine qi_as (y := xs (i + 3)) (by rw [nI_clamp (by omega)]) ?_
  refine lm_i (va_runV (As := [.int (xs (i + 1)), .int (xs (i + 2)), .int (xs (i + 3))]) (rest := []) ⟨hx, hb, hml, hown, hts⟩ (v_act l dC dI sK sV im vm kvm tm T2 m0 M (xs (i + 1)) (xs (i + 2)) (xs (i + 3)) H.size) (cwV 3 hts gL_law_X12_act rfl rfl rfl hd_yX12_act ⟨Nat.le_of_ble_eq_true rfl, Nat.le_of_ble_eq_true rfl⟩) ⟨fun a U g mk q => by obtain ⟨q0, q1, qX, qK, qG⟩ := q; exact ⟨q0, mvz g mk a q1, qX, mvK g mk a qK, qG.same rfl rfl⟩, hLS.2.1.recv hLS.2.2.2.1, fun U hU hW => ⟨rfl, by rw [hU], by rw [hU]; exact hLS.2.1, va_K.moved hW.alike hLS.2.2.2.1, hGA.2.2.2.2.2.2.call hS hU hW (bl_in hLS.2.2.2.2.2.1 hS hA)⟩⟩ rfl rfl hl.1 rfl (lv_room (Nat.le_of_ble_eq_true rfl)) dL_law_996 ⟨by show _ ≤ 600000; omega, by show _ ≤ 7302250; omega⟩) hLS hS hA (fun r2_ u_ H locs M hp2 hLS hS => ?_)
  obtain ⟨e2_, rfl⟩ := hp2
  have hLS : Lst dC dI ad bS Y s A h0 m0 ik vs kvs (acT vs.1 vs.2.2.2.2.2.1 (xs (i + 1)) (xs (i + 2))) im vm kvm (acT vm.1 vm.2.2.2.2.2.1 (xs (i + 1)) (xs (i + 2))) X T M T2 H := hLS
  refine lv_pop hx hb dL_law_999 rfl ?_
  refine lv_goto (tgt := 1108) hx hb dL_law_1000 (by decide) ?_
  refine W.widen (k := cells + 8) (n := slots + 200) (by omega) (by omega) ?_
  exact kk ik vs kvs (acT vs.1 vs.2.2.2.2.2.1 (xs (i + 1)) (xs (i + 2))) im vm kvm (acT vm.1 vm.2.2.2.2.2.1 (xs (i + 1)) (xs (i + 2))) X T M H locs hLS ⟨hcp.1, hcp.2.1, hcp.2.2.1, by rw [hcp.2.1]⟩ hS
end mg22j
section mg22j
noncomputable def dk22qcase_cL_law_0 : List (Nat × List Nat) := [(1003, [43]), (1004, [42]), (1005, [29]), (1006, [4]), (1007, [96]), (1008, [46]), (1009, [182, 0, 124]), (1012, [87]), (1013, [44]), (1014, [42]), (1015, [29]), (1016, [4]), (1017, [96]), (1018, [46]), (1019, [182, 0, 127]), (1022, [87]), (1023, [167, 0, 85]), (1026, [43]), (1027, [42]), (1028, [29]), (1029, [4]), (1030, [96]), (1031, [46]), (1032, [42]), (1033, [29]), (1034, [5]), (1035, [96]), (1036, [46]), (1037, [182, 0, 128]), (1040, [87]), (1041, [44]), (1042, [42]), (1043, [29]), (1044, [4]), (1045, [96]), (1046, [46]), (1047, [42]), (1048, [29]), (1049, [5]), (1050, [96])]
set_option maxRecDepth 100000 in
theorem dk22qcase_cL_law_0_a : btA cL_law dk22qcase_cL_law_0 = true := by decide +kernel
theorem dL_law_1003 : decode cL_law 1003 = .ok (.aload_n 1, 1) := bd43 (btAt dk22qcase_cL_law_0_a 0 rfl)
theorem dL_law_1004 : decode cL_law 1004 = .ok (.aload_n 0, 1) := bd42 (btAt dk22qcase_cL_law_0_a 1 rfl)
theorem dL_law_1005 : decode cL_law 1005 = .ok (.iload_n 3, 1) := bd29 (btAt dk22qcase_cL_law_0_a 2 rfl)
theorem dL_law_1006 : decode cL_law 1006 = .ok (.iconst 1, 1) := bd4 (btAt dk22qcase_cL_law_0_a 3 rfl)
theorem dL_law_1007 : decode cL_law 1007 = .ok (.iadd, 1) := bd96 (btAt dk22qcase_cL_law_0_a 4 rfl)
theorem dL_law_1008 : decode cL_law 1008 = .ok (.iaload, 1) := bd46 (btAt dk22qcase_cL_law_0_a 5 rfl)
theorem dL_law_1009 : decode cL_law 1009 = .ok (.invokevirtual 124, 3) := bd182 (a := 0) (b := 124) (btAt dk22qcase_cL_law_0_a 6 rfl)
theorem dL_law_1012 : decode cL_law 1012 = .ok (.pop, 1) := bd87 (btAt dk22qcase_cL_law_0_a 7 rfl)
theorem dL_law_1013 : decode cL_law 1013 = .ok (.aload_n 2, 1) := bd44 (btAt dk22qcase_cL_law_0_a 8 rfl)
theorem dL_law_1014 : decode cL_law 1014 = .ok (.aload_n 0, 1) := bd42 (btAt dk22qcase_cL_law_0_a 9 rfl)
theorem dL_law_1015 : decode cL_law 1015 = .ok (.iload_n 3, 1) := bd29 (btAt dk22qcase_cL_law_0_a 10 rfl)
theorem dL_law_1016 : decode cL_law 1016 = .ok (.iconst 1, 1) := bd4 (btAt dk22qcase_cL_law_0_a 11 rfl)
theorem dL_law_1017 : decode cL_law 1017 = .ok (.iadd, 1) := bd96 (btAt dk22qcase_cL_law_0_a 12 rfl)
theorem dL_law_1018 : decode cL_law 1018 = .ok (.iaload, 1) := bd46 (btAt dk22qcase_cL_law_0_a 13 rfl)
theorem dL_law_1019 : decode cL_law 1019 = .ok (.invokevirtual 127, 3) := bd182 (a := 0) (b := 127) (btAt dk22qcase_cL_law_0_a 14 rfl)
theorem dL_law_1022 : decode cL_law 1022 = .ok (.pop, 1) := bd87 (btAt dk22qcase_cL_law_0_a 15 rfl)
theorem dL_law_1023 : decode cL_law 1023 = .ok (.goto 85, 3) := bd167 (a := 0) (b := 85) (btAt dk22qcase_cL_law_0_a 16 rfl)
theorem dL_law_1026 : decode cL_law 1026 = .ok (.aload_n 1, 1) := bd43 (btAt dk22qcase_cL_law_0_a 17 rfl)
theorem dL_law_1027 : decode cL_law 1027 = .ok (.aload_n 0, 1) := bd42 (btAt dk22qcase_cL_law_0_a 18 rfl)
theorem dL_law_1028 : decode cL_law 1028 = .ok (.iload_n 3, 1) := bd29 (btAt dk22qcase_cL_law_0_a 19 rfl)
theorem dL_law_1029 : decode cL_law 1029 = .ok (.iconst 1, 1) := bd4 (btAt dk22qcase_cL_law_0_a 20 rfl)
theorem dL_law_1030 : decode cL_law 1030 = .ok (.iadd, 1) := bd96 (btAt dk22qcase_cL_law_0_a 21 rfl)
theorem dL_law_1031 : decode cL_law 1031 = .ok (.iaload, 1) := bd46 (btAt dk22qcase_cL_law_0_a 22 rfl)
theorem dL_law_1032 : decode cL_law 1032 = .ok (.aload_n 0, 1) := bd42 (btAt dk22qcase_cL_law_0_a 23 rfl)
theorem dL_law_1033 : decode cL_law 1033 = .ok (.iload_n 3, 1) := bd29 (btAt dk22qcase_cL_law_0_a 24 rfl)
theorem dL_law_1034 : decode cL_law 1034 = .ok (.iconst 2, 1) := bd5 (btAt dk22qcase_cL_law_0_a 25 rfl)
theorem dL_law_1035 : decode cL_law 1035 = .ok (.iadd, 1) := bd96 (btAt dk22qcase_cL_law_0_a 26 rfl)
theorem dL_law_1036 : decode cL_law 1036 = .ok (.iaload, 1) := bd46 (btAt dk22qcase_cL_law_0_a 27 rfl)
theorem dL_law_1037 : decode cL_law 1037 = .ok (.invokevirtual 128, 3) := bd182 (a := 0) (b := 128) (btAt dk22qcase_cL_law_0_a 28 rfl)
theorem dL_law_1040 : decode cL_law 1040 = .ok (.pop, 1) := bd87 (btAt dk22qcase_cL_law_0_a 29 rfl)
theorem dL_law_1041 : decode cL_law 1041 = .ok (.aload_n 2, 1) := bd44 (btAt dk22qcase_cL_law_0_a 30 rfl)
theorem dL_law_1042 : decode cL_law 1042 = .ok (.aload_n 0, 1) := bd42 (btAt dk22qcase_cL_law_0_a 31 rfl)
theorem dL_law_1043 : decode cL_law 1043 = .ok (.iload_n 3, 1) := bd29 (btAt dk22qcase_cL_law_0_a 32 rfl)
theorem dL_law_1044 : decode cL_law 1044 = .ok (.iconst 1, 1) := bd4 (btAt dk22qcase_cL_law_0_a 33 rfl)
theorem dL_law_1045 : decode cL_law 1045 = .ok (.iadd, 1) := bd96 (btAt dk22qcase_cL_law_0_a 34 rfl)
theorem dL_law_1046 : decode cL_law 1046 = .ok (.iaload, 1) := bd46 (btAt dk22qcase_cL_law_0_a 35 rfl)
theorem dL_law_1047 : decode cL_law 1047 = .ok (.aload_n 0, 1) := bd42 (btAt dk22qcase_cL_law_0_a 36 rfl)
theorem dL_law_1048 : decode cL_law 1048 = .ok (.iload_n 3, 1) := bd29 (btAt dk22qcase_cL_law_0_a 37 rfl)
theorem dL_law_1049 : decode cL_law 1049 = .ok (.iconst 2, 1) := bd5 (btAt dk22qcase_cL_law_0_a 38 rfl)
theorem dL_law_1050 : decode cL_law 1050 = .ok (.iadd, 1) := bd96 (btAt dk22qcase_cL_law_0_a 39 rfl)
noncomputable def dk22qcase_cL_law_40 : List (Nat × List Nat) := [(1051, [46]), (1052, [182, 0, 131]), (1055, [87]), (1056, [167, 0, 52]), (1059, [43]), (1060, [182, 0, 132]), (1063, [87]), (1064, [44]), (1065, [182, 0, 135]), (1068, [87]), (1069, [167, 0, 39])]
set_option maxRecDepth 100000 in
theorem dk22qcase_cL_law_40_a : btA cL_law dk22qcase_cL_law_40 = true := by decide +kernel
theorem dL_law_1051 : decode cL_law 1051 = .ok (.iaload, 1) := bd46 (btAt dk22qcase_cL_law_40_a 0 rfl)
theorem dL_law_1052 : decode cL_law 1052 = .ok (.invokevirtual 131, 3) := bd182 (a := 0) (b := 131) (btAt dk22qcase_cL_law_40_a 1 rfl)
theorem dL_law_1055 : decode cL_law 1055 = .ok (.pop, 1) := bd87 (btAt dk22qcase_cL_law_40_a 2 rfl)
theorem dL_law_1056 : decode cL_law 1056 = .ok (.goto 52, 3) := bd167 (a := 0) (b := 52) (btAt dk22qcase_cL_law_40_a 3 rfl)
theorem dL_law_1059 : decode cL_law 1059 = .ok (.aload_n 1, 1) := bd43 (btAt dk22qcase_cL_law_40_a 4 rfl)
theorem dL_law_1060 : decode cL_law 1060 = .ok (.invokevirtual 132, 3) := bd182 (a := 0) (b := 132) (btAt dk22qcase_cL_law_40_a 5 rfl)
theorem dL_law_1063 : decode cL_law 1063 = .ok (.pop, 1) := bd87 (btAt dk22qcase_cL_law_40_a 6 rfl)
theorem dL_law_1064 : decode cL_law 1064 = .ok (.aload_n 2, 1) := bd44 (btAt dk22qcase_cL_law_40_a 7 rfl)
theorem dL_law_1065 : decode cL_law 1065 = .ok (.invokevirtual 135, 3) := bd182 (a := 0) (b := 135) (btAt dk22qcase_cL_law_40_a 8 rfl)
theorem dL_law_1068 : decode cL_law 1068 = .ok (.pop, 1) := bd87 (btAt dk22qcase_cL_law_40_a 9 rfl)
theorem dL_law_1069 : decode cL_law 1069 = .ok (.goto 39, 3) := bd167 (a := 0) (b := 39) (btAt dk22qcase_cL_law_40_a 10 rfl)
set_option maxHeartbeats 4000000 in
set_option maxRecDepth 100000 in
theorem lc_25 {p : Program} {l : Launch} {e : Env} {s : State} {m : MethodId} {below : List Frame} {meth : Method} {c : Code} {b L : Nat} {xs : Nat → Int32} {A : Nat → Prop} (hAe : A = fun q => s.heap.size ≤ q) (C0 : lw_At p s m meth c b L xs) (dC : Nat → ClassId) (dI : Nat → Nat → Nat) (gd : Nat → Nat) (kA : Nat) (ad : Nat → Nat) (cB bS : Nat) (sK sV : Nat → Nat) (Y : Nat → Prop) (h0 m0 : Nat) (ik : Int32) (vs kvs : VS) (tl : List Nat) (im : Int32) (vm kvm : VS) (tm : List Nat) (X : va_W) (T : List (ClassId × FieldType)) (M : va_W) (T2 : List (ClassId × FieldType)) (hGA : GA gd kA ad cB bS sK sV A s) (i : Nat) (hi : i + 5 ≤ L) (hL : L ≤ 320) (H : Heap) (locs : List Loc) (hLS : Lst dC dI ad bS Y s A h0 m0 ik vs kvs tl im vm kvm tm X T M T2 H) (cells slots : Nat) (hc0 : cells ≤ 590000) (hs0 : slots ≤ 7000000) (hS : va_S A s.heap H locs) (ls : Array Slot) (hl : lv_has ls 4 [(0, .ref b), (1, .ref h0), (2, .ref m0), (3, .int (nI i))]) (hcp : ik = im ∧ vs = vm ∧ (im = 0 ∨ kvs = kvm) ∧ tl = tm) (kk : ∀ (ik : Int32) (vs kvs : VS) (tl : List Nat) (im : Int32) (vm kvm : VS) (tm : List Nat) (X : va_W) (T : List (ClassId × FieldType)) (M : va_W) (H : Heap) (locs : List Loc), Lst dC dI ad bS Y s A h0 m0 ik vs kvs tl im vm kvm tm X T M T2 H → (ik = im ∧ vs = vm ∧ (im = 0 ∨ kvs = kvm) ∧ tl = tm) → va_S A s.heap H locs → W p l e room_1 s m #[Value.ref b] below meth c H locs (cells + 8) (slots + 200) (lw_Z below #[Value.ref b] s) (F0 m 1108 ls [])) : W p l e room_1 s m #[Value.ref b] below meth c H locs cells slots (lw_Z below #[Value.ref b] s) (F0 m 1003 ls []) := by
  obtain ⟨hx, hb, hr, hml, hown, hts0, hX, hbl, hlocks, hgv⟩ := id C0
  have hown : s.vm.findClass RL = some m.cls := hown
  have hb : c.code = cL_law := hb
  have hts : ∀ w ∈ lw_tbl, w.before #[Value.ref b] s = true := fun w h => hts0 w (wsL_law_in w h)
  have hA : ∀ q : Nat, s.heap.size ≤ q → A q := fun q h => by rw [hAe]; exact h
  have hbA : ¬ A b := by rw [hAe]; exact Nat.not_le.mpr hbl
  refine lv_aload_n hx hb dL_law_1003 rfl (lv_at hl 1 rfl) ?_
  refine lv_aload_n hx hb dL_law_1004 rfl (lv_at hl 0 rfl) ?_
  refine lv_iload_n hx hb dL_law_1005 rfl (lv_at hl 3 rfl) ?_
  refine lv_iconst (v := 1) hx hb dL_law_1006 (by decide) ?_
  refine lv_iadd hx hb dL_law_1007 ?_
  refine qi_as (y := nI (i + 1)) (nI_add i 1) ?_
  refine va_sld hx hb hX hbl hbA hS (vp_in_nI (n := i + 1) (N := L) (by omega) (by omega)) dL_law_1008 ?_
  refine qi_as (y := xs (i + 1)) (by rw [nI_clamp (by omega)]) ?_
  refine lx_i (va_runV (As := [.int (xs (i + 1))]) (rest := []) ⟨hx, hb, hml, hown, hts⟩ (w_trace l dC dI gd kA ad cB bS sK sV Y ik vs kvs tl T h0 X (xs (i + 1)) H.size) (cwV 1 hts gL_law_X11_trace rfl rfl rfl hd_yX11_trace ⟨Nat.le_of_ble_eq_true rfl, Nat.le_of_ble_eq_true rfl⟩) ⟨fun a U g mk q => by obtain ⟨q0, q1, qX, qK, qY1, qY2, qG⟩ := q; exact ⟨q0, mvz g mk a q1, qX, mvK g mk a qK, qY1, qY2, qG.same rfl rfl⟩, hLS.1.recv hLS.2.2.1, fun U hU hW => ⟨rfl, by rw [hU], by rw [hU]; exact hLS.1, va_K.moved hW.alike hLS.2.2.1, hLS.2.2.2.2.2.2.1, fun q hq hy => absurd (hLS.2.2.2.2.2.2.2.2 q hy) (Nat.not_lt.mpr hq), hGA.call hS hU hW (bl_in hLS.2.2.2.2.1 hS hA)⟩⟩ rfl rfl hl.1 rfl (lv_room (Nat.le_of_ble_eq_true rfl)) dL_law_1009 ⟨by show _ ≤ 600000; omega, by show _ ≤ 7302250; omega⟩) hLS hS hA (fun r1_ u_ H locs X T hp1 hLS hS => ?_)
  obtain ⟨e1_, rfl⟩ := hp1
  have hLS : Lst dC dI ad bS Y s A h0 m0 ik vs kvs tl im vm kvm tm X T M T2 H := hLS
  refine lv_pop hx hb dL_law_1012 rfl ?_
  refine lv_aload_n hx hb dL_law_1013 rfl (lv_at hl 2 rfl) ?_
  refine lv_aload_n hx hb dL_law_1014 rfl (lv_at hl 0 rfl) ?_
  refine lv_iload_n hx hb dL_law_1015 rfl (lv_at hl 3 rfl) ?_
  refine lv_iconst (v := 1) hx hb dL_law_1016 (by decide) ?_
  refine lv_iadd hx hb dL_law_1017 ?_
  refine qi_as (y := nI (i + 1)) (nI_add i 1) ?_
  refine va_sld hx hb hX hbl hbA hS (vp_in_nI (n := i + 1) (N := L) (by omega) (by omega)) dL_law_1018 ?_
  refine qi_as (y := xs (i + 1)) (by rw [nI_clamp (by omega)]) ?_
  refine lm_i (va_runV (As := [.int (xs (i + 1))]) (rest := []) ⟨hx, hb, hml, hown, hts⟩ (v_trace l dC dI sK sV im vm kvm tm T2 m0 M (xs (i + 1)) H.size) (cwV 1 hts gL_law_X12_trace rfl rfl rfl hd_yX12_trace ⟨Nat.le_of_ble_eq_true rfl, Nat.le_of_ble_eq_true rfl⟩) ⟨fun a U g mk q => by obtain ⟨q0, q1, qX, qK, qG⟩ := q; exact ⟨q0, mvz g mk a q1, qX, mvK g mk a qK, qG.same rfl rfl⟩, hLS.2.1.recv hLS.2.2.2.1, fun U hU hW => ⟨rfl, by rw [hU], by rw [hU]; exact hLS.2.1, va_K.moved hW.alike hLS.2.2.2.1, hGA.2.2.2.2.2.2.call hS hU hW (bl_in hLS.2.2.2.2.2.1 hS hA)⟩⟩ rfl rfl hl.1 rfl (lv_room (Nat.le_of_ble_eq_true rfl)) dL_law_1019 ⟨by show _ ≤ 600000; omega, by show _ ≤ 7302250; omega⟩) hLS hS hA (fun r2_ u_ H locs M hp2 hLS hS => ?_)
  obtain ⟨e2_, rfl⟩ := hp2
  have hLS : Lst dC dI ad bS Y s A h0 m0 ik vs kvs tl im vm kvm tm X T M T2 H := hLS
  refine lv_pop hx hb dL_law_1022 rfl ?_
  refine lv_goto (tgt := 1108) hx hb dL_law_1023 (by decide) ?_
  refine W.widen (k := cells + 8) (n := slots + 200) (by omega) (by omega) ?_
  exact kk ik vs kvs tl im vm kvm tm X T M H locs hLS ⟨hcp.1, by rw [hcp.2.1], hcp.2.2⟩ hS

set_option maxHeartbeats 4000000 in
set_option maxRecDepth 100000 in
theorem lc_26 {p : Program} {l : Launch} {e : Env} {s : State} {m : MethodId} {below : List Frame} {meth : Method} {c : Code} {b L : Nat} {xs : Nat → Int32} {A : Nat → Prop} (hAe : A = fun q => s.heap.size ≤ q) (C0 : lw_At p s m meth c b L xs) (dC : Nat → ClassId) (dI : Nat → Nat → Nat) (gd : Nat → Nat) (kA : Nat) (ad : Nat → Nat) (cB bS : Nat) (sK sV : Nat → Nat) (Y : Nat → Prop) (h0 m0 : Nat) (ik : Int32) (vs kvs : VS) (tl : List Nat) (im : Int32) (vm kvm : VS) (tm : List Nat) (X : va_W) (T : List (ClassId × FieldType)) (M : va_W) (T2 : List (ClassId × FieldType)) (hGA : GA gd kA ad cB bS sK sV A s) (i : Nat) (hi : i + 5 ≤ L) (hL : L ≤ 320) (H : Heap) (locs : List Loc) (hLS : Lst dC dI ad bS Y s A h0 m0 ik vs kvs tl im vm kvm tm X T M T2 H) (cells slots : Nat) (hc0 : cells ≤ 590000) (hs0 : slots ≤ 7000000) (hS : va_S A s.heap H locs) (ls : Array Slot) (hl : lv_has ls 4 [(0, .ref b), (1, .ref h0), (2, .ref m0), (3, .int (nI i))]) (hcp : ik = im ∧ vs = vm ∧ (im = 0 ∨ kvs = kvm) ∧ tl = tm) (kk : ∀ (ik : Int32) (vs kvs : VS) (tl : List Nat) (im : Int32) (vm kvm : VS) (tm : List Nat) (X : va_W) (T : List (ClassId × FieldType)) (M : va_W) (H : Heap) (locs : List Loc), Lst dC dI ad bS Y s A h0 m0 ik vs kvs tl im vm kvm tm X T M T2 H → (ik = im ∧ vs = vm ∧ (im = 0 ∨ kvs = kvm) ∧ tl = tm) → va_S A s.heap H locs → W p l e room_1 s m #[Value.ref b] below meth c H locs (cells + 8) (slots + 200) (lw_Z below #[Value.ref b] s) (F0 m 1108 ls [])) : W p l e room_1 s m #[Value.ref b] below meth c H locs cells slots (lw_Z below #[Value.ref b] s) (F0 m 1026 ls []) := by
  obtain ⟨hx, hb, hr, hml, hown, hts0, hX, hbl, hlocks, hgv⟩ := id C0
  have hown : s.vm.findClass RL = some m.cls := hown
  have hb : c.code = cL_law := hb
  have hts : ∀ w ∈ lw_tbl, w.before #[Value.ref b] s = true := fun w h => hts0 w (wsL_law_in w h)
  have hA : ∀ q : Nat, s.heap.size ≤ q → A q := fun q h => by rw [hAe]; exact h
  have hbA : ¬ A b := by rw [hAe]; exact Nat.not_le.mpr hbl
  refine lv_aload_n hx hb dL_law_1026 rfl (lv_at hl 1 rfl) ?_
  refine lv_aload_n hx hb dL_law_1027 rfl (lv_at hl 0 rfl) ?_
  refine lv_iload_n hx hb dL_law_1028 rfl (lv_at hl 3 rfl) ?_
  refine lv_iconst (v := 1) hx hb dL_law_1029 (by decide) ?_
  refine lv_iadd hx hb dL_law_1030 ?_
  refine qi_as (y := nI (i + 1)) (nI_add i 1) ?_
  refine va_sld hx hb hX hbl hbA hS (vp_in_nI (n := i + 1) (N := L) (by omega) (by omega)) dL_law_1031 ?_
  refine qi_as (y := xs (i + 1)) (by rw [nI_clamp (by omega)]) ?_
  refine lv_aload_n hx hb dL_law_1032 rfl (lv_at hl 0 rfl) ?_
  refine lv_iload_n hx hb dL_law_1033 rfl (lv_at hl 3 rfl) ?_
  refine lv_iconst (v := 2) hx hb dL_law_1034 (by decide) ?_
  refine lv_iadd hx hb dL_law_1035 ?_
  refine qi_as (y := nI (i + 2)) (nI_add i 2) ?_
  refine va_sld hx hb hX hbl hbA hS (vp_in_nI (n := i + 2) (N := L) (by omega) (by omega)) dL_law_1036 ?_
  refine qi_as (y := xs (i + 2)) (by rw [nI_clamp (by omega)]) ?_
  refine lx_i (va_runV (As := [.int (xs (i + 1)), .int (xs (i + 2))]) (rest := []) ⟨hx, hb, hml, hown, hts⟩ (w_as l dC dI gd kA ad cB bS sK sV Y ik vs kvs tl T h0 X (xs (i + 1)) (xs (i + 2)) H.size) (cwV 2 hts gL_law_X11_as rfl rfl rfl hd_yX11_as ⟨Nat.le_of_ble_eq_true rfl, Nat.le_of_ble_eq_true rfl⟩) ⟨fun a U g mk q => by obtain ⟨q0, q1, qX, qK, qY1, qY2, qG⟩ := q; exact ⟨q0, mvz g mk a q1, qX, mvK g mk a qK, qY1, qY2, qG.same rfl rfl⟩, hLS.1.recv hLS.2.2.1, fun U hU hW => ⟨rfl, by rw [hU], by rw [hU]; exact hLS.1, va_K.moved hW.alike hLS.2.2.1, hLS.2.2.2.2.2.2.1, fun q hq hy => absurd (hLS.2.2.2.2.2.2.2.2 q hy) (Nat.not_lt.mpr hq), hGA.call hS hU hW (bl_in hLS.2.2.2.2.1 hS hA)⟩⟩ rfl rfl hl.1 rfl (lv_room (Nat.le_of_ble_eq_true rfl)) dL_law_1037 ⟨by show _ ≤ 600000; omega, by show _ ≤ 7302250; omega⟩) hLS hS hA (fun r1_ u_ H locs X T hp1 hLS hS => ?_)
  obtain ⟨e1_, rfl⟩ := hp1
  have hLS : Lst dC dI ad bS Y s A h0 m0 ik vs kvs tl im vm kvm tm X T M T2 H := hLS
  refine lv_pop hx hb dL_law_1040 rfl ?_
  refine lv_aload_n hx hb dL_law_1041 rfl (lv_at hl 2 rfl) ?_
  refine lv_aload_n hx hb dL_law_1042 rfl (lv_at hl 0 rfl) ?_
  refine lv_iload_n hx hb dL_law_1043 rfl (lv_at hl 3 rfl) ?_
  refine lv_iconst (v := 1) hx hb dL_law_1044 (by decide) ?_
  refine lv_iadd hx hb dL_law_1045 ?_
  refine qi_as (y := nI (i + 1)) (nI_add i 1) ?_
  refine va_sld hx hb hX hbl hbA hS (vp_in_nI (n := i + 1) (N := L) (by omega) (by omega)) dL_law_1046 ?_
  refine qi_as (y := xs (i + 1)) (by rw [nI_clamp (by omega)]) ?_
  refine lv_aload_n hx hb dL_law_1047 rfl (lv_at hl 0 rfl) ?_
  refine lv_iload_n hx hb dL_law_1048 rfl (lv_at hl 3 rfl) ?_
  refine lv_iconst (v := 2) hx hb dL_law_1049 (by decide) ?_
  refine lv_iadd hx hb dL_law_1050 ?_
  refine qi_as (y := nI (i + 2)) (nI_add i 2) ?_
  refine va_sld hx hb hX hbl hbA hS (vp_in_nI (n := i + 2) (N := L) (by omega) (by omega)) dL_law_1051 ?_
  refine qi_as (y := xs (i + 2)) (by rw [nI_clamp (by omega)]) ?_
  refine lm_i (va_runV (As := [.int (xs (i + 1)), .int (xs (i + 2))]) (rest := []) ⟨hx, hb, hml, hown, hts⟩ (v_as l dC dI sK sV im vm kvm tm T2 m0 M (xs (i + 1)) (xs (i + 2)) H.size) (cwV 2 hts gL_law_X12_as rfl rfl rfl hd_yX12_as ⟨Nat.le_of_ble_eq_true rfl, Nat.le_of_ble_eq_true rfl⟩) ⟨fun a U g mk q => by obtain ⟨q0, q1, qX, qK, qG⟩ := q; exact ⟨q0, mvz g mk a q1, qX, mvK g mk a qK, qG.same rfl rfl⟩, hLS.2.1.recv hLS.2.2.2.1, fun U hU hW => ⟨rfl, by rw [hU], by rw [hU]; exact hLS.2.1, va_K.moved hW.alike hLS.2.2.2.1, hGA.2.2.2.2.2.2.call hS hU hW (bl_in hLS.2.2.2.2.2.1 hS hA)⟩⟩ rfl rfl hl.1 rfl (lv_room (Nat.le_of_ble_eq_true rfl)) dL_law_1052 ⟨by show _ ≤ 600000; omega, by show _ ≤ 7302250; omega⟩) hLS hS hA (fun r2_ u_ H locs M hp2 hLS hS => ?_)
  obtain ⟨e2_, rfl⟩ := hp2
  have hLS : Lst dC dI ad bS Y s A h0 m0 ik vs kvs tl im vm kvm tm X T M T2 H := hLS
  refine lv_pop hx hb dL_law_1055 rfl ?_
  refine lv_goto (tgt := 1108) hx hb dL_law_1056 (by decide) ?_
  refine W.widen (k := cells + 8) (n := slots + 200) (by omega) (by omega) ?_
  exact kk ik vs kvs tl im vm kvm tm X T M H locs hLS ⟨hcp.1, by rw [hcp.2.1], hcp.2.2⟩ hS

set_option maxHeartbeats 4000000 in
set_option maxRecDepth 100000 in
theorem lc_27 {p : Program} {l : Launch} {e : Env} {s : State} {m : MethodId} {below : List Frame} {meth : Method} {c : Code} {b L : Nat} {xs : Nat → Int32} {A : Nat → Prop} (hAe : A = fun q => s.heap.size ≤ q) (C0 : lw_At p s m meth c b L xs) (dC : Nat → ClassId) (dI : Nat → Nat → Nat) (gd : Nat → Nat) (kA : Nat) (ad : Nat → Nat) (cB bS : Nat) (sK sV : Nat → Nat) (Y : Nat → Prop) (h0 m0 : Nat) (ik : Int32) (vs kvs : VS) (tl : List Nat) (im : Int32) (vm kvm : VS) (tm : List Nat) (X : va_W) (T : List (ClassId × FieldType)) (M : va_W) (T2 : List (ClassId × FieldType)) (hGA : GA gd kA ad cB bS sK sV A s) (i : Nat) (hi : i + 5 ≤ L) (hL : L ≤ 320) (H : Heap) (locs : List Loc) (hLS : Lst dC dI ad bS Y s A h0 m0 ik vs kvs tl im vm kvm tm X T M T2 H) (cells slots : Nat) (hc0 : cells ≤ 590000) (hs0 : slots ≤ 7000000) (hS : va_S A s.heap H locs) (ls : Array Slot) (hl : lv_has ls 4 [(0, .ref b), (1, .ref h0), (2, .ref m0), (3, .int (nI i))]) (hcp : ik = im ∧ vs = vm ∧ (im = 0 ∨ kvs = kvm) ∧ tl = tm) (kk : ∀ (ik : Int32) (vs kvs : VS) (tl : List Nat) (im : Int32) (vm kvm : VS) (tm : List Nat) (X : va_W) (T : List (ClassId × FieldType)) (M : va_W) (H : Heap) (locs : List Loc), Lst dC dI ad bS Y s A h0 m0 ik vs kvs tl im vm kvm tm X T M T2 H → (ik = im ∧ vs = vm ∧ (im = 0 ∨ kvs = kvm) ∧ tl = tm) → va_S A s.heap H locs → W p l e room_1 s m #[Value.ref b] below meth c H locs (cells + 8) (slots + 200) (lw_Z below #[Value.ref b] s) (F0 m 1108 ls [])) : W p l e room_1 s m #[Value.ref b] below meth c H locs cells slots (lw_Z below #[Value.ref b] s) (F0 m 1059 ls []) := by
  obtain ⟨hx, hb, hr, hml, hown, hts0, hX, hbl, hlocks, hgv⟩ := id C0
  have hown : s.vm.findClass RL = some m.cls := hown
  have hb : c.code = cL_law := hb
  have hts : ∀ w ∈ lw_tbl, w.before #[Value.ref b] s = true := fun w h => hts0 w (wsL_law_in w h)
  have hA : ∀ q : Nat, s.heap.size ≤ q → A q := fun q h => by rw [hAe]; exact h
  have hbA : ¬ A b := by rw [hAe]; exact Nat.not_le.mpr hbl
  refine lv_aload_n hx hb dL_law_1059 rfl (lv_at hl 1 rfl) ?_
  refine lx_i (va_runV (As := []) (rest := []) ⟨hx, hb, hml, hown, hts⟩ (w_image l dC dI gd kA ad cB bS sK sV Y ik vs kvs tl T h0 X H.size) (cwV 0 hts gL_law_X11_image rfl rfl rfl hd_yX11_image ⟨Nat.le_of_ble_eq_true rfl, Nat.le_of_ble_eq_true rfl⟩) ⟨fun a U g mk q => by obtain ⟨q0, q1, qX, qK, qY1, qY2, qG⟩ := q; exact ⟨q0, mvz g mk a q1, qX, mvK g mk a qK, qY1, qY2, qG.same rfl rfl⟩, hLS.1.recv hLS.2.2.1, fun U hU hW => ⟨rfl, by rw [hU], by rw [hU]; exact hLS.1, va_K.moved hW.alike hLS.2.2.1, hLS.2.2.2.2.2.2.1, fun q hq hy => absurd (hLS.2.2.2.2.2.2.2.2 q hy) (Nat.not_lt.mpr hq), hGA.call hS hU hW (bl_in hLS.2.2.2.2.1 hS hA)⟩⟩ rfl rfl hl.1 rfl (lv_room (Nat.le_of_ble_eq_true rfl)) dL_law_1060 ⟨by show _ ≤ 600000; omega, by show _ ≤ 7302250; omega⟩) hLS hS hA (fun r1_ u_ H locs X T hp1 hLS hS => ?_)
  obtain ⟨e1_, rfl⟩ := hp1
  have hLS : Lst dC dI ad bS Y s A h0 m0 1 vs vs tl im vm kvm tm X T M T2 H := hLS
  refine lv_pop hx hb dL_law_1063 rfl ?_
  refine lv_aload_n hx hb dL_law_1064 rfl (lv_at hl 2 rfl) ?_
  refine lm_i (va_runV (As := []) (rest := []) ⟨hx, hb, hml, hown, hts⟩ (v_image l dC dI sK sV im vm kvm tm T2 m0 M H.size) (cwV 0 hts gL_law_X12_image rfl rfl rfl hd_yX12_image ⟨Nat.le_of_ble_eq_true rfl, Nat.le_of_ble_eq_true rfl⟩) ⟨fun a U g mk q => by obtain ⟨q0, q1, qX, qK, qG⟩ := q; exact ⟨q0, mvz g mk a q1, qX, mvK g mk a qK, qG.same rfl rfl⟩, hLS.2.1.recv hLS.2.2.2.1, fun U hU hW => ⟨rfl, by rw [hU], by rw [hU]; exact hLS.2.1, va_K.moved hW.alike hLS.2.2.2.1, hGA.2.2.2.2.2.2.call hS hU hW (bl_in hLS.2.2.2.2.2.1 hS hA)⟩⟩ rfl rfl hl.1 rfl (lv_room (Nat.le_of_ble_eq_true rfl)) dL_law_1065 ⟨by show _ ≤ 600000; omega, by show _ ≤ 7302250; omega⟩) hLS hS hA (fun r2_ u_ H locs M hp2 hLS hS => ?_)
  obtain ⟨e2_, rfl⟩ := hp2
  have hLS : Lst dC dI ad bS Y s A h0 m0 1 vs vs tl 1 vm vm tm X T M T2 H := hLS
  refine lv_pop hx hb dL_law_1068 rfl ?_
  refine lv_goto (tgt := 1108) hx hb dL_law_1069 (by decide) ?_
  refine W.widen (k := cells + 8) (n := slots + 200) (by omega) (by omega) ?_
  exact kk 1 vs vs tl 1 vm vm tm X T M H locs hLS ⟨rfl, hcp.2.1, Or.inr hcp.2.1, hcp.2.2.2⟩ hS
end mg22j
section mg22j
noncomputable def dk22rcase_cL_law_0 : List (Nat × List Nat) := [(1072, [43]), (1073, [182, 0, 136]), (1076, [87]), (1077, [44]), (1078, [182, 0, 139]), (1081, [87]), (1082, [167, 0, 26]), (1085, [43]), (1086, [42]), (1087, [29]), (1088, [4]), (1089, [96]), (1090, [46]), (1091, [182, 0, 140]), (1094, [87]), (1095, [44]), (1096, [42]), (1097, [29]), (1098, [4]), (1099, [96]), (1100, [46]), (1101, [182, 0, 143]), (1104, [87]), (1105, [167, 0, 3])]
set_option maxRecDepth 100000 in
theorem dk22rcase_cL_law_0_a : btA cL_law dk22rcase_cL_law_0 = true := by decide +kernel
theorem dL_law_1072 : decode cL_law 1072 = .ok (.aload_n 1, 1) := bd43 (btAt dk22rcase_cL_law_0_a 0 rfl)
theorem dL_law_1073 : decode cL_law 1073 = .ok (.invokevirtual 136, 3) := bd182 (a := 0) (b := 136) (btAt dk22rcase_cL_law_0_a 1 rfl)
theorem dL_law_1076 : decode cL_law 1076 = .ok (.pop, 1) := bd87 (btAt dk22rcase_cL_law_0_a 2 rfl)
theorem dL_law_1077 : decode cL_law 1077 = .ok (.aload_n 2, 1) := bd44 (btAt dk22rcase_cL_law_0_a 3 rfl)
theorem dL_law_1078 : decode cL_law 1078 = .ok (.invokevirtual 139, 3) := bd182 (a := 0) (b := 139) (btAt dk22rcase_cL_law_0_a 4 rfl)
theorem dL_law_1081 : decode cL_law 1081 = .ok (.pop, 1) := bd87 (btAt dk22rcase_cL_law_0_a 5 rfl)
theorem dL_law_1082 : decode cL_law 1082 = .ok (.goto 26, 3) := bd167 (a := 0) (b := 26) (btAt dk22rcase_cL_law_0_a 6 rfl)
theorem dL_law_1085 : decode cL_law 1085 = .ok (.aload_n 1, 1) := bd43 (btAt dk22rcase_cL_law_0_a 7 rfl)
theorem dL_law_1086 : decode cL_law 1086 = .ok (.aload_n 0, 1) := bd42 (btAt dk22rcase_cL_law_0_a 8 rfl)
theorem dL_law_1087 : decode cL_law 1087 = .ok (.iload_n 3, 1) := bd29 (btAt dk22rcase_cL_law_0_a 9 rfl)
theorem dL_law_1088 : decode cL_law 1088 = .ok (.iconst 1, 1) := bd4 (btAt dk22rcase_cL_law_0_a 10 rfl)
theorem dL_law_1089 : decode cL_law 1089 = .ok (.iadd, 1) := bd96 (btAt dk22rcase_cL_law_0_a 11 rfl)
theorem dL_law_1090 : decode cL_law 1090 = .ok (.iaload, 1) := bd46 (btAt dk22rcase_cL_law_0_a 12 rfl)
theorem dL_law_1091 : decode cL_law 1091 = .ok (.invokevirtual 140, 3) := bd182 (a := 0) (b := 140) (btAt dk22rcase_cL_law_0_a 13 rfl)
theorem dL_law_1094 : decode cL_law 1094 = .ok (.pop, 1) := bd87 (btAt dk22rcase_cL_law_0_a 14 rfl)
theorem dL_law_1095 : decode cL_law 1095 = .ok (.aload_n 2, 1) := bd44 (btAt dk22rcase_cL_law_0_a 15 rfl)
theorem dL_law_1096 : decode cL_law 1096 = .ok (.aload_n 0, 1) := bd42 (btAt dk22rcase_cL_law_0_a 16 rfl)
theorem dL_law_1097 : decode cL_law 1097 = .ok (.iload_n 3, 1) := bd29 (btAt dk22rcase_cL_law_0_a 17 rfl)
theorem dL_law_1098 : decode cL_law 1098 = .ok (.iconst 1, 1) := bd4 (btAt dk22rcase_cL_law_0_a 18 rfl)
theorem dL_law_1099 : decode cL_law 1099 = .ok (.iadd, 1) := bd96 (btAt dk22rcase_cL_law_0_a 19 rfl)
theorem dL_law_1100 : decode cL_law 1100 = .ok (.iaload, 1) := bd46 (btAt dk22rcase_cL_law_0_a 20 rfl)
theorem dL_law_1101 : decode cL_law 1101 = .ok (.invokevirtual 143, 3) := bd182 (a := 0) (b := 143) (btAt dk22rcase_cL_law_0_a 21 rfl)
theorem dL_law_1104 : decode cL_law 1104 = .ok (.pop, 1) := bd87 (btAt dk22rcase_cL_law_0_a 22 rfl)
theorem dL_law_1105 : decode cL_law 1105 = .ok (.goto 3, 3) := bd167 (a := 0) (b := 3) (btAt dk22rcase_cL_law_0_a 23 rfl)
set_option maxHeartbeats 4000000 in
set_option maxRecDepth 100000 in
theorem lc_28 {p : Program} {l : Launch} {e : Env} {s : State} {m : MethodId} {below : List Frame} {meth : Method} {c : Code} {b L : Nat} {xs : Nat → Int32} {A : Nat → Prop} (hAe : A = fun q => s.heap.size ≤ q) (C0 : lw_At p s m meth c b L xs) (dC : Nat → ClassId) (dI : Nat → Nat → Nat) (gd : Nat → Nat) (kA : Nat) (ad : Nat → Nat) (cB bS : Nat) (sK sV : Nat → Nat) (Y : Nat → Prop) (h0 m0 : Nat) (ik : Int32) (vs kvs : VS) (tl : List Nat) (im : Int32) (vm kvm : VS) (tm : List Nat) (X : va_W) (T : List (ClassId × FieldType)) (M : va_W) (T2 : List (ClassId × FieldType)) (hGA : GA gd kA ad cB bS sK sV A s) (i : Nat) (hi : i + 5 ≤ L) (hL : L ≤ 320) (H : Heap) (locs : List Loc) (hLS : Lst dC dI ad bS Y s A h0 m0 ik vs kvs tl im vm kvm tm X T M T2 H) (cells slots : Nat) (hc0 : cells ≤ 590000) (hs0 : slots ≤ 7000000) (hS : va_S A s.heap H locs) (ls : Array Slot) (hl : lv_has ls 4 [(0, .ref b), (1, .ref h0), (2, .ref m0), (3, .int (nI i))]) (hcp : ik = im ∧ vs = vm ∧ (im = 0 ∨ kvs = kvm) ∧ tl = tm) (kk : ∀ (ik : Int32) (vs kvs : VS) (tl : List Nat) (im : Int32) (vm kvm : VS) (tm : List Nat) (X : va_W) (T : List (ClassId × FieldType)) (M : va_W) (H : Heap) (locs : List Loc), Lst dC dI ad bS Y s A h0 m0 ik vs kvs tl im vm kvm tm X T M T2 H → (ik = im ∧ vs = vm ∧ (im = 0 ∨ kvs = kvm) ∧ tl = tm) → va_S A s.heap H locs → W p l e room_1 s m #[Value.ref b] below meth c H locs (cells + 8) (slots + 200) (lw_Z below #[Value.ref b] s) (F0 m 1108 ls [])) : W p l e room_1 s m #[Value.ref b] below meth c H locs cells slots (lw_Z below #[Value.ref b] s) (F0 m 1072 ls []) := by
  obtain ⟨hx, hb, hr, hml, hown, hts0, hX, hbl, hlocks, hgv⟩ := id C0
  have hown : s.vm.findClass RL = some m.cls := hown
  have hb : c.code = cL_law := hb
  have hts : ∀ w ∈ lw_tbl, w.before #[Value.ref b] s = true := fun w h => hts0 w (wsL_law_in w h)
  have hA : ∀ q : Nat, s.heap.size ≤ q → A q := fun q h => by rw [hAe]; exact h
  have hbA : ¬ A b := by rw [hAe]; exact Nat.not_le.mpr hbl
  refine lv_aload_n hx hb dL_law_1072 rfl (lv_at hl 1 rfl) ?_
  refine lx_i (va_runV (As := []) (rest := []) ⟨hx, hb, hml, hown, hts⟩ (w_undo l dC dI gd kA ad cB bS sK sV Y ik vs kvs tl T h0 X H.size) (cwV 0 hts gL_law_X11_undo rfl rfl rfl hd_yX11_undo ⟨Nat.le_of_ble_eq_true rfl, Nat.le_of_ble_eq_true rfl⟩) ⟨fun a U g mk q => by obtain ⟨q0, q1, qX, qK, qY1, qY2, qG⟩ := q; exact ⟨q0, mvz g mk a q1, qX, mvK g mk a qK, qY1, qY2, qG.same rfl rfl⟩, hLS.1.recv hLS.2.2.1, fun U hU hW => ⟨rfl, by rw [hU], by rw [hU]; exact hLS.1, va_K.moved hW.alike hLS.2.2.1, hLS.2.2.2.2.2.2.1, fun q hq hy => absurd (hLS.2.2.2.2.2.2.2.2 q hy) (Nat.not_lt.mpr hq), hGA.call hS hU hW (bl_in hLS.2.2.2.2.1 hS hA)⟩⟩ rfl rfl hl.1 rfl (lv_room (Nat.le_of_ble_eq_true rfl)) dL_law_1073 ⟨by show _ ≤ 600000; omega, by show _ ≤ 7302250; omega⟩) hLS hS hA (fun r1_ u_ H locs X T hp1 hLS hS => ?_)
  rcases hp1 with ⟨z1_, e1_, rfl⟩ | ⟨z1_, e1_, rfl⟩
  · skip
    have hLS : Lst dC dI ad bS Y s A h0 m0 ik vs kvs tl im vm kvm tm X T M T2 H := hLS
    refine lv_pop hx hb dL_law_1076 rfl ?_
    refine lv_aload_n hx hb dL_law_1077 rfl (lv_at hl 2 rfl) ?_
    refine lm_i (va_runV (As := []) (rest := []) ⟨hx, hb, hml, hown, hts⟩ (v_undo l dC dI sK sV im vm kvm tm T2 m0 M H.size) (cwV 0 hts gL_law_X12_undo rfl rfl rfl hd_yX12_undo ⟨Nat.le_of_ble_eq_true rfl, Nat.le_of_ble_eq_true rfl⟩) ⟨fun a U g mk q => by obtain ⟨q0, q1, qX, qK, qG⟩ := q; exact ⟨q0, mvz g mk a q1, qX, mvK g mk a qK, qG.same rfl rfl⟩, hLS.2.1.recv hLS.2.2.2.1, fun U hU hW => ⟨rfl, by rw [hU], by rw [hU]; exact hLS.2.1, va_K.moved hW.alike hLS.2.2.2.1, hGA.2.2.2.2.2.2.call hS hU hW (bl_in hLS.2.2.2.2.2.1 hS hA)⟩⟩ rfl rfl hl.1 rfl (lv_room (Nat.le_of_ble_eq_true rfl)) dL_law_1078 ⟨by show _ ≤ 600000; omega, by show _ ≤ 7302250; omega⟩) hLS hS hA (fun r2_ u_ H locs M hp2 hLS hS => ?_)
    rcases hp2 with ⟨z2_, e2_, rfl⟩ | ⟨z2_, e2_, rfl⟩
    · skip
      have hLS : Lst dC dI ad bS Y s A h0 m0 ik vs kvs tl im vm kvm tm X T M T2 H := hLS
      refine lv_pop hx hb dL_law_1081 rfl ?_
      refine lv_goto (tgt := 1108) hx hb dL_law_1082 (by decide) ?_
      refine W.widen (k := cells + 8) (n := slots + 200) (by omega) (by omega) ?_
      exact kk ik vs kvs tl im vm kvm tm X T M H locs hLS hcp hS
    · skip
      have hLS : Lst dC dI ad bS Y s A h0 m0 ik vs kvs tl im kvm kvm tm X T M T2 H := hLS
      exact absurd (hcp.1.symm.trans z1_) z2_
  · skip
    have hLS : Lst dC dI ad bS Y s A h0 m0 ik kvs kvs tl im vm kvm tm X T M T2 H := hLS
    refine lv_pop hx hb dL_law_1076 rfl ?_
    refine lv_aload_n hx hb dL_law_1077 rfl (lv_at hl 2 rfl) ?_
    refine lm_i (va_runV (As := []) (rest := []) ⟨hx, hb, hml, hown, hts⟩ (v_undo l dC dI sK sV im vm kvm tm T2 m0 M H.size) (cwV 0 hts gL_law_X12_undo rfl rfl rfl hd_yX12_undo ⟨Nat.le_of_ble_eq_true rfl, Nat.le_of_ble_eq_true rfl⟩) ⟨fun a U g mk q => by obtain ⟨q0, q1, qX, qK, qG⟩ := q; exact ⟨q0, mvz g mk a q1, qX, mvK g mk a qK, qG.same rfl rfl⟩, hLS.2.1.recv hLS.2.2.2.1, fun U hU hW => ⟨rfl, by rw [hU], by rw [hU]; exact hLS.2.1, va_K.moved hW.alike hLS.2.2.2.1, hGA.2.2.2.2.2.2.call hS hU hW (bl_in hLS.2.2.2.2.2.1 hS hA)⟩⟩ rfl rfl hl.1 rfl (lv_room (Nat.le_of_ble_eq_true rfl)) dL_law_1078 ⟨by show _ ≤ 600000; omega, by show _ ≤ 7302250; omega⟩) hLS hS hA (fun r2_ u_ H locs M hp2 hLS hS => ?_)
    rcases hp2 with ⟨z2_, e2_, rfl⟩ | ⟨z2_, e2_, rfl⟩
    · skip
      have hLS : Lst dC dI ad bS Y s A h0 m0 ik kvs kvs tl im vm kvm tm X T M T2 H := hLS
      exact absurd (hcp.1.trans z2_) z1_
    · skip
      have hLS : Lst dC dI ad bS Y s A h0 m0 ik kvs kvs tl im kvm kvm tm X T M T2 H := hLS
      refine lv_pop hx hb dL_law_1081 rfl ?_
      refine lv_goto (tgt := 1108) hx hb dL_law_1082 (by decide) ?_
      refine W.widen (k := cells + 8) (n := slots + 200) (by omega) (by omega) ?_
      exact kk ik kvs kvs tl im kvm kvm tm X T M H locs hLS ⟨hcp.1, hcp.2.2.1.resolve_left z2_, hcp.2.2⟩ hS

set_option maxHeartbeats 4000000 in
set_option maxRecDepth 100000 in
theorem lc_29 {p : Program} {l : Launch} {e : Env} {s : State} {m : MethodId} {below : List Frame} {meth : Method} {c : Code} {b L : Nat} {xs : Nat → Int32} {A : Nat → Prop} (hAe : A = fun q => s.heap.size ≤ q) (C0 : lw_At p s m meth c b L xs) (dC : Nat → ClassId) (dI : Nat → Nat → Nat) (gd : Nat → Nat) (kA : Nat) (ad : Nat → Nat) (cB bS : Nat) (sK sV : Nat → Nat) (Y : Nat → Prop) (h0 m0 : Nat) (ik : Int32) (vs kvs : VS) (tl : List Nat) (im : Int32) (vm kvm : VS) (tm : List Nat) (X : va_W) (T : List (ClassId × FieldType)) (M : va_W) (T2 : List (ClassId × FieldType)) (hGA : GA gd kA ad cB bS sK sV A s) (i : Nat) (hi : i + 5 ≤ L) (hL : L ≤ 320) (H : Heap) (locs : List Loc) (hLS : Lst dC dI ad bS Y s A h0 m0 ik vs kvs tl im vm kvm tm X T M T2 H) (cells slots : Nat) (hc0 : cells ≤ 590000) (hs0 : slots ≤ 7000000) (hS : va_S A s.heap H locs) (ls : Array Slot) (hl : lv_has ls 4 [(0, .ref b), (1, .ref h0), (2, .ref m0), (3, .int (nI i))]) (hcp : ik = im ∧ vs = vm ∧ (im = 0 ∨ kvs = kvm) ∧ tl = tm) (kk : ∀ (ik : Int32) (vs kvs : VS) (tl : List Nat) (im : Int32) (vm kvm : VS) (tm : List Nat) (X : va_W) (T : List (ClassId × FieldType)) (M : va_W) (H : Heap) (locs : List Loc), Lst dC dI ad bS Y s A h0 m0 ik vs kvs tl im vm kvm tm X T M T2 H → (ik = im ∧ vs = vm ∧ (im = 0 ∨ kvs = kvm) ∧ tl = tm) → va_S A s.heap H locs → W p l e room_1 s m #[Value.ref b] below meth c H locs (cells + 8) (slots + 200) (lw_Z below #[Value.ref b] s) (F0 m 1108 ls [])) : W p l e room_1 s m #[Value.ref b] below meth c H locs cells slots (lw_Z below #[Value.ref b] s) (F0 m 1085 ls []) := by
  obtain ⟨hx, hb, hr, hml, hown, hts0, hX, hbl, hlocks, hgv⟩ := id C0
  have hown : s.vm.findClass RL = some m.cls := hown
  have hb : c.code = cL_law := hb
  have hts : ∀ w ∈ lw_tbl, w.before #[Value.ref b] s = true := fun w h => hts0 w (wsL_law_in w h)
  have hA : ∀ q : Nat, s.heap.size ≤ q → A q := fun q h => by rw [hAe]; exact h
  have hbA : ¬ A b := by rw [hAe]; exact Nat.not_le.mpr hbl
  refine lv_aload_n hx hb dL_law_1085 rfl (lv_at hl 1 rfl) ?_
  refine lv_aload_n hx hb dL_law_1086 rfl (lv_at hl 0 rfl) ?_
  refine lv_iload_n hx hb dL_law_1087 rfl (lv_at hl 3 rfl) ?_
  refine lv_iconst (v := 1) hx hb dL_law_1088 (by decide) ?_
  refine lv_iadd hx hb dL_law_1089 ?_
  refine qi_as (y := nI (i + 1)) (nI_add i 1) ?_
  refine va_sld hx hb hX hbl hbA hS (vp_in_nI (n := i + 1) (N := L) (by omega) (by omega)) dL_law_1090 ?_
  refine qi_as (y := xs (i + 1)) (by rw [nI_clamp (by omega)]) ?_
  refine lx_i (va_runV (As := [.int (xs (i + 1))]) (rest := []) ⟨hx, hb, hml, hown, hts⟩ (w_count l dC dI gd kA ad cB bS sK sV Y ik vs kvs tl T h0 X (xs (i + 1)) H.size) (cwV 1 hts gL_law_X11_count rfl rfl rfl hd_yX11_count ⟨Nat.le_of_ble_eq_true rfl, Nat.le_of_ble_eq_true rfl⟩) ⟨fun a U g mk q => by obtain ⟨q0, q1, qX, qK, qY1, qY2, qG⟩ := q; exact ⟨q0, mvz g mk a q1, qX, mvK g mk a qK, qY1, qY2, qG.same rfl rfl⟩, hLS.1.recv hLS.2.2.1, fun U hU hW => ⟨rfl, by rw [hU], by rw [hU]; exact hLS.1, va_K.moved hW.alike hLS.2.2.1, hLS.2.2.2.2.2.2.1, fun q hq hy => absurd (hLS.2.2.2.2.2.2.2.2 q hy) (Nat.not_lt.mpr hq), hGA.call hS hU hW (bl_in hLS.2.2.2.2.1 hS hA)⟩⟩ rfl rfl hl.1 rfl (lv_room (Nat.le_of_ble_eq_true rfl)) dL_law_1091 ⟨by show _ ≤ 600000; omega, by show _ ≤ 7302250; omega⟩) hLS hS hA (fun r1_ u_ H locs X T hp1 hLS hS => ?_)
  obtain ⟨e1_, rfl⟩ := hp1
  have hLS : Lst dC dI ad bS Y s A h0 m0 ik vs kvs tl im vm kvm tm X T M T2 H := hLS
  refine lv_pop hx hb dL_law_1094 rfl ?_
  refine lv_aload_n hx hb dL_law_1095 rfl (lv_at hl 2 rfl) ?_
  refine lv_aload_n hx hb dL_law_1096 rfl (lv_at hl 0 rfl) ?_
  refine lv_iload_n hx hb dL_law_1097 rfl (lv_at hl 3 rfl) ?_
  refine lv_iconst (v := 1) hx hb dL_law_1098 (by decide) ?_
  refine lv_iadd hx hb dL_law_1099 ?_
  refine qi_as (y := nI (i + 1)) (nI_add i 1) ?_
  refine va_sld hx hb hX hbl hbA hS (vp_in_nI (n := i + 1) (N := L) (by omega) (by omega)) dL_law_1100 ?_
  refine qi_as (y := xs (i + 1)) (by rw [nI_clamp (by omega)]) ?_
  refine lm_i (va_runV (As := [.int (xs (i + 1))]) (rest := []) ⟨hx, hb, hml, hown, hts⟩ (v_count l dC dI sK sV im vm kvm tm T2 m0 M (xs (i + 1)) H.size) (cwV 1 hts gL_law_X12_count rfl rfl rfl hd_yX12_count ⟨Nat.le_of_ble_eq_true rfl, Nat.le_of_ble_eq_true rfl⟩) ⟨fun a U g mk q => by obtain ⟨q0, q1, qX, qK, qG⟩ := q; exact ⟨q0, mvz g mk a q1, qX, mvK g mk a qK, qG.same rfl rfl⟩, hLS.2.1.recv hLS.2.2.2.1, fun U hU hW => ⟨rfl, by rw [hU], by rw [hU]; exact hLS.2.1, va_K.moved hW.alike hLS.2.2.2.1, hGA.2.2.2.2.2.2.call hS hU hW (bl_in hLS.2.2.2.2.2.1 hS hA)⟩⟩ rfl rfl hl.1 rfl (lv_room (Nat.le_of_ble_eq_true rfl)) dL_law_1101 ⟨by show _ ≤ 600000; omega, by show _ ≤ 7302250; omega⟩) hLS hS hA (fun r2_ u_ H locs M hp2 hLS hS => ?_)
  obtain ⟨e2_, rfl⟩ := hp2
  have hLS : Lst dC dI ad bS Y s A h0 m0 ik vs kvs tl im vm kvm tm X T M T2 H := hLS
  refine lv_pop hx hb dL_law_1104 rfl ?_
  refine lv_goto (tgt := 1108) hx hb dL_law_1105 (by decide) ?_
  refine W.widen (k := cells + 8) (n := slots + 200) (by omega) (by omega) ?_
  exact kk ik vs kvs tl im vm kvm tm X T M H locs hLS ⟨hcp.1, by rw [hcp.2.1], hcp.2.2⟩ hS
end mg22j
