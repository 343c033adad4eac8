def dk22mcase_cL_law_0 : List (Nat × Instr × Nat) := [(805, .aload_n 1, 1), (806, .aload_n 0, 1), (807, .iload_n 3, 1), (808, .iconst 1, 1), (809, .iadd, 1), (810, .iaload, 1), (811, .aload_n 0, 1), (812, .iload_n 3, 1), (813, .iconst 2, 1), (814, .iadd, 1), (815, .iaload, 1), (816, .aload_n 0, 1), (817, .iload_n 3, 1), (818, .iconst 3, 1), (819, .iadd, 1), (820, .iaload, 1), (821, .invokevirtual 100, 3), (824, .pop, 1), (825, .aload_n 2, 1), (826, .aload_n 0, 1), (827, .iload_n 3, 1), (828, .iconst 1, 1), (829, .iadd, 1), (830, .iaload, 1), (831, .aload_n 0, 1), (832, .iload_n 3, 1), (833, .iconst 2, 1), (834, .iadd, 1), (835, .iaload, 1), (836, .aload_n 0, 1), (837, .iload_n 3, 1), (838, .iconst 3, 1), (839, .iadd, 1), (840, .iaload, 1), (841, .invokevirtual 103, 3), (844, .pop, 1), (845, .goto 263, 3), (848, .aload_n 1, 1), (849, .aload_n 0, 1), (850, .iload_n 3, 1)]
set_option maxRecDepth 100000 in
theorem dk22mcase_cL_law_0_a : dkA cL_law dk22mcase_cL_law_0 = true := by decide +kernel
theorem dL_law_805 : decode cL_law 805 = .ok (.aload_n 1, 1) := dkAt dk22mcase_cL_law_0_a 0 rfl
theorem dL_law_806 : decode cL_law 806 = .ok (.aload_n 0, 1) := dkAt dk22mcase_cL_law_0_a 1 rfl
theorem dL_law_807 : decode cL_law 807 = .ok (.iload_n 3, 1) := dkAt dk22mcase_cL_law_0_a 2 rfl
theorem dL_law_808 : decode cL_law 808 = .ok (.iconst 1, 1) := dkAt dk22mcase_cL_law_0_a 3 rfl
theorem dL_law_809 : decode cL_law 809 = .ok (.iadd, 1) := dkAt dk22mcase_cL_law_0_a 4 rfl
theorem dL_law_810 : decode cL_law 810 = .ok (.iaload, 1) := dkAt dk22mcase_cL_law_0_a 5 rfl
theorem dL_law_811 : decode cL_law 811 = .ok (.aload_n 0, 1) := dkAt dk22mcase_cL_law_0_a 6 rfl
theorem dL_law_812 : decode cL_law 812 = .ok (.iload_n 3, 1) := dkAt dk22mcase_cL_law_0_a 7 rfl
theorem dL_law_813 : decode cL_law 813 = .ok (.iconst 2, 1) := dkAt dk22mcase_cL_law_0_a 8 rfl
theorem dL_law_814 : decode cL_law 814 = .ok (.iadd, 1) := dkAt dk22mcase_cL_law_0_a 9 rfl
theorem dL_law_815 : decode cL_law 815 = .ok (.iaload, 1) := dkAt dk22mcase_cL_law_0_a 10 rfl
theorem dL_law_816 : decode cL_law 816 = .ok (.aload_n 0, 1) := dkAt dk22mcase_cL_law_0_a 11 rfl
theorem dL_law_817 : decode cL_law 817 = .ok (.iload_n 3, 1) := dkAt dk22mcase_cL_law_0_a 12 rfl
theorem dL_law_818 : decode cL_law 818 = .ok (.iconst 3, 1) := dkAt dk22mcase_cL_law_0_a 13 rfl
theorem dL_law_819 : decode cL_law 819 = .ok (.iadd, 1) := dkAt dk22mcase_cL_law_0_a 14 rfl
theorem dL_law_820 : decode cL_law 820 = .ok (.iaload, 1) := dkAt dk22mcase_cL_law_0_a 15 rfl
theorem dL_law_821 : decode cL_law 821 = .ok (.invokevirtual 100, 3) := dkAt dk22mcase_cL_law_0_a 16 rfl
theorem dL_law_824 : decode cL_law 824 = .ok (.pop, 1) := dkAt dk22mcase_cL_law_0_a 17 rfl
theorem dL_law_825 : decode cL_law 825 = .ok (.aload_n 2, 1) := dkAt dk22mcase_cL_law_0_a 18 rfl
theorem dL_law_826 : decode cL_law 826 = .ok (.aload_n 0, 1) := dkAt dk22mcase_cL_law_0_a 19 rfl
theorem dL_law_827 : decode cL_law 827 = .ok (.iload_n 3, 1) := dkAt dk22mcase_cL_law_0_a 20 rfl
theorem dL_law_828 : decode cL_law 828 = .ok (.iconst 1, 1) := dkAt dk22mcase_cL_law_0_a 21 rfl
theorem dL_law_829 : decode cL_law 829 = .ok (.iadd, 1) := dkAt dk22mcase_cL_law_0_a 22 rfl
theorem dL_law_830 : decode cL_law 830 = .ok (.iaload, 1) := dkAt dk22mcase_cL_law_0_a 23 rfl
theorem dL_law_831 : decode cL_law 831 = .ok (.aload_n 0, 1) := dkAt dk22mcase_cL_law_0_a 24 rfl
theorem dL_law_832 : decode cL_law 832 = .ok (.iload_n 3, 1) := dkAt dk22mcase_cL_law_0_a 25 rfl
theorem dL_law_833 : decode cL_law 833 = .ok (.iconst 2, 1) := dkAt dk22mcase_cL_law_0_a 26 rfl
theorem dL_law_834 : decode cL_law 834 = .ok (.iadd, 1) := dkAt dk22mcase_cL_law_0_a 27 rfl
theorem dL_law_835 : decode cL_law 835 = .ok (.iaload, 1) := dkAt dk22mcase_cL_law_0_a 28 rfl
theorem dL_law_836 : decode cL_law 836 = .ok (.aload_n 0, 1) := dkAt dk22mcase_cL_law_0_a 29 rfl
theorem dL_law_837 : decode cL_law 837 = .ok (.iload_n 3, 1) := dkAt dk22mcase_cL_law_0_a 30 rfl
theorem dL_law_838 : decode cL_law 838 = .ok (.iconst 3, 1) := dkAt dk22mcase_cL_law_0_a 31 rfl
theorem dL_law_839 : decode cL_law 839 = .ok (.iadd, 1) := dkAt dk22mcase_cL_law_0_a 32 rfl
theorem dL_law_840 : decode cL_law 840 = .ok (.iaload, 1) := dkAt dk22mcase_cL_law_0_a 33 rfl
theorem dL_law_841 : decode cL_law 841 = .ok (.invokevirtual 103, 3) := dkAt dk22mcase_cL_law_0_a 34 rfl
theorem dL_law_844 : decode cL_law 844 = .ok (.pop, 1) := dkAt dk22mcase_cL_law_0_a 35 rfl
theorem dL_law_845 : decode cL_law 845 = .ok (.goto 263, 3) := dkAt dk22mcase_cL_law_0_a 36 rfl
theorem dL_law_848 : decode cL_law 848 = .ok (.aload_n 1, 1) := dkAt dk22mcase_cL_law_0_a 37 rfl
theorem dL_law_849 : decode cL_law 849 = .ok (.aload_n 0, 1) := dkAt dk22mcase_cL_law_0_a 38 rfl
theorem dL_law_850 : decode cL_law 850 = .ok (.iload_n 3, 1) := dkAt dk22mcase_cL_law_0_a 39 rfl
def dk22mcase_cL_law_40 : List (Nat × Instr × Nat) := [(851, .iconst 1, 1), (852, .iadd, 1), (853, .iaload, 1), (854, .aload_n 0, 1), (855, .iload_n 3, 1), (856, .iconst 2, 1), (857, .iadd, 1), (858, .iaload, 1), (859, .invokevirtual 104, 3), (862, .aload_n 2, 1), (863, .aload_n 0, 1), (864, .iload_n 3, 1), (865, .iconst 1, 1), (866, .iadd, 1), (867, .iaload, 1), (868, .aload_n 0, 1), (869, .iload_n 3, 1), (870, .iconst 2, 1), (871, .iadd, 1), (872, .iaload, 1), (873, .invokevirtual 107, 3), (876, .if_icmp .eq 232, 3)]
set_option maxRecDepth 100000 in
theorem dk22mcase_cL_law_40_a : dkA cL_law dk22mcase_cL_law_40 = true := by decide +kernel
theorem dL_law_851 : decode cL_law 851 = .ok (.iconst 1, 1) := dkAt dk22mcase_cL_law_40_a 0 rfl
theorem dL_law_852 : decode cL_law 852 = .ok (.iadd, 1) := dkAt dk22mcase_cL_law_40_a 1 rfl
theorem dL_law_853 : decode cL_law 853 = .ok (.iaload, 1) := dkAt dk22mcase_cL_law_40_a 2 rfl
theorem dL_law_854 : decode cL_law 854 = .ok (.aload_n 0, 1) := dkAt dk22mcase_cL_law_40_a 3 rfl
theorem dL_law_855 : decode cL_law 855 = .ok (.iload_n 3, 1) := dkAt dk22mcase_cL_law_40_a 4 rfl
theorem dL_law_856 : decode cL_law 856 = .ok (.iconst 2, 1) := dkAt dk22mcase_cL_law_40_a 5 rfl
theorem dL_law_857 : decode cL_law 857 = .ok (.iadd, 1) := dkAt dk22mcase_cL_law_40_a 6 rfl
theorem dL_law_858 : decode cL_law 858 = .ok (.iaload, 1) := dkAt dk22mcase_cL_law_40_a 7 rfl
theorem dL_law_859 : decode cL_law 859 = .ok (.invokevirtual 104, 3) := dkAt dk22mcase_cL_law_40_a 8 rfl
theorem dL_law_862 : decode cL_law 862 = .ok (.aload_n 2, 1) := dkAt dk22mcase_cL_law_40_a 9 rfl
theorem dL_law_863 : decode cL_law 863 = .ok (.aload_n 0, 1) := dkAt dk22mcase_cL_law_40_a 10 rfl
theorem dL_law_864 : decode cL_law 864 = .ok (.iload_n 3, 1) := dkAt dk22mcase_cL_law_40_a 11 rfl
theorem dL_law_865 : decode cL_law 865 = .ok (.iconst 1, 1) := dkAt dk22mcase_cL_law_40_a 12 rfl
theorem dL_law_866 : decode cL_law 866 = .ok (.iadd, 1) := dkAt dk22mcase_cL_law_40_a 13 rfl
theorem dL_law_867 : decode cL_law 867 = .ok (.iaload, 1) := dkAt dk22mcase_cL_law_40_a 14 rfl
theorem dL_law_868 : decode cL_law 868 = .ok (.aload_n 0, 1) := dkAt dk22mcase_cL_law_40_a 15 rfl
theorem dL_law_869 : decode cL_law 869 = .ok (.iload_n 3, 1) := dkAt dk22mcase_cL_law_40_a 16 rfl
theorem dL_law_870 : decode cL_law 870 = .ok (.iconst 2, 1) := dkAt dk22mcase_cL_law_40_a 17 rfl
theorem dL_law_871 : decode cL_law 871 = .ok (.iadd, 1) := dkAt dk22mcase_cL_law_40_a 18 rfl
theorem dL_law_872 : decode cL_law 872 = .ok (.iaload, 1) := dkAt dk22mcase_cL_law_40_a 19 rfl
theorem dL_law_873 : decode cL_law 873 = .ok (.invokevirtual 107, 3) := dkAt dk22mcase_cL_law_40_a 20 rfl
theorem dL_law_876 : decode cL_law 876 = .ok (.if_icmp .eq 232, 3) := dkAt dk22mcase_cL_law_40_a 21 rfl
set_option maxHeartbeats 4000000 in
set_option maxRecDepth 100000 in
theorem lc_19 {p : Program} {l : Launch} {e : Env} {s : State} {m : MethodId} {below : List Frame} {meth : Method} {c : Code} {b L : Nat} {xs : Nat → Int32} {A : Nat → Prop} (hAe : A = fun q => s.heap.size ≤ q) (C0 : lw_At p s m meth c b L xs) (dC : Nat → ClassId) (dI : Nat → Nat → Nat) (gd : Nat → Nat) (kA : Nat) (ad : Nat → Nat) (cB bS : Nat) (sK sV : Nat → Nat) (Y : Nat → Prop) (h0 m0 : Nat) (ik : Int32) (vs kvs : VS) (tl : List Nat) (im : Int32) (vm kvm : VS) (tm : List Nat) (X : va_W) (T : List (ClassId × FieldType)) (M : va_W) (T2 : List (ClassId × FieldType)) (hGA : GA gd kA ad cB bS sK sV A s) (i : Nat) (hi : i + 5 ≤ L) (hL : L ≤ 320) (H : Heap) (locs : List Loc) (hLS : Lst dC dI ad bS Y s A h0 m0 ik vs kvs tl im vm kvm tm X T M T2 H) (cells slots : Nat) (hc0 : cells ≤ 590000) (hs0 : slots ≤ 7000000) (hS : va_S A s.heap H locs) (ls : Array Slot) (hl : lv_has ls 4 [(0, .ref b), (1, .ref h0), (2, .ref m0), (3, .int (nI i))]) (hcp : ik = im ∧ vs = vm ∧ (im = 0 ∨ kvs = kvm) ∧ tl = tm) (kk : ∀ (ik : Int32) (vs kvs : VS) (tl : List Nat) (im : Int32) (vm kvm : VS) (tm : List Nat) (X : va_W) (T : List (ClassId × FieldType)) (M : va_W) (H : Heap) (locs : List Loc), Lst dC dI ad bS Y s A h0 m0 ik vs kvs tl im vm kvm tm X T M T2 H → (ik = im ∧ vs = vm ∧ (im = 0 ∨ kvs = kvm) ∧ tl = tm) → va_S A s.heap H locs → W p l e room_1 s m #[Value.ref b] below meth c H locs (cells + 8) (slots + 200) (lw_Z below #[Value.ref b] s) (F0 m 1108 ls [])) : W p l e room_1 s m #[Value.ref b] below meth c H locs cells slots (lw_Z below #[Value.ref b] s) (F0 m 805 ls []) := by
  obtain ⟨hx, hb, hr, hml, hown, hts0, hX, hbl, hlocks, hgv⟩ := id C0
  have hown : s.vm.findClass RL = some m.cls := hown
  have hb : c.code = cL_law := hb
  have hts : ∀ w ∈ lw_tbl, w.before #[Value.ref b] s = true := fun w h => hts0 w (wsL_law_in w h)
  have hA : ∀ q : Nat, s.heap.size ≤ q → A q := fun q h => by rw [hAe]; exact h
  have hbA : ¬ A b := by rw [hAe]; exact Nat.not_le.mpr hbl
  refine lv_aload_n hx hb dL_law_805 rfl (lv_at hl 1 rfl) ?_
  refine lv_aload_n hx hb dL_law_806 rfl (lv_at hl 0 rfl) ?_
  refine lv_iload_n hx hb dL_law_807 rfl (lv_at hl 3 rfl) ?_
  refine lv_iconst (v := 1) hx hb dL_law_808 (by decide) ?_
  refine lv_iadd hx hb dL_law_809 ?_
  refine qi_as (y := nI (i + 1)) (nI_add i 1) ?_
  refine va_sld hx hb hX hbl hbA hS (vp_in_nI (n := i + 1) (N := L) (by omega) (by omega)) dL_law_810 ?_
  refine qi_as (y := xs (i + 1)) (by rw [nI_clamp (by omega)]) ?_
  refine lv_aload_n hx hb dL_law_811 rfl (lv_at hl 0 rfl) ?_
  refine lv_iload_n hx hb dL_law_812 rfl (lv_at hl 3 rfl) ?_
  refine lv_iconst (v := 2) hx hb dL_law_813 (by decide) ?_
  refine lv_iadd hx hb dL_law_814 ?_
  refine qi_as (y := nI (i + 2)) (nI_add i 2) ?_
  refine va_sld hx hb hX hbl hbA hS (vp_in_nI (n := i + 2) (N := L) (by omega) (by omega)) dL_law_815 ?_
  refine qi_as (y := xs (i + 2)) (by rw [nI_clamp (by omega)]) ?_
  refine lv_aload_n hx hb dL_law_816 rfl (lv_at hl 0 rfl) ?_
  refine lv_iload_n hx hb dL_law_817 rfl (lv_at hl 3 rfl) ?_
  refine lv_iconst (v := 3) hx hb dL_law_818 (by decide) ?_
  refine lv_iadd hx hb dL_law_819 ?_
  refine qi_as (y := nI (i + 3)) (nI_add i 3) ?_
  refine va_sld hx hb hX hbl hbA hS (vp_in_nI (n := i + 3) (N := L) (by omega) (by omega)) dL_law_820 ?_
  refine qi_as (y := xs (i + 3)) (by rw [nI_clamp (by omega)]) ?_
  refine lx_i (va_runV (As := [.int (xs (i + 1)), .int (xs (i + 2)), .int (xs (i + 3))]) (rest := []) ⟨hx, hb, hml, hown, hts⟩ (w_safe l dC dI gd kA ad cB bS sK sV Y ik vs kvs tl T h0 X (xs (i + 1)) (xs (i + 2)) (xs (i + 3)) H.size) (cwV 3 hts gL_law_X11_safe rfl rfl rfl hd_yX11_safe ⟨Nat.le_of_ble_eq_true rfl, Nat.le_of_ble_eq_true rfl⟩) ⟨fun a U g mk q => by obtain ⟨q0, q1, qX, qK, qY1, qY2, qG⟩ := q; exact ⟨q0, q1, qX, va_K.moved (u := U) (U := U.calling g mk a) (Vm.Alike.refl U.vm) qK, qY1, qY2, qG.same rfl rfl⟩, hLS.1.recv hLS.2.2.1, fun U hU hW => ⟨rfl, by rw [hU], by rw [hU]; exact hLS.1, va_K.moved hW.alike hLS.2.2.1, hLS.2.2.2.2.2.2.1, fun q hq hy => absurd (hLS.2.2.2.2.2.2.2.2 q hy) (Nat.not_lt.mpr hq), hGA.call hS hU hW (bl_in hLS.2.2.2.2.1 hS hA)⟩⟩ rfl rfl hl.1 rfl (lv_room (Nat.le_of_ble_eq_true rfl)) dL_law_821 ⟨by show _ ≤ 600000; omega, by show _ ≤ 7302250; omega⟩) hLS hS hA (fun r1_ u_ H locs X T hp1 hLS hS => ?_)
  obtain rfl := hp1
  have hLS : Lst dC dI ad bS Y s A h0 m0 ik vs kvs tl im vm kvm tm X T M T2 H := hLS
  refine lv_pop hx hb dL_law_824 rfl ?_
  refine lv_aload_n hx hb dL_law_825 rfl (lv_at hl 2 rfl) ?_
  refine lv_aload_n hx hb dL_law_826 rfl (lv_at hl 0 rfl) ?_
  refine lv_iload_n hx hb dL_law_827 rfl (lv_at hl 3 rfl) ?_
  refine lv_iconst (v := 1) hx hb dL_law_828 (by decide) ?_
  refine lv_iadd hx hb dL_law_829 ?_
  refine qi_as (y := nI (i + 1)) (nI_add i 1) ?_
  refine va_sld hx hb hX hbl hbA hS (vp_in_nI (n := i + 1) (N := L) (by omega) (by omega)) dL_law_830 ?_
  refine qi_as (y := xs (i + 1)) (by rw [nI_clamp (by omega)]) ?_
  refine lv_aload_n hx hb dL_law_831 rfl (lv_at hl 0 rfl) ?_
  refine lv_iload_n hx hb dL_law_832 rfl (lv_at hl 3 rfl) ?_
  refine lv_iconst (v := 2) hx hb dL_law_833 (by decide) ?_
  refine lv_iadd hx hb dL_law_834 ?_
  refine qi_as (y := nI (i + 2)) (nI_add i 2) ?_
  refine va_sld hx hb hX hbl hbA hS (vp_in_nI (n := i + 2) (N := L) (by omega) (by omega)) dL_law_835 ?_
  refine qi_as (y := xs (i + 2)) (by rw [nI_clamp (by omega)]) ?_
  refine lv_aload_n hx hb dL_law_836 rfl (lv_at hl 0 rfl) ?_
  refine lv_iload_n hx hb dL_law_837 rfl (lv_at hl 3 rfl) ?_
  refine lv_iconst (v := 3) hx hb dL_law_838 (by decide) ?_
  refine lv_iadd hx hb dL_law_839 ?_
  refine qi_as (y := nI (i + 3)) (nI_add i 3) ?_
  refine va_sld hx hb hX hbl hbA hS (vp_in_nI (n := i + 3) (N := L) (by omega) (by omega)) dL_law_840 ?_
  refine qi_as (y := xs (i + 3)) (by rw [nI_clamp (by omega)]) ?_
  refine lm_i (va_runV (As := [.int (xs (i + 1)), .int (xs (i + 2)), .int (xs (i + 3))]) (rest := []) ⟨hx, hb, hml, hown, hts⟩ (v_safe l dC dI sK sV im vm kvm tm T2 m0 M (xs (i + 1)) (xs (i + 2)) (xs (i + 3)) H.size) (cwV 3 hts gL_law_X12_safe rfl rfl rfl hd_yX12_safe ⟨Nat.le_of_ble_eq_true rfl, Nat.le_of_ble_eq_true rfl⟩) ⟨fun a U g mk q => by obtain ⟨q0, q1, qX, qK, qG⟩ := q; exact ⟨q0, q1, qX, va_K.moved (u := U) (U := U.calling g mk a) (Vm.Alike.refl U.vm) qK, qG.same rfl rfl⟩, hLS.2.1.recv hLS.2.2.2.1, fun U hU hW => ⟨rfl, by rw [hU], by rw [hU]; exact hLS.2.1, va_K.moved hW.alike hLS.2.2.2.1, hGA.2.2.2.2.2.2.call hS hU hW (bl_in hLS.2.2.2.2.2.1 hS hA)⟩⟩ rfl rfl hl.1 rfl (lv_room (Nat.le_of_ble_eq_true rfl)) dL_law_841 ⟨by show _ ≤ 600000; omega, by show _ ≤ 7302250; omega⟩) hLS hS hA (fun r2_ u_ H locs M hp2 hLS hS => ?_)
  obtain rfl := hp2
  have hLS : Lst dC dI ad bS Y s A h0 m0 ik vs kvs tl im vm kvm tm X T M T2 H := hLS
  refine lv_pop hx hb dL_law_844 rfl ?_
  refine lv_goto (tgt := 1108) hx hb dL_law_845 (by decide) ?_
  refine W.widen (k := cells + 8) (n := slots + 200) (by omega) (by omega) ?_
  exact kk ik vs kvs tl im vm kvm tm X T M H locs hLS hcp hS

set_option maxHeartbeats 4000000 in
set_option maxRecDepth 100000 in
theorem lc_20 {p : Program} {l : Launch} {e : Env} {s : State} {m : MethodId} {below : List Frame} {meth : Method} {c : Code} {b L : Nat} {xs : Nat → Int32} {A : Nat → Prop} (hAe : A = fun q => s.heap.size ≤ q) (C0 : lw_At p s m meth c b L xs) (dC : Nat → ClassId) (dI : Nat → Nat → Nat) (gd : Nat → Nat) (kA : Nat) (ad : Nat → Nat) (cB bS : Nat) (sK sV : Nat → Nat) (Y : Nat → Prop) (h0 m0 : Nat) (ik : Int32) (vs kvs : VS) (tl : List Nat) (im : Int32) (vm kvm : VS) (tm : List Nat) (X : va_W) (T : List (ClassId × FieldType)) (M : va_W) (T2 : List (ClassId × FieldType)) (hGA : GA gd kA ad cB bS sK sV A s) (i : Nat) (hi : i + 5 ≤ L) (hL : L ≤ 320) (H : Heap) (locs : List Loc) (hLS : Lst dC dI ad bS Y s A h0 m0 ik vs kvs tl im vm kvm tm X T M T2 H) (cells slots : Nat) (hc0 : cells ≤ 590000) (hs0 : slots ≤ 7000000) (hS : va_S A s.heap H locs) (ls : Array Slot) (hl : lv_has ls 4 [(0, .ref b), (1, .ref h0), (2, .ref m0), (3, .int (nI i))]) (hcp : ik = im ∧ vs = vm ∧ (im = 0 ∨ kvs = kvm) ∧ tl = tm) (kk : ∀ (ik : Int32) (vs kvs : VS) (tl : List Nat) (im : Int32) (vm kvm : VS) (tm : List Nat) (X : va_W) (T : List (ClassId × FieldType)) (M : va_W) (H : Heap) (locs : List Loc), Lst dC dI ad bS Y s A h0 m0 ik vs kvs tl im vm kvm tm X T M T2 H → (ik = im ∧ vs = vm ∧ (im = 0 ∨ kvs = kvm) ∧ tl = tm) → va_S A s.heap H locs → W p l e room_1 s m #[Value.ref b] below meth c H locs (cells + 8) (slots + 200) (lw_Z below #[Value.ref b] s) (F0 m 1108 ls [])) : W p l e room_1 s m #[Value.ref b] below meth c H locs cells slots (lw_Z below #[Value.ref b] s) (F0 m 848 ls []) := by
  obtain ⟨hx, hb, hr, hml, hown, hts0, hX, hbl, hlocks, hgv⟩ := id C0
  have hown : s.vm.findClass RL = some m.cls := hown
  have hb : c.code = cL_law := hb
  have hts : ∀ w ∈ lw_tbl, w.before #[Value.ref b] s = true := fun w h => hts0 w (wsL_law_in w h)
  have hA : ∀ q : Nat, s.heap.size ≤ q → A q := fun q h => by rw [hAe]; exact h
  have hbA : ¬ A b := by rw [hAe]; exact Nat.not_le.mpr hbl
  refine lv_aload_n hx hb dL_law_848 rfl (lv_at hl 1 rfl) ?_
  refine lv_aload_n hx hb dL_law_849 rfl (lv_at hl 0 rfl) ?_
  refine lv_iload_n hx hb dL_law_850 rfl (lv_at hl 3 rfl) ?_
  refine lv_iconst (v := 1) hx hb dL_law_851 (by decide) ?_
  refine lv_iadd hx hb dL_law_852 ?_
  refine qi_as (y := nI (i + 1)) (nI_add i 1) ?_
  refine va_sld hx hb hX hbl hbA hS (vp_in_nI (n := i + 1) (N := L) (by omega) (by omega)) dL_law_853 ?_
  refine qi_as (y := xs (i + 1)) (by rw [nI_clamp (by omega)]) ?_
  refine lv_aload_n hx hb dL_law_854 rfl (lv_at hl 0 rfl) ?_
  refine lv_iload_n hx hb dL_law_855 rfl (lv_at hl 3 rfl) ?_
  refine lv_iconst (v := 2) hx hb dL_law_856 (by decide) ?_
  refine lv_iadd hx hb dL_law_857 ?_
  refine qi_as (y := nI (i + 2)) (nI_add i 2) ?_
  refine va_sld hx hb hX hbl hbA hS (vp_in_nI (n := i + 2) (N := L) (by omega) (by omega)) dL_law_858 ?_
  refine qi_as (y := xs (i + 2)) (by rw [nI_clamp (by omega)]) ?_
  refine lx_i (va_runV (As := [.int (xs (i + 1)), .int (xs (i + 2))]) (rest := []) ⟨hx, hb, hml, hown, hts⟩ (w_line l dC dI gd kA ad cB bS sK sV Y ik vs kvs tl T h0 X (xs (i + 1)) (xs (i + 2)) H.size) (cwV 2 hts gL_law_X11_line rfl rfl rfl hd_yX11_line ⟨Nat.le_of_ble_eq_true rfl, Nat.le_of_ble_eq_true rfl⟩) ⟨fun a U g mk q => by obtain ⟨q0, q1, qX, qK, qY1, qY2, qG⟩ := q; exact ⟨q0, q1, qX, va_K.moved (u := U) (U := U.calling g mk a) (Vm.Alike.refl U.vm) qK, qY1, qY2, qG.same rfl rfl⟩, hLS.1.recv hLS.2.2.1, fun U hU hW => ⟨rfl, by rw [hU], by rw [hU]; exact hLS.1, va_K.moved hW.alike hLS.2.2.1, hLS.2.2.2.2.2.2.1, fun q hq hy => absurd (hLS.2.2.2.2.2.2.2.2 q hy) (Nat.not_lt.mpr hq), hGA.call hS hU hW (bl_in hLS.2.2.2.2.1 hS hA)⟩⟩ rfl rfl hl.1 rfl (lv_room (Nat.le_of_ble_eq_true rfl)) dL_law_859 ⟨by show _ ≤ 600000; omega, by show _ ≤ 7302250; omega⟩) hLS hS hA (fun r1_ u_ H locs X T hp1 hLS hS => ?_)
  obtain ⟨e1_, rfl⟩ := hp1
  have hLS : Lst dC dI ad bS Y s A h0 m0 ik vs kvs tl im vm kvm tm X T M T2 H := hLS
  refine lv_aload_n hx hb dL_law_862 rfl (lv_at hl 2 rfl) ?_
  refine lv_aload_n hx hb dL_law_863 rfl (lv_at hl 0 rfl) ?_
  refine lv_iload_n hx hb dL_law_864 rfl (lv_at hl 3 rfl) ?_
  refine lv_iconst (v := 1) hx hb dL_law_865 (by decide) ?_
  refine lv_iadd hx hb dL_law_866 ?_
  refine qi_as (y := nI (i + 1)) (nI_add i 1) ?_
  refine va_sld hx hb hX hbl hbA hS (vp_in_nI (n := i + 1) (N := L) (by omega) (by omega)) dL_law_867 ?_
  refine qi_as (y := xs (i + 1)) (by rw [nI_clamp (by omega)]) ?_
  refine lv_aload_n hx hb dL_law_868 rfl (lv_at hl 0 rfl) ?_
  refine lv_iload_n hx hb dL_law_869 rfl (lv_at hl 3 rfl) ?_
  refine lv_iconst (v := 2) hx hb dL_law_870 (by decide) ?_
  refine lv_iadd hx hb dL_law_871 ?_
  refine qi_as (y := nI (i + 2)) (nI_add i 2) ?_
  refine va_sld hx hb hX hbl hbA hS (vp_in_nI (n := i + 2) (N := L) (by omega) (by omega)) dL_law_872 ?_
  refine qi_as (y := xs (i + 2)) (by rw [nI_clamp (by omega)]) ?_
  refine lm_i (va_runV (As := [.int (xs (i + 1)), .int (xs (i + 2))]) (rest := [.int r1_]) ⟨hx, hb, hml, hown, hts⟩ (v_line l dC dI sK sV im vm kvm tm T2 m0 M (xs (i + 1)) (xs (i + 2)) H.size) (cwV 2 hts gL_law_X12_line rfl rfl rfl hd_yX12_line ⟨Nat.le_of_ble_eq_true rfl, Nat.le_of_ble_eq_true rfl⟩) ⟨fun a U g mk q => by obtain ⟨q0, q1, qX, qK, qG⟩ := q; exact ⟨q0, q1, qX, va_K.moved (u := U) (U := U.calling g mk a) (Vm.Alike.refl U.vm) qK, qG.same rfl rfl⟩, hLS.2.1.recv hLS.2.2.2.1, fun U hU hW => ⟨rfl, by rw [hU], by rw [hU]; exact hLS.2.1, va_K.moved hW.alike hLS.2.2.2.1, hGA.2.2.2.2.2.2.call hS hU hW (bl_in hLS.2.2.2.2.2.1 hS hA)⟩⟩ rfl rfl hl.1 rfl (lv_room (Nat.le_of_ble_eq_true rfl)) dL_law_873 ⟨by show _ ≤ 600000; omega, by show _ ≤ 7302250; omega⟩) hLS hS hA (fun r2_ u_ H locs M hp2 hLS hS => ?_)
  obtain ⟨e2_, rfl⟩ := hp2
  have hLS : Lst dC dI ad bS Y s A h0 m0 ik vs kvs tl im vm kvm tm X T M T2 H := hLS
  refine lv_icmp_eq (tgt := 1108) hx hb dL_law_876 (by decide) (fun c_1 => ?_) (fun c_1 => absurd c_1 (not_not_intro (by rw [e1_, e2_, hcp.2.1])))
  refine W.widen (k := cells + 8) (n := slots + 200) (by omega) (by omega) ?_
  exact kk ik vs kvs tl im vm kvm tm X T M H locs hLS ⟨hcp.1, by rw [hcp.2.1], hcp.2.2⟩ hS
