def dk22ncase_cL_law_0 : List (Nat × Instr × Nat) := [(881, .aload_n 1, 1), (882, .aload_n 0, 1), (883, .iload_n 3, 1), (884, .iconst 1, 1), (885, .iadd, 1), (886, .iaload, 1), (887, .aload_n 0, 1), (888, .iload_n 3, 1), (889, .iconst 2, 1), (890, .iadd, 1), (891, .iaload, 1), (892, .aload_n 0, 1), (893, .iload_n 3, 1), (894, .iconst 3, 1), (895, .iadd, 1), (896, .iaload, 1), (897, .invokevirtual 108, 3), (900, .pop, 1), (901, .aload_n 2, 1), (902, .aload_n 0, 1), (903, .iload_n 3, 1), (904, .iconst 1, 1), (905, .iadd, 1), (906, .iaload, 1), (907, .aload_n 0, 1), (908, .iload_n 3, 1), (909, .iconst 2, 1), (910, .iadd, 1), (911, .iaload, 1), (912, .aload_n 0, 1), (913, .iload_n 3, 1), (914, .iconst 3, 1), (915, .iadd, 1), (916, .iaload, 1), (917, .invokevirtual 111, 3), (920, .pop, 1), (921, .goto 187, 3), (924, .aload_n 1, 1), (925, .aload_n 0, 1), (926, .iload_n 3, 1)]
set_option maxRecDepth 100000 in
theorem dk22ncase_cL_law_0_a : dkA cL_law dk22ncase_cL_law_0 = true := by decide +kernel
theorem dL_law_881 : decode cL_law 881 = .ok (.aload_n 1, 1) := dkAt dk22ncase_cL_law_0_a 0 rfl
theorem dL_law_882 : decode cL_law 882 = .ok (.aload_n 0, 1) := dkAt dk22ncase_cL_law_0_a 1 rfl
theorem dL_law_883 : decode cL_law 883 = .ok (.iload_n 3, 1) := dkAt dk22ncase_cL_law_0_a 2 rfl
theorem dL_law_884 : decode cL_law 884 = .ok (.iconst 1, 1) := dkAt dk22ncase_cL_law_0_a 3 rfl
theorem dL_law_885 : decode cL_law 885 = .ok (.iadd, 1) := dkAt dk22ncase_cL_law_0_a 4 rfl
theorem dL_law_886 : decode cL_law 886 = .ok (.iaload, 1) := dkAt dk22ncase_cL_law_0_a 5 rfl
theorem dL_law_887 : decode cL_law 887 = .ok (.aload_n 0, 1) := dkAt dk22ncase_cL_law_0_a 6 rfl
theorem dL_law_888 : decode cL_law 888 = .ok (.iload_n 3, 1) := dkAt dk22ncase_cL_law_0_a 7 rfl
theorem dL_law_889 : decode cL_law 889 = .ok (.iconst 2, 1) := dkAt dk22ncase_cL_law_0_a 8 rfl
theorem dL_law_890 : decode cL_law 890 = .ok (.iadd, 1) := dkAt dk22ncase_cL_law_0_a 9 rfl
theorem dL_law_891 : decode cL_law 891 = .ok (.iaload, 1) := dkAt dk22ncase_cL_law_0_a 10 rfl
theorem dL_law_892 : decode cL_law 892 = .ok (.aload_n 0, 1) := dkAt dk22ncase_cL_law_0_a 11 rfl
theorem dL_law_893 : decode cL_law 893 = .ok (.iload_n 3, 1) := dkAt dk22ncase_cL_law_0_a 12 rfl
theorem dL_law_894 : decode cL_law 894 = .ok (.iconst 3, 1) := dkAt dk22ncase_cL_law_0_a 13 rfl
theorem dL_law_895 : decode cL_law 895 = .ok (.iadd, 1) := dkAt dk22ncase_cL_law_0_a 14 rfl
theorem dL_law_896 : decode cL_law 896 = .ok (.iaload, 1) := dkAt dk22ncase_cL_law_0_a 15 rfl
theorem dL_law_897 : decode cL_law 897 = .ok (.invokevirtual 108, 3) := dkAt dk22ncase_cL_law_0_a 16 rfl
theorem dL_law_900 : decode cL_law 900 = .ok (.pop, 1) := dkAt dk22ncase_cL_law_0_a 17 rfl
theorem dL_law_901 : decode cL_law 901 = .ok (.aload_n 2, 1) := dkAt dk22ncase_cL_law_0_a 18 rfl
theorem dL_law_902 : decode cL_law 902 = .ok (.aload_n 0, 1) := dkAt dk22ncase_cL_law_0_a 19 rfl
theorem dL_law_903 : decode cL_law 903 = .ok (.iload_n 3, 1) := dkAt dk22ncase_cL_law_0_a 20 rfl
theorem dL_law_904 : decode cL_law 904 = .ok (.iconst 1, 1) := dkAt dk22ncase_cL_law_0_a 21 rfl
theorem dL_law_905 : decode cL_law 905 = .ok (.iadd, 1) := dkAt dk22ncase_cL_law_0_a 22 rfl
theorem dL_law_906 : decode cL_law 906 = .ok (.iaload, 1) := dkAt dk22ncase_cL_law_0_a 23 rfl
theorem dL_law_907 : decode cL_law 907 = .ok (.aload_n 0, 1) := dkAt dk22ncase_cL_law_0_a 24 rfl
theorem dL_law_908 : decode cL_law 908 = .ok (.iload_n 3, 1) := dkAt dk22ncase_cL_law_0_a 25 rfl
theorem dL_law_909 : decode cL_law 909 = .ok (.iconst 2, 1) := dkAt dk22ncase_cL_law_0_a 26 rfl
theorem dL_law_910 : decode cL_law 910 = .ok (.iadd, 1) := dkAt dk22ncase_cL_law_0_a 27 rfl
theorem dL_law_911 : decode cL_law 911 = .ok (.iaload, 1) := dkAt dk22ncase_cL_law_0_a 28 rfl
theorem dL_law_912 : decode cL_law 912 = .ok (.aload_n 0, 1) := dkAt dk22ncase_cL_law_0_a 29 rfl
theorem dL_law_913 : decode cL_law 913 = .ok (.iload_n 3, 1) := dkAt dk22ncase_cL_law_0_a 30 rfl
theorem dL_law_914 : decode cL_law 914 = .ok (.iconst 3, 1) := dkAt dk22ncase_cL_law_0_a 31 rfl
theorem dL_law_915 : decode cL_law 915 = .ok (.iadd, 1) := dkAt dk22ncase_cL_law_0_a 32 rfl
theorem dL_law_916 : decode cL_law 916 = .ok (.iaload, 1) := dkAt dk22ncase_cL_law_0_a 33 rfl
theorem dL_law_917 : decode cL_law 917 = .ok (.invokevirtual 111, 3) := dkAt dk22ncase_cL_law_0_a 34 rfl
theorem dL_law_920 : decode cL_law 920 = .ok (.pop, 1) := dkAt dk22ncase_cL_law_0_a 35 rfl
theorem dL_law_921 : decode cL_law 921 = .ok (.goto 187, 3) := dkAt dk22ncase_cL_law_0_a 36 rfl
theorem dL_law_924 : decode cL_law 924 = .ok (.aload_n 1, 1) := dkAt dk22ncase_cL_law_0_a 37 rfl
theorem dL_law_925 : decode cL_law 925 = .ok (.aload_n 0, 1) := dkAt dk22ncase_cL_law_0_a 38 rfl
theorem dL_law_926 : decode cL_law 926 = .ok (.iload_n 3, 1) := dkAt dk22ncase_cL_law_0_a 39 rfl
def dk22ncase_cL_law_40 : List (Nat × Instr × Nat) := [(927, .iconst 1, 1), (928, .iadd, 1), (929, .iaload, 1), (930, .invokevirtual 112, 3), (933, .pop, 1), (934, .aload_n 2, 1), (935, .aload_n 0, 1), (936, .iload_n 3, 1), (937, .iconst 1, 1), (938, .iadd, 1), (939, .iaload, 1), (940, .invokevirtual 115, 3), (943, .pop, 1), (944, .goto 164, 3)]
set_option maxRecDepth 100000 in
theorem dk22ncase_cL_law_40_a : dkA cL_law dk22ncase_cL_law_40 = true := by decide +kernel
theorem dL_law_927 : decode cL_law 927 = .ok (.iconst 1, 1) := dkAt dk22ncase_cL_law_40_a 0 rfl
theorem dL_law_928 : decode cL_law 928 = .ok (.iadd, 1) := dkAt dk22ncase_cL_law_40_a 1 rfl
theorem dL_law_929 : decode cL_law 929 = .ok (.iaload, 1) := dkAt dk22ncase_cL_law_40_a 2 rfl
theorem dL_law_930 : decode cL_law 930 = .ok (.invokevirtual 112, 3) := dkAt dk22ncase_cL_law_40_a 3 rfl
theorem dL_law_933 : decode cL_law 933 = .ok (.pop, 1) := dkAt dk22ncase_cL_law_40_a 4 rfl
theorem dL_law_934 : decode cL_law 934 = .ok (.aload_n 2, 1) := dkAt dk22ncase_cL_law_40_a 5 rfl
theorem dL_law_935 : decode cL_law 935 = .ok (.aload_n 0, 1) := dkAt dk22ncase_cL_law_40_a 6 rfl
theorem dL_law_936 : decode cL_law 936 = .ok (.iload_n 3, 1) := dkAt dk22ncase_cL_law_40_a 7 rfl
theorem dL_law_937 : decode cL_law 937 = .ok (.iconst 1, 1) := dkAt dk22ncase_cL_law_40_a 8 rfl
theorem dL_law_938 : decode cL_law 938 = .ok (.iadd, 1) := dkAt dk22ncase_cL_law_40_a 9 rfl
theorem dL_law_939 : decode cL_law 939 = .ok (.iaload, 1) := dkAt dk22ncase_cL_law_40_a 10 rfl
theorem dL_law_940 : decode cL_law 940 = .ok (.invokevirtual 115, 3) := dkAt dk22ncase_cL_law_40_a 11 rfl
theorem dL_law_943 : decode cL_law 943 = .ok (.pop, 1) := dkAt dk22ncase_cL_law_40_a 12 rfl
theorem dL_law_944 : decode cL_law 944 = .ok (.goto 164, 3) := dkAt dk22ncase_cL_law_40_a 13 rfl
set_option maxHeartbeats 4000000 in
set_option maxRecDepth 100000 in
theorem lc_21 {p : Program} {l : Launch} {e : Env} {s : State} {m : MethodId} {below : List Frame} {meth : Method} {c : Code} {b L : Nat} {xs : Nat → Int32} {A : Nat → Prop} (hAe : A = fun q => s.heap.size ≤ q) (C0 : lw_At p s m meth c b L xs) (dC : Nat → ClassId) (dI : Nat → Nat → Nat) (gd : Nat → Nat) (kA : Nat) (ad : Nat → Nat) (cB bS : Nat) (sK sV : Nat → Nat) (Y : Nat → Prop) (h0 m0 : Nat) (ik : Int32) (vs kvs : VS) (tl : List Nat) (im : Int32) (vm kvm : VS) (tm : List Nat) (X : va_W) (T : List (ClassId × FieldType)) (M : va_W) (T2 : List (ClassId × FieldType)) (hGA : GA gd kA ad cB bS sK sV A s) (i : Nat) (hi : i + 5 ≤ L) (hL : L ≤ 320) (H : Heap) (locs : List Loc) (hLS : Lst dC dI ad bS Y s A h0 m0 ik vs kvs tl im vm kvm tm X T M T2 H) (cells slots : Nat) (hc0 : cells ≤ 590000) (hs0 : slots ≤ 7000000) (hS : va_S A s.heap H locs) (ls : Array Slot) (hl : lv_has ls 4 [(0, .ref b), (1, .ref h0), (2, .ref m0), (3, .int (nI i))]) (hcp : ik = im ∧ vs = vm ∧ (im = 0 ∨ kvs = kvm) ∧ tl = tm) (kk : ∀ (ik : Int32) (vs kvs : VS) (tl : List Nat) (im : Int32) (vm kvm : VS) (tm : List Nat) (X : va_W) (T : List (ClassId × FieldType)) (M : va_W) (H : Heap) (locs : List Loc), Lst dC dI ad bS Y s A h0 m0 ik vs kvs tl im vm kvm tm X T M T2 H → (ik = im ∧ vs = vm ∧ (im = 0 ∨ kvs = kvm) ∧ tl = tm) → va_S A s.heap H locs → W p l e room_1 s m #[Value.ref b] below meth c H locs (cells + 8) (slots + 200) (lw_Z below #[Value.ref b] s) (F0 m 1108 ls [])) : W p l e room_1 s m #[Value.ref b] below meth c H locs cells slots (lw_Z below #[Value.ref b] s) (F0 m 881 ls []) := by
  obtain ⟨hx, hb, hr, hml, hown, hts0, hX, hbl, hlocks, hgv⟩ := id C0
  have hown : s.vm.findClass RL = some m.cls := hown
  have hb : c.code = cL_law := hb
  have hts : ∀ w ∈ lw_tbl, w.before #[Value.ref b] s = true := fun w h => hts0 w (wsL_law_in w h)
  have hA : ∀ q : Nat, s.heap.size ≤ q → A q := fun q h => by rw [hAe]; exact h
  have hbA : ¬ A b := by rw [hAe]; exact Nat.not_le.mpr hbl
  refine lv_aload_n hx hb dL_law_881 rfl (lv_at hl 1 rfl) ?_
  refine lv_aload_n hx hb dL_law_882 rfl (lv_at hl 0 rfl) ?_
  refine lv_iload_n hx hb dL_law_883 rfl (lv_at hl 3 rfl) ?_
  refine lv_iconst (v := 1) hx hb dL_law_884 (by decide) ?_
  refine lv_iadd hx hb dL_law_885 ?_
  refine qi_as (y := nI (i + 1)) (nI_add i 1) ?_
  refine va_sld hx hb hX hbl hbA hS (vp_in_nI (n := i + 1) (N := L) (by omega) (by omega)) dL_law_886 ?_
  refine qi_as (y := xs (i + 1)) (by rw [nI_clamp (by omega)]) ?_
  refine lv_aload_n hx hb dL_law_887 rfl (lv_at hl 0 rfl) ?_
  refine lv_iload_n hx hb dL_law_888 rfl (lv_at hl 3 rfl) ?_
  refine lv_iconst (v := 2) hx hb dL_law_889 (by decide) ?_
  refine lv_iadd hx hb dL_law_890 ?_
  refine qi_as (y := nI (i + 2)) (nI_add i 2) ?_
  refine va_sld hx hb hX hbl hbA hS (vp_in_nI (n := i + 2) (N := L) (by omega) (by omega)) dL_law_891 ?_
  refine qi_as (y := xs (i + 2)) (by rw [nI_clamp (by omega)]) ?_
  refine lv_aload_n hx hb dL_law_892 rfl (lv_at hl 0 rfl) ?_
  refine lv_iload_n hx hb dL_law_893 rfl (lv_at hl 3 rfl) ?_
  refine lv_iconst (v := 3) hx hb dL_law_894 (by decide) ?_
  refine lv_iadd hx hb dL_law_895 ?_
  refine qi_as (y := nI (i + 3)) (nI_add i 3) ?_
  refine va_sld hx hb hX hbl hbA hS (vp_in_nI (n := i + 3) (N := L) (by omega) (by omega)) dL_law_896 ?_
  refine qi_as (y := xs (i + 3)) (by rw [nI_clamp (by omega)]) ?_
  refine lx_i (va_runV (As := [.int (xs (i + 1)), .int (xs (i + 2)), .int (xs (i + 3))]) (rest := []) ⟨hx, hb, hml, hown, hts⟩ (w_next l dC dI gd kA ad cB bS sK sV Y ik vs kvs tl T h0 X (xs (i + 1)) (xs (i + 2)) (xs (i + 3)) H.size) (cwV 3 hts gL_law_X11_next rfl rfl rfl hd_yX11_next ⟨Nat.le_of_ble_eq_true rfl, Nat.le_of_ble_eq_true rfl⟩) ⟨fun a U g mk q => by obtain ⟨q0, q1, qX, qK, qY1, qY2, qG⟩ := q; exact ⟨q0, q1, qX, va_K.moved (u := U) (U := U.calling g mk a) (Vm.Alike.refl U.vm) qK, qY1, qY2, qG.same rfl rfl⟩, hLS.1.recv hLS.2.2.1, fun U hU hW => ⟨rfl, by rw [hU], by rw [hU]; exact hLS.1, va_K.moved hW.alike hLS.2.2.1, hLS.2.2.2.2.2.2.1, fun q hq hy => absurd (hLS.2.2.2.2.2.2.2.2 q hy) (Nat.not_lt.mpr hq), hGA.call hS hU hW (bl_in hLS.2.2.2.2.1 hS hA)⟩⟩ rfl rfl hl.1 rfl (lv_room (Nat.le_of_ble_eq_true rfl)) dL_law_897 ⟨by show _ ≤ 600000; omega, by show _ ≤ 7302250; omega⟩) hLS hS hA (fun r1_ u_ H locs X T hp1 hLS hS => ?_)
  obtain ⟨e1_, rfl⟩ := hp1
  have hLS : Lst dC dI ad bS Y s A h0 m0 ik vs kvs tl im vm kvm tm X T M T2 H := hLS
  refine lv_pop hx hb dL_law_900 rfl ?_
  refine lv_aload_n hx hb dL_law_901 rfl (lv_at hl 2 rfl) ?_
  refine lv_aload_n hx hb dL_law_902 rfl (lv_at hl 0 rfl) ?_
  refine lv_iload_n hx hb dL_law_903 rfl (lv_at hl 3 rfl) ?_
  refine lv_iconst (v := 1) hx hb dL_law_904 (by decide) ?_
  refine lv_iadd hx hb dL_law_905 ?_
  refine qi_as (y := nI (i + 1)) (nI_add i 1) ?_
  refine va_sld hx hb hX hbl hbA hS (vp_in_nI (n := i + 1) (N := L) (by omega) (by omega)) dL_law_906 ?_
  refine qi_as (y := xs (i + 1)) (by rw [nI_clamp (by omega)]) ?_
  refine lv_aload_n hx hb dL_law_907 rfl (lv_at hl 0 rfl) ?_
  refine lv_iload_n hx hb dL_law_908 rfl (lv_at hl 3 rfl) ?_
  refine lv_iconst (v := 2) hx hb dL_law_909 (by decide) ?_
  refine lv_iadd hx hb dL_law_910 ?_
  refine qi_as (y := nI (i + 2)) (nI_add i 2) ?_
  refine va_sld hx hb hX hbl hbA hS (vp_in_nI (n := i + 2) (N := L) (by omega) (by omega)) dL_law_911 ?_
  refine qi_as (y := xs (i + 2)) (by rw [nI_clamp (by omega)]) ?_
  refine lv_aload_n hx hb dL_law_912 rfl (lv_at hl 0 rfl) ?_
  refine lv_iload_n hx hb dL_law_913 rfl (lv_at hl 3 rfl) ?_
  refine lv_iconst (v := 3) hx hb dL_law_914 (by decide) ?_
  refine lv_iadd hx hb dL_law_915 ?_
  refine qi_as (y := nI (i + 3)) (nI_add i 3) ?_
  refine va_sld hx hb hX hbl hbA hS (vp_in_nI (n := i + 3) (N := L) (by omega) (by omega)) dL_law_916 ?_
  refine qi_as (y := xs (i + 3)) (by rw [nI_clamp (by omega)]) ?_
  refine lm_i (va_runV (As := [.int (xs (i + 1)), .int (xs (i + 2)), .int (xs (i + 3))]) (rest := []) ⟨hx, hb, hml, hown, hts⟩ (v_next l dC dI sK sV im vm kvm tm T2 m0 M (xs (i + 1)) (xs (i + 2)) (xs (i + 3)) H.size) (cwV 3 hts gL_law_X12_next rfl rfl rfl hd_yX12_next ⟨Nat.le_of_ble_eq_true rfl, Nat.le_of_ble_eq_true rfl⟩) ⟨fun a U g mk q => by obtain ⟨q0, q1, qX, qK, qG⟩ := q; exact ⟨q0, q1, qX, va_K.moved (u := U) (U := U.calling g mk a) (Vm.Alike.refl U.vm) qK, qG.same rfl rfl⟩, hLS.2.1.recv hLS.2.2.2.1, fun U hU hW => ⟨rfl, by rw [hU], by rw [hU]; exact hLS.2.1, va_K.moved hW.alike hLS.2.2.2.1, hGA.2.2.2.2.2.2.call hS hU hW (bl_in hLS.2.2.2.2.2.1 hS hA)⟩⟩ rfl rfl hl.1 rfl (lv_room (Nat.le_of_ble_eq_true rfl)) dL_law_917 ⟨by show _ ≤ 600000; omega, by show _ ≤ 7302250; omega⟩) hLS hS hA (fun r2_ u_ H locs M hp2 hLS hS => ?_)
  obtain ⟨e2_, rfl⟩ := hp2
  have hLS : Lst dC dI ad bS Y s A h0 m0 ik vs kvs tl im vm kvm tm X T M T2 H := hLS
  refine lv_pop hx hb dL_law_920 rfl ?_
  refine lv_goto (tgt := 1108) hx hb dL_law_921 (by decide) ?_
  refine W.widen (k := cells + 8) (n := slots + 200) (by omega) (by omega) ?_
  exact kk ik vs kvs tl im vm kvm tm X T M H locs hLS ⟨hcp.1, by rw [hcp.2.1], hcp.2.2⟩ hS

set_option maxHeartbeats 4000000 in
set_option maxRecDepth 100000 in
theorem lc_22 {p : Program} {l : Launch} {e : Env} {s : State} {m : MethodId} {below : List Frame} {meth : Method} {c : Code} {b L : Nat} {xs : Nat → Int32} {A : Nat → Prop} (hAe : A = fun q => s.heap.size ≤ q) (C0 : lw_At p s m meth c b L xs) (dC : Nat → ClassId) (dI : Nat → Nat → Nat) (gd : Nat → Nat) (kA : Nat) (ad : Nat → Nat) (cB bS : Nat) (sK sV : Nat → Nat) (Y : Nat → Prop) (h0 m0 : Nat) (ik : Int32) (vs kvs : VS) (tl : List Nat) (im : Int32) (vm kvm : VS) (tm : List Nat) (X : va_W) (T : List (ClassId × FieldType)) (M : va_W) (T2 : List (ClassId × FieldType)) (hGA : GA gd kA ad cB bS sK sV A s) (i : Nat) (hi : i + 5 ≤ L) (hL : L ≤ 320) (H : Heap) (locs : List Loc) (hLS : Lst dC dI ad bS Y s A h0 m0 ik vs kvs tl im vm kvm tm X T M T2 H) (cells slots : Nat) (hc0 : cells ≤ 590000) (hs0 : slots ≤ 7000000) (hS : va_S A s.heap H locs) (ls : Array Slot) (hl : lv_has ls 4 [(0, .ref b), (1, .ref h0), (2, .ref m0), (3, .int (nI i))]) (hcp : ik = im ∧ vs = vm ∧ (im = 0 ∨ kvs = kvm) ∧ tl = tm) (kk : ∀ (ik : Int32) (vs kvs : VS) (tl : List Nat) (im : Int32) (vm kvm : VS) (tm : List Nat) (X : va_W) (T : List (ClassId × FieldType)) (M : va_W) (H : Heap) (locs : List Loc), Lst dC dI ad bS Y s A h0 m0 ik vs kvs tl im vm kvm tm X T M T2 H → (ik = im ∧ vs = vm ∧ (im = 0 ∨ kvs = kvm) ∧ tl = tm) → va_S A s.heap H locs → W p l e room_1 s m #[Value.ref b] below meth c H locs (cells + 8) (slots + 200) (lw_Z below #[Value.ref b] s) (F0 m 1108 ls [])) : W p l e room_1 s m #[Value.ref b] below meth c H locs cells slots (lw_Z below #[Value.ref b] s) (F0 m 924 ls []) := by
  obtain ⟨hx, hb, hr, hml, hown, hts0, hX, hbl, hlocks, hgv⟩ := id C0
  have hown : s.vm.findClass RL = some m.cls := hown
  have hb : c.code = cL_law := hb
  have hts : ∀ w ∈ lw_tbl, w.before #[Value.ref b] s = true := fun w h => hts0 w (wsL_law_in w h)
  have hA : ∀ q : Nat, s.heap.size ≤ q → A q := fun q h => by rw [hAe]; exact h
  have hbA : ¬ A b := by rw [hAe]; exact Nat.not_le.mpr hbl
  refine lv_aload_n hx hb dL_law_924 rfl (lv_at hl 1 rfl) ?_
  refine lv_aload_n hx hb dL_law_925 rfl (lv_at hl 0 rfl) ?_
  refine lv_iload_n hx hb dL_law_926 rfl (lv_at hl 3 rfl) ?_
  refine lv_iconst (v := 1) hx hb dL_law_927 (by decide) ?_
  refine lv_iadd hx hb dL_law_928 ?_
  refine qi_as (y := nI (i + 1)) (nI_add i 1) ?_
  refine va_sld hx hb hX hbl hbA hS (vp_in_nI (n := i + 1) (N := L) (by omega) (by omega)) dL_law_929 ?_
  refine qi_as (y := xs (i + 1)) (by rw [nI_clamp (by omega)]) ?_
  refine lx_i (va_runV (As := [.int (xs (i + 1))]) (rest := []) ⟨hx, hb, hml, hown, hts⟩ (w_book l dC dI gd kA ad cB bS sK sV Y ik vs kvs tl T h0 X (xs (i + 1)) H.size) (cwV 1 hts gL_law_X11_book rfl rfl rfl hd_yX11_book ⟨Nat.le_of_ble_eq_true rfl, Nat.le_of_ble_eq_true rfl⟩) ⟨fun a U g mk q => by obtain ⟨q0, q1, qX, qK, qY1, qY2, qG⟩ := q; exact ⟨q0, q1, qX, va_K.moved (u := U) (U := U.calling g mk a) (Vm.Alike.refl U.vm) qK, qY1, qY2, qG.same rfl rfl⟩, hLS.1.recv hLS.2.2.1, fun U hU hW => ⟨rfl, by rw [hU], by rw [hU]; exact hLS.1, va_K.moved hW.alike hLS.2.2.1, hLS.2.2.2.2.2.2.1, fun q hq hy => absurd (hLS.2.2.2.2.2.2.2.2 q hy) (Nat.not_lt.mpr hq), hGA.call hS hU hW (bl_in hLS.2.2.2.2.1 hS hA)⟩⟩ rfl rfl hl.1 rfl (lv_room (Nat.le_of_ble_eq_true rfl)) dL_law_930 ⟨by show _ ≤ 600000; omega, by show _ ≤ 7302250; omega⟩) hLS hS hA (fun r1_ u_ H locs X T hp1 hLS hS => ?_)
  obtain ⟨e1_, rfl⟩ := hp1
  have hLS : Lst dC dI ad bS Y s A h0 m0 ik (vs.1, vs.2.1, bkN vs.1 vs.2.2.1 (xs (i + 1)), vs.2.2.2.1, vs.2.2.2.2.1, vs.2.2.2.2.2.1, vs.2.2.2.2.2.2.1, vs.2.2.2.2.2.2.2.1, vs.2.2.2.2.2.2.2.2.1, vs.2.2.2.2.2.2.2.2.2.1, vs.2.2.2.2.2.2.2.2.2.2.1, vs.2.2.2.2.2.2.2.2.2.2.2.1, vs.2.2.2.2.2.2.2.2.2.2.2.2) kvs tl im vm kvm tm X T M T2 H := hLS
  refine lv_pop hx hb dL_law_933 rfl ?_
  refine lv_aload_n hx hb dL_law_934 rfl (lv_at hl 2 rfl) ?_
  refine lv_aload_n hx hb dL_law_935 rfl (lv_at hl 0 rfl) ?_
  refine lv_iload_n hx hb dL_law_936 rfl (lv_at hl 3 rfl) ?_
  refine lv_iconst (v := 1) hx hb dL_law_937 (by decide) ?_
  refine lv_iadd hx hb dL_law_938 ?_
  refine qi_as (y := nI (i + 1)) (nI_add i 1) ?_
  refine va_sld hx hb hX hbl hbA hS (vp_in_nI (n := i + 1) (N := L) (by omega) (by omega)) dL_law_939 ?_
  refine qi_as (y := xs (i + 1)) (by rw [nI_clamp (by omega)]) ?_
  refine lm_i (va_runV (As := [.int (xs (i + 1))]) (rest := []) ⟨hx, hb, hml, hown, hts⟩ (v_book l dC dI sK sV im vm kvm tm T2 m0 M (xs (i + 1)) H.size) (cwV 1 hts gL_law_X12_book rfl rfl rfl hd_yX12_book ⟨Nat.le_of_ble_eq_true rfl, Nat.le_of_ble_eq_true rfl⟩) ⟨fun a U g mk q => by obtain ⟨q0, q1, qX, qK, qG⟩ := q; exact ⟨q0, q1, qX, va_K.moved (u := U) (U := U.calling g mk a) (Vm.Alike.refl U.vm) qK, qG.same rfl rfl⟩, hLS.2.1.recv hLS.2.2.2.1, fun U hU hW => ⟨rfl, by rw [hU], by rw [hU]; exact hLS.2.1, va_K.moved hW.alike hLS.2.2.2.1, hGA.2.2.2.2.2.2.call hS hU hW (bl_in hLS.2.2.2.2.2.1 hS hA)⟩⟩ rfl rfl hl.1 rfl (lv_room (Nat.le_of_ble_eq_true rfl)) dL_law_940 ⟨by show _ ≤ 600000; omega, by show _ ≤ 7302250; omega⟩) hLS hS hA (fun r2_ u_ H locs M hp2 hLS hS => ?_)
  obtain ⟨e2_, rfl⟩ := hp2
  have hLS : Lst dC dI ad bS Y s A h0 m0 ik (vs.1, vs.2.1, bkN vs.1 vs.2.2.1 (xs (i + 1)), vs.2.2.2.1, vs.2.2.2.2.1, vs.2.2.2.2.2.1, vs.2.2.2.2.2.2.1, vs.2.2.2.2.2.2.2.1, vs.2.2.2.2.2.2.2.2.1, vs.2.2.2.2.2.2.2.2.2.1, vs.2.2.2.2.2.2.2.2.2.2.1, vs.2.2.2.2.2.2.2.2.2.2.2.1, vs.2.2.2.2.2.2.2.2.2.2.2.2) kvs tl im (vm.1, vm.2.1, bkN vm.1 vm.2.2.1 (xs (i + 1)), vm.2.2.2.1, vm.2.2.2.2.1, vm.2.2.2.2.2.1, vm.2.2.2.2.2.2.1, vm.2.2.2.2.2.2.2.1, vm.2.2.2.2.2.2.2.2.1, vm.2.2.2.2.2.2.2.2.2.1, vm.2.2.2.2.2.2.2.2.2.2.1, vm.2.2.2.2.2.2.2.2.2.2.2.1, vm.2.2.2.2.2.2.2.2.2.2.2.2) kvm tm X T M T2 H := hLS
  refine lv_pop hx hb dL_law_943 rfl ?_
  refine lv_goto (tgt := 1108) hx hb dL_law_944 (by decide) ?_
  refine W.widen (k := cells + 8) (n := slots + 200) (by omega) (by omega) ?_
  exact kk ik (vs.1, vs.2.1, bkN vs.1 vs.2.2.1 (xs (i + 1)), vs.2.2.2.1, vs.2.2.2.2.1, vs.2.2.2.2.2.1, vs.2.2.2.2.2.2.1, vs.2.2.2.2.2.2.2.1, vs.2.2.2.2.2.2.2.2.1, vs.2.2.2.2.2.2.2.2.2.1, vs.2.2.2.2.2.2.2.2.2.2.1, vs.2.2.2.2.2.2.2.2.2.2.2.1, vs.2.2.2.2.2.2.2.2.2.2.2.2) kvs tl im (vm.1, vm.2.1, bkN vm.1 vm.2.2.1 (xs (i + 1)), vm.2.2.2.1, vm.2.2.2.2.1, vm.2.2.2.2.2.1, vm.2.2.2.2.2.2.1, vm.2.2.2.2.2.2.2.1, vm.2.2.2.2.2.2.2.2.1, vm.2.2.2.2.2.2.2.2.2.1, vm.2.2.2.2.2.2.2.2.2.2.1, vm.2.2.2.2.2.2.2.2.2.2.2.1, vm.2.2.2.2.2.2.2.2.2.2.2.2) kvm tm X T M H locs hLS ⟨hcp.1, by rw [hcp.2.1], hcp.2.2⟩ hS
