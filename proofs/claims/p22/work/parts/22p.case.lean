def dk22pcase_cL_law_0 : List (Nat × Instr × Nat) := [(960, .aload_n 1, 1), (961, .aload_n 0, 1), (962, .iload_n 3, 1), (963, .iconst 1, 1), (964, .iadd, 1), (965, .iaload, 1), (966, .aload_n 0, 1), (967, .iload_n 3, 1), (968, .iconst 2, 1), (969, .iadd, 1), (970, .iaload, 1), (971, .aload_n 0, 1), (972, .iload_n 3, 1), (973, .iconst 3, 1), (974, .iadd, 1), (975, .iaload, 1), (976, .invokevirtual 120, 3), (979, .pop, 1), (980, .aload_n 2, 1), (981, .aload_n 0, 1), (982, .iload_n 3, 1), (983, .iconst 1, 1), (984, .iadd, 1), (985, .iaload, 1), (986, .aload_n 0, 1), (987, .iload_n 3, 1), (988, .iconst 2, 1), (989, .iadd, 1), (990, .iaload, 1), (991, .aload_n 0, 1), (992, .iload_n 3, 1), (993, .iconst 3, 1), (994, .iadd, 1), (995, .iaload, 1), (996, .invokevirtual 123, 3), (999, .pop, 1), (1000, .goto 108, 3)]
set_option maxRecDepth 100000 in
theorem dk22pcase_cL_law_0_a : dkA cL_law dk22pcase_cL_law_0 = true := by decide +kernel
theorem dL_law_960 : decode cL_law 960 = .ok (.aload_n 1, 1) := dkAt dk22pcase_cL_law_0_a 0 rfl
theorem dL_law_961 : decode cL_law 961 = .ok (.aload_n 0, 1) := dkAt dk22pcase_cL_law_0_a 1 rfl
theorem dL_law_962 : decode cL_law 962 = .ok (.iload_n 3, 1) := dkAt dk22pcase_cL_law_0_a 2 rfl
theorem dL_law_963 : decode cL_law 963 = .ok (.iconst 1, 1) := dkAt dk22pcase_cL_law_0_a 3 rfl
theorem dL_law_964 : decode cL_law 964 = .ok (.iadd, 1) := dkAt dk22pcase_cL_law_0_a 4 rfl
theorem dL_law_965 : decode cL_law 965 = .ok (.iaload, 1) := dkAt dk22pcase_cL_law_0_a 5 rfl
theorem dL_law_966 : decode cL_law 966 = .ok (.aload_n 0, 1) := dkAt dk22pcase_cL_law_0_a 6 rfl
theorem dL_law_967 : decode cL_law 967 = .ok (.iload_n 3, 1) := dkAt dk22pcase_cL_law_0_a 7 rfl
theorem dL_law_968 : decode cL_law 968 = .ok (.iconst 2, 1) := dkAt dk22pcase_cL_law_0_a 8 rfl
theorem dL_law_969 : decode cL_law 969 = .ok (.iadd, 1) := dkAt dk22pcase_cL_law_0_a 9 rfl
theorem dL_law_970 : decode cL_law 970 = .ok (.iaload, 1) := dkAt dk22pcase_cL_law_0_a 10 rfl
theorem dL_law_971 : decode cL_law 971 = .ok (.aload_n 0, 1) := dkAt dk22pcase_cL_law_0_a 11 rfl
theorem dL_law_972 : decode cL_law 972 = .ok (.iload_n 3, 1) := dkAt dk22pcase_cL_law_0_a 12 rfl
theorem dL_law_973 : decode cL_law 973 = .ok (.iconst 3, 1) := dkAt dk22pcase_cL_law_0_a 13 rfl
theorem dL_law_974 : decode cL_law 974 = .ok (.iadd, 1) := dkAt dk22pcase_cL_law_0_a 14 rfl
theorem dL_law_975 : decode cL_law 975 = .ok (.iaload, 1) := dkAt dk22pcase_cL_law_0_a 15 rfl
theorem dL_law_976 : decode cL_law 976 = .ok (.invokevirtual 120, 3) := dkAt dk22pcase_cL_law_0_a 16 rfl
theorem dL_law_979 : decode cL_law 979 = .ok (.pop, 1) := dkAt dk22pcase_cL_law_0_a 17 rfl
theorem dL_law_980 : decode cL_law 980 = .ok (.aload_n 2, 1) := dkAt dk22pcase_cL_law_0_a 18 rfl
theorem dL_law_981 : decode cL_law 981 = .ok (.aload_n 0, 1) := dkAt dk22pcase_cL_law_0_a 19 rfl
theorem dL_law_982 : decode cL_law 982 = .ok (.iload_n 3, 1) := dkAt dk22pcase_cL_law_0_a 20 rfl
theorem dL_law_983 : decode cL_law 983 = .ok (.iconst 1, 1) := dkAt dk22pcase_cL_law_0_a 21 rfl
theorem dL_law_984 : decode cL_law 984 = .ok (.iadd, 1) := dkAt dk22pcase_cL_law_0_a 22 rfl
theorem dL_law_985 : decode cL_law 985 = .ok (.iaload, 1) := dkAt dk22pcase_cL_law_0_a 23 rfl
theorem dL_law_986 : decode cL_law 986 = .ok (.aload_n 0, 1) := dkAt dk22pcase_cL_law_0_a 24 rfl
theorem dL_law_987 : decode cL_law 987 = .ok (.iload_n 3, 1) := dkAt dk22pcase_cL_law_0_a 25 rfl
theorem dL_law_988 : decode cL_law 988 = .ok (.iconst 2, 1) := dkAt dk22pcase_cL_law_0_a 26 rfl
theorem dL_law_989 : decode cL_law 989 = .ok (.iadd, 1) := dkAt dk22pcase_cL_law_0_a 27 rfl
theorem dL_law_990 : decode cL_law 990 = .ok (.iaload, 1) := dkAt dk22pcase_cL_law_0_a 28 rfl
theorem dL_law_991 : decode cL_law 991 = .ok (.aload_n 0, 1) := dkAt dk22pcase_cL_law_0_a 29 rfl
theorem dL_law_992 : decode cL_law 992 = .ok (.iload_n 3, 1) := dkAt dk22pcase_cL_law_0_a 30 rfl
theorem dL_law_993 : decode cL_law 993 = .ok (.iconst 3, 1) := dkAt dk22pcase_cL_law_0_a 31 rfl
theorem dL_law_994 : decode cL_law 994 = .ok (.iadd, 1) := dkAt dk22pcase_cL_law_0_a 32 rfl
theorem dL_law_995 : decode cL_law 995 = .ok (.iaload, 1) := dkAt dk22pcase_cL_law_0_a 33 rfl
theorem dL_law_996 : decode cL_law 996 = .ok (.invokevirtual 123, 3) := dkAt dk22pcase_cL_law_0_a 34 rfl
theorem dL_law_999 : decode cL_law 999 = .ok (.pop, 1) := dkAt dk22pcase_cL_law_0_a 35 rfl
theorem dL_law_1000 : decode cL_law 1000 = .ok (.goto 108, 3) := dkAt dk22pcase_cL_law_0_a 36 rfl
set_option maxHeartbeats 4000000 in
set_option maxRecDepth 100000 in
theorem lc_24 {p : Program} {l : Launch} {e : Env} {s : State} {m : MethodId} {below : List Frame} {meth : Method} {c : Code} {b L : Nat} {xs : Nat → Int32} {A : Nat → Prop} (hAe : A = fun q => s.heap.size ≤ q) (C0 : lw_At p s m meth c b L xs) (dC : Nat → ClassId) (dI : Nat → Nat → Nat) (gd : Nat → Nat) (kA : Nat) (ad : Nat → Nat) (cB bS : Nat) (sK sV : Nat → Nat) (Y : Nat → Prop) (h0 m0 : Nat) (ik : Int32) (vs kvs : VS) (tl : List Nat) (im : Int32) (vm kvm : VS) (tm : List Nat) (X : va_W) (T : List (ClassId × FieldType)) (M : va_W) (T2 : List (ClassId × FieldType)) (hGA : GA gd kA ad cB bS sK sV A s) (i : Nat) (hi : i + 5 ≤ L) (hL : L ≤ 320) (H : Heap) (locs : List Loc) (hLS : Lst dC dI ad bS Y s A h0 m0 ik vs kvs tl im vm kvm tm X T M T2 H) (cells slots : Nat) (hc0 : cells ≤ 590000) (hs0 : slots ≤ 7000000) (hS : va_S A s.heap H locs) (ls : Array Slot) (hl : lv_has ls 4 [(0, .ref b), (1, .ref h0), (2, .ref m0), (3, .int (nI i))]) (hcp : ik = im ∧ vs = vm ∧ (im = 0 ∨ kvs = kvm) ∧ tl = tm) (kk : ∀ (ik : Int32) (vs kvs : VS) (tl : List Nat) (im : Int32) (vm kvm : VS) (tm : List Nat) (X : va_W) (T : List (ClassId × FieldType)) (M : va_W) (H : Heap) (locs : List Loc), Lst dC dI ad bS Y s A h0 m0 ik vs kvs tl im vm kvm tm X T M T2 H → (ik = im ∧ vs = vm ∧ (im = 0 ∨ kvs = kvm) ∧ tl = tm) → va_S A s.heap H locs → W p l e room_1 s m #[Value.ref b] below meth c H locs (cells + 8) (slots + 200) (lw_Z below #[Value.ref b] s) (F0 m 1108 ls [])) : W p l e room_1 s m #[Value.ref b] below meth c H locs cells slots (lw_Z below #[Value.ref b] s) (F0 m 960 ls []) := by
  obtain ⟨hx, hb, hr, hml, hown, hts0, hX, hbl, hlocks, hgv⟩ := id C0
  have hown : s.vm.findClass RL = some m.cls := hown
  have hb : c.code = cL_law := hb
  have hts : ∀ w ∈ lw_tbl, w.before #[Value.ref b] s = true := fun w h => hts0 w (wsL_law_in w h)
  have hA : ∀ q : Nat, s.heap.size ≤ q → A q := fun q h => by rw [hAe]; exact h
  have hbA : ¬ A b := by rw [hAe]; exact Nat.not_le.mpr hbl
  refine lv_aload_n hx hb dL_law_960 rfl (lv_at hl 1 rfl) ?_
  refine lv_aload_n hx hb dL_law_961 rfl (lv_at hl 0 rfl) ?_
  refine lv_iload_n hx hb dL_law_962 rfl (lv_at hl 3 rfl) ?_
  refine lv_iconst (v := 1) hx hb dL_law_963 (by decide) ?_
  refine lv_iadd hx hb dL_law_964 ?_
  refine qi_as (y := nI (i + 1)) (nI_add i 1) ?_
  refine va_sld hx hb hX hbl hbA hS (vp_in_nI (n := i + 1) (N := L) (by omega) (by omega)) dL_law_965 ?_
  refine qi_as (y := xs (i + 1)) (by rw [nI_clamp (by omega)]) ?_
  refine lv_aload_n hx hb dL_law_966 rfl (lv_at hl 0 rfl) ?_
  refine lv_iload_n hx hb dL_law_967 rfl (lv_at hl 3 rfl) ?_
  refine lv_iconst (v := 2) hx hb dL_law_968 (by decide) ?_
  refine lv_iadd hx hb dL_law_969 ?_
  refine qi_as (y := nI (i + 2)) (nI_add i 2) ?_
  refine va_sld hx hb hX hbl hbA hS (vp_in_nI (n := i + 2) (N := L) (by omega) (by omega)) dL_law_970 ?_
  refine qi_as (y := xs (i + 2)) (by rw [nI_clamp (by omega)]) ?_
  refine lv_aload_n hx hb dL_law_971 rfl (lv_at hl 0 rfl) ?_
  refine lv_iload_n hx hb dL_law_972 rfl (lv_at hl 3 rfl) ?_
  refine lv_iconst (v := 3) hx hb dL_law_973 (by decide) ?_
  refine lv_iadd hx hb dL_law_974 ?_
  refine qi_as (y := nI (i + 3)) (nI_add i 3) ?_
  refine va_sld hx hb hX hbl hbA hS (vp_in_nI (n := i + 3) (N := L) (by omega) (by omega)) dL_law_975 ?_
  refine qi_as (y := xs (i + 3)) (by rw [nI_clamp (by omega)]) ?_
  refine lx_i (va_runV (As := [.int (xs (i + 1)), .int (xs (i + 2)), .int (xs (i + 3))]) (rest := []) ⟨hx, hb, hml, hown, hts⟩ (w_act l dC dI gd kA ad cB bS sK sV Y ik vs kvs tl T h0 X (xs (i + 1)) (xs (i + 2)) (xs (i + 3)) H.size) (cwV 3 hts gL_law_X11_act rfl rfl rfl hd_yX11_act ⟨Nat.le_of_ble_eq_true rfl, Nat.le_of_ble_eq_true rfl⟩) ⟨fun a U g mk q => by obtain ⟨q0, q1, qX, qK, qY1, qY2, qG⟩ := q; exact ⟨q0, q1, qX, va_K.moved (u := U) (U := U.calling g mk a) (Vm.Alike.refl U.vm) qK, qY1, qY2, qG.same rfl rfl⟩, hLS.1.recv hLS.2.2.1, fun U hU hW => ⟨rfl, by rw [hU], by rw [hU]; exact hLS.1, va_K.moved hW.alike hLS.2.2.1, hLS.2.2.2.2.2.2.1, fun q hq hy => absurd (hLS.2.2.2.2.2.2.2.2 q hy) (Nat.not_lt.mpr hq), hGA.call hS hU hW (bl_in hLS.2.2.2.2.1 hS hA)⟩⟩ rfl rfl hl.1 rfl (lv_room (Nat.le_of_ble_eq_true rfl)) dL_law_976 ⟨by show _ ≤ 600000; omega, by show _ ≤ 7302250; omega⟩) hLS hS hA (fun r1_ u_ H locs X T hp1 hLS hS => ?_)
  obtain ⟨e1_, rfl⟩ := hp1
  have hLS : Lst dC dI ad bS Y s A h0 m0 ik vs kvs (acT vs.1 vs.2.2.2.2.2.1 (xs (i + 1)) (xs (i + 2))) im vm kvm tm X T M T2 H := hLS
  refine lv_pop hx hb dL_law_979 rfl ?_
  refine lv_aload_n hx hb dL_law_980 rfl (lv_at hl 2 rfl) ?_
  refine lv_aload_n hx hb dL_law_981 rfl (lv_at hl 0 rfl) ?_
  refine lv_iload_n hx hb dL_law_982 rfl (lv_at hl 3 rfl) ?_
  refine lv_iconst (v := 1) hx hb dL_law_983 (by decide) ?_
  refine lv_iadd hx hb dL_law_984 ?_
  refine qi_as (y := nI (i + 1)) (nI_add i 1) ?_
  refine va_sld hx hb hX hbl hbA hS (vp_in_nI (n := i + 1) (N := L) (by omega) (by omega)) dL_law_985 ?_
  refine qi_as (y := xs (i + 1)) (by rw [nI_clamp (by omega)]) ?_
  refine lv_aload_n hx hb dL_law_986 rfl (lv_at hl 0 rfl) ?_
  refine lv_iload_n hx hb dL_law_987 rfl (lv_at hl 3 rfl) ?_
  refine lv_iconst (v := 2) hx hb dL_law_988 (by decide) ?_
  refine lv_iadd hx hb dL_law_989 ?_
  refine qi_as (y := nI (i + 2)) (nI_add i 2) ?_
  refine va_sld hx hb hX hbl hbA hS (vp_in_nI (n := i + 2) (N := L) (by omega) (by omega)) dL_law_990 ?_
  refine qi_as (y := xs (i + 2)) (by rw [nI_clamp (by omega)]) ?_
  refine lv_aload_n hx hb dL_law_991 rfl (lv_at hl 0 rfl) ?_
  refine lv_iload_n hx hb dL_law_992 rfl (lv_at hl 3 rfl) ?_
  refine lv_iconst (v := 3) hx hb dL_law_993 (by decide) ?_
  refine lv_iadd hx hb dL_law_994 ?_
  refine qi_as (y := nI (i + 3)) (nI_add i 3) ?_
  refine va_sld hx hb hX hbl hbA hS (vp_in_nI (n := i + 3) (N := L) (by omega) (by omega)) dL_law_995 ?_
  refine qi_as (y := xs (i + 3)) (by rw [nI_clamp (by omega)]) ?_
  refine lm_i (va_runV (As := [.int (xs (i + 1)), .int (xs (i + 2)), .int (xs (i + 3))]) (rest := []) ⟨hx, hb, hml, hown, hts⟩ (v_act l dC dI sK sV im vm kvm tm T2 m0 M (xs (i + 1)) (xs (i + 2)) (xs (i + 3)) H.size) (cwV 3 hts gL_law_X12_act rfl rfl rfl hd_yX12_act ⟨Nat.le_of_ble_eq_true rfl, Nat.le_of_ble_eq_true rfl⟩) ⟨fun a U g mk q => by obtain ⟨q0, q1, qX, qK, qG⟩ := q; exact ⟨q0, q1, qX, va_K.moved (u := U) (U := U.calling g mk a) (Vm.Alike.refl U.vm) qK, qG.same rfl rfl⟩, hLS.2.1.recv hLS.2.2.2.1, fun U hU hW => ⟨rfl, by rw [hU], by rw [hU]; exact hLS.2.1, va_K.moved hW.alike hLS.2.2.2.1, hGA.2.2.2.2.2.2.call hS hU hW (bl_in hLS.2.2.2.2.2.1 hS hA)⟩⟩ rfl rfl hl.1 rfl (lv_room (Nat.le_of_ble_eq_true rfl)) dL_law_996 ⟨by show _ ≤ 600000; omega, by show _ ≤ 7302250; omega⟩) hLS hS hA (fun r2_ u_ H locs M hp2 hLS hS => ?_)
  obtain ⟨e2_, rfl⟩ := hp2
  have hLS : Lst dC dI ad bS Y s A h0 m0 ik vs kvs (acT vs.1 vs.2.2.2.2.2.1 (xs (i + 1)) (xs (i + 2))) im vm kvm (acT vm.1 vm.2.2.2.2.2.1 (xs (i + 1)) (xs (i + 2))) X T M T2 H := hLS
  refine lv_pop hx hb dL_law_999 rfl ?_
  refine lv_goto (tgt := 1108) hx hb dL_law_1000 (by decide) ?_
  refine W.widen (k := cells + 8) (n := slots + 200) (by omega) (by omega) ?_
  exact kk ik vs kvs (acT vs.1 vs.2.2.2.2.2.1 (xs (i + 1)) (xs (i + 2))) im vm kvm (acT vm.1 vm.2.2.2.2.2.1 (xs (i + 1)) (xs (i + 2))) X T M H locs hLS ⟨hcp.1, hcp.2.1, hcp.2.2.1, by rw [hcp.2.1]⟩ hS
