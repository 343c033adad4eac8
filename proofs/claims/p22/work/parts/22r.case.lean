def dk22rcase_cL_law_0 : List (Nat × Instr × Nat) := [(1072, .aload_n 1, 1), (1073, .invokevirtual 136, 3), (1076, .pop, 1), (1077, .aload_n 2, 1), (1078, .invokevirtual 139, 3), (1081, .pop, 1), (1082, .goto 26, 3), (1085, .aload_n 1, 1), (1086, .aload_n 0, 1), (1087, .iload_n 3, 1), (1088, .iconst 1, 1), (1089, .iadd, 1), (1090, .iaload, 1), (1091, .invokevirtual 140, 3), (1094, .pop, 1), (1095, .aload_n 2, 1), (1096, .aload_n 0, 1), (1097, .iload_n 3, 1), (1098, .iconst 1, 1), (1099, .iadd, 1), (1100, .iaload, 1), (1101, .invokevirtual 143, 3), (1104, .pop, 1), (1105, .goto 3, 3)]
set_option maxRecDepth 100000 in
theorem dk22rcase_cL_law_0_a : dkA cL_law dk22rcase_cL_law_0 = true := by decide +kernel
theorem dL_law_1072 : decode cL_law 1072 = .ok (.aload_n 1, 1) := dkAt dk22rcase_cL_law_0_a 0 rfl
theorem dL_law_1073 : decode cL_law 1073 = .ok (.invokevirtual 136, 3) := dkAt dk22rcase_cL_law_0_a 1 rfl
theorem dL_law_1076 : decode cL_law 1076 = .ok (.pop, 1) := dkAt dk22rcase_cL_law_0_a 2 rfl
theorem dL_law_1077 : decode cL_law 1077 = .ok (.aload_n 2, 1) := dkAt dk22rcase_cL_law_0_a 3 rfl
theorem dL_law_1078 : decode cL_law 1078 = .ok (.invokevirtual 139, 3) := dkAt dk22rcase_cL_law_0_a 4 rfl
theorem dL_law_1081 : decode cL_law 1081 = .ok (.pop, 1) := dkAt dk22rcase_cL_law_0_a 5 rfl
theorem dL_law_1082 : decode cL_law 1082 = .ok (.goto 26, 3) := dkAt dk22rcase_cL_law_0_a 6 rfl
theorem dL_law_1085 : decode cL_law 1085 = .ok (.aload_n 1, 1) := dkAt dk22rcase_cL_law_0_a 7 rfl
theorem dL_law_1086 : decode cL_law 1086 = .ok (.aload_n 0, 1) := dkAt dk22rcase_cL_law_0_a 8 rfl
theorem dL_law_1087 : decode cL_law 1087 = .ok (.iload_n 3, 1) := dkAt dk22rcase_cL_law_0_a 9 rfl
theorem dL_law_1088 : decode cL_law 1088 = .ok (.iconst 1, 1) := dkAt dk22rcase_cL_law_0_a 10 rfl
theorem dL_law_1089 : decode cL_law 1089 = .ok (.iadd, 1) := dkAt dk22rcase_cL_law_0_a 11 rfl
theorem dL_law_1090 : decode cL_law 1090 = .ok (.iaload, 1) := dkAt dk22rcase_cL_law_0_a 12 rfl
theorem dL_law_1091 : decode cL_law 1091 = .ok (.invokevirtual 140, 3) := dkAt dk22rcase_cL_law_0_a 13 rfl
theorem dL_law_1094 : decode cL_law 1094 = .ok (.pop, 1) := dkAt dk22rcase_cL_law_0_a 14 rfl
theorem dL_law_1095 : decode cL_law 1095 = .ok (.aload_n 2, 1) := dkAt dk22rcase_cL_law_0_a 15 rfl
theorem dL_law_1096 : decode cL_law 1096 = .ok (.aload_n 0, 1) := dkAt dk22rcase_cL_law_0_a 16 rfl
theorem dL_law_1097 : decode cL_law 1097 = .ok (.iload_n 3, 1) := dkAt dk22rcase_cL_law_0_a 17 rfl
theorem dL_law_1098 : decode cL_law 1098 = .ok (.iconst 1, 1) := dkAt dk22rcase_cL_law_0_a 18 rfl
theorem dL_law_1099 : decode cL_law 1099 = .ok (.iadd, 1) := dkAt dk22rcase_cL_law_0_a 19 rfl
theorem dL_law_1100 : decode cL_law 1100 = .ok (.iaload, 1) := dkAt dk22rcase_cL_law_0_a 20 rfl
theorem dL_law_1101 : decode cL_law 1101 = .ok (.invokevirtual 143, 3) := dkAt dk22rcase_cL_law_0_a 21 rfl
theorem dL_law_1104 : decode cL_law 1104 = .ok (.pop, 1) := dkAt dk22rcase_cL_law_0_a 22 rfl
theorem dL_law_1105 : decode cL_law 1105 = .ok (.goto 3, 3) := dkAt dk22rcase_cL_law_0_a 23 rfl
set_option maxHeartbeats 4000000 in
set_option maxRecDepth 100000 in
theorem lc_28 {p : Program} {l : Launch} {e : Env} {s : State} {m : MethodId} {below : List Frame} {meth : Method} {c : Code} {b L : Nat} {xs : Nat → Int32} {A : Nat → Prop} (hAe : A = fun q => s.heap.size ≤ q) (C0 : lw_At p s m meth c b L xs) (dC : Nat → ClassId) (dI : Nat → Nat → Nat) (gd : Nat → Nat) (kA : Nat) (ad : Nat → Nat) (cB bS : Nat) (sK sV : Nat → Nat) (Y : Nat → Prop) (h0 m0 : Nat) (ik : Int32) (vs kvs : VS) (tl : List Nat) (im : Int32) (vm kvm : VS) (tm : List Nat) (X : va_W) (T : List (ClassId × FieldType)) (M : va_W) (T2 : List (ClassId × FieldType)) (hGA : GA gd kA ad cB bS sK sV A s) (i : Nat) (hi : i + 5 ≤ L) (hL : L ≤ 320) (H : Heap) (locs : List Loc) (hLS : Lst dC dI ad bS Y s A h0 m0 ik vs kvs tl im vm kvm tm X T M T2 H) (cells slots : Nat) (hc0 : cells ≤ 590000) (hs0 : slots ≤ 7000000) (hS : va_S A s.heap H locs) (ls : Array Slot) (hl : lv_has ls 4 [(0, .ref b), (1, .ref h0), (2, .ref m0), (3, .int (nI i))]) (hcp : ik = im ∧ vs = vm ∧ (im = 0 ∨ kvs = kvm) ∧ tl = tm) (kk : ∀ (ik : Int32) (vs kvs : VS) (tl : List Nat) (im : Int32) (vm kvm : VS) (tm : List Nat) (X : va_W) (T : List (ClassId × FieldType)) (M : va_W) (H : Heap) (locs : List Loc), Lst dC dI ad bS Y s A h0 m0 ik vs kvs tl im vm kvm tm X T M T2 H → (ik = im ∧ vs = vm ∧ (im = 0 ∨ kvs = kvm) ∧ tl = tm) → va_S A s.heap H locs → W p l e room_1 s m #[Value.ref b] below meth c H locs (cells + 8) (slots + 200) (lw_Z below #[Value.ref b] s) (F0 m 1108 ls [])) : W p l e room_1 s m #[Value.ref b] below meth c H locs cells slots (lw_Z below #[Value.ref b] s) (F0 m 1072 ls []) := by
  obtain ⟨hx, hb, hr, hml, hown, hts0, hX, hbl, hlocks, hgv⟩ := id C0
  have hown : s.vm.findClass RL = some m.cls := hown
  have hb : c.code = cL_law := hb
  have hts : ∀ w ∈ lw_tbl, w.before #[Value.ref b] s = true := fun w h => hts0 w (wsL_law_in w h)
  have hA : ∀ q : Nat, s.heap.size ≤ q → A q := fun q h => by rw [hAe]; exact h
  have hbA : ¬ A b := by rw [hAe]; exact Nat.not_le.mpr hbl
  refine lv_aload_n hx hb dL_law_1072 rfl (lv_at hl 1 rfl) ?_
  refine lx_i (va_runV (As := []) (rest := []) ⟨hx, hb, hml, hown, hts⟩ (w_undo l dC dI gd kA ad cB bS sK sV Y ik vs kvs tl T h0 X H.size) (cwV 0 hts gL_law_X11_undo rfl rfl rfl hd_yX11_undo ⟨Nat.le_of_ble_eq_true rfl, Nat.le_of_ble_eq_true rfl⟩) ⟨fun a U g mk q => by obtain ⟨q0, q1, qX, qK, qY1, qY2, qG⟩ := q; exact ⟨q0, q1, qX, va_K.moved (u := U) (U := U.calling g mk a) (Vm.Alike.refl U.vm) qK, qY1, qY2, qG.same rfl rfl⟩, hLS.1.recv hLS.2.2.1, fun U hU hW => ⟨rfl, by rw [hU], by rw [hU]; exact hLS.1, va_K.moved hW.alike hLS.2.2.1, hLS.2.2.2.2.2.2.1, fun q hq hy => absurd (hLS.2.2.2.2.2.2.2.2 q hy) (Nat.not_lt.mpr hq), hGA.call hS hU hW (bl_in hLS.2.2.2.2.1 hS hA)⟩⟩ rfl rfl hl.1 rfl (lv_room (Nat.le_of_ble_eq_true rfl)) dL_law_1073 ⟨by show _ ≤ 600000; omega, by show _ ≤ 7302250; omega⟩) hLS hS hA (fun r1_ u_ H locs X T hp1 hLS hS => ?_)
  rcases hp1 with ⟨z1_, e1_, rfl⟩ | ⟨z1_, e1_, rfl⟩
  · skip
    have hLS : Lst dC dI ad bS Y s A h0 m0 ik vs kvs tl im vm kvm tm X T M T2 H := hLS
    refine lv_pop hx hb dL_law_1076 rfl ?_
    refine lv_aload_n hx hb dL_law_1077 rfl (lv_at hl 2 rfl) ?_
    refine lm_i (va_runV (As := []) (rest := []) ⟨hx, hb, hml, hown, hts⟩ (v_undo l dC dI sK sV im vm kvm tm T2 m0 M H.size) (cwV 0 hts gL_law_X12_undo rfl rfl rfl hd_yX12_undo ⟨Nat.le_of_ble_eq_true rfl, Nat.le_of_ble_eq_true rfl⟩) ⟨fun a U g mk q => by obtain ⟨q0, q1, qX, qK, qG⟩ := q; exact ⟨q0, q1, qX, va_K.moved (u := U) (U := U.calling g mk a) (Vm.Alike.refl U.vm) qK, qG.same rfl rfl⟩, hLS.2.1.recv hLS.2.2.2.1, fun U hU hW => ⟨rfl, by rw [hU], by rw [hU]; exact hLS.2.1, va_K.moved hW.alike hLS.2.2.2.1, hGA.2.2.2.2.2.2.call hS hU hW (bl_in hLS.2.2.2.2.2.1 hS hA)⟩⟩ rfl rfl hl.1 rfl (lv_room (Nat.le_of_ble_eq_true rfl)) dL_law_1078 ⟨by show _ ≤ 600000; omega, by show _ ≤ 7302250; omega⟩) hLS hS hA (fun r2_ u_ H locs M hp2 hLS hS => ?_)
    rcases hp2 with ⟨z2_, e2_, rfl⟩ | ⟨z2_, e2_, rfl⟩
    · skip
      have hLS : Lst dC dI ad bS Y s A h0 m0 ik vs kvs tl im vm kvm tm X T M T2 H := hLS
      refine lv_pop hx hb dL_law_1081 rfl ?_
      refine lv_goto (tgt := 1108) hx hb dL_law_1082 (by decide) ?_
      refine W.widen (k := cells + 8) (n := slots + 200) (by omega) (by omega) ?_
      exact kk ik vs kvs tl im vm kvm tm X T M H locs hLS hcp hS
    · skip
      have hLS : Lst dC dI ad bS Y s A h0 m0 ik vs kvs tl im kvm kvm tm X T M T2 H := hLS
      exact absurd (hcp.1.symm.trans z1_) z2_
  · skip
    have hLS : Lst dC dI ad bS Y s A h0 m0 ik kvs kvs tl im vm kvm tm X T M T2 H := hLS
    refine lv_pop hx hb dL_law_1076 rfl ?_
    refine lv_aload_n hx hb dL_law_1077 rfl (lv_at hl 2 rfl) ?_
    refine lm_i (va_runV (As := []) (rest := []) ⟨hx, hb, hml, hown, hts⟩ (v_undo l dC dI sK sV im vm kvm tm T2 m0 M H.size) (cwV 0 hts gL_law_X12_undo rfl rfl rfl hd_yX12_undo ⟨Nat.le_of_ble_eq_true rfl, Nat.le_of_ble_eq_true rfl⟩) ⟨fun a U g mk q => by obtain ⟨q0, q1, qX, qK, qG⟩ := q; exact ⟨q0, q1, qX, va_K.moved (u := U) (U := U.calling g mk a) (Vm.Alike.refl U.vm) qK, qG.same rfl rfl⟩, hLS.2.1.recv hLS.2.2.2.1, fun U hU hW => ⟨rfl, by rw [hU], by rw [hU]; exact hLS.2.1, va_K.moved hW.alike hLS.2.2.2.1, hGA.2.2.2.2.2.2.call hS hU hW (bl_in hLS.2.2.2.2.2.1 hS hA)⟩⟩ rfl rfl hl.1 rfl (lv_room (Nat.le_of_ble_eq_true rfl)) dL_law_1078 ⟨by show _ ≤ 600000; omega, by show _ ≤ 7302250; omega⟩) hLS hS hA (fun r2_ u_ H locs M hp2 hLS hS => ?_)
    rcases hp2 with ⟨z2_, e2_, rfl⟩ | ⟨z2_, e2_, rfl⟩
    · skip
      have hLS : Lst dC dI ad bS Y s A h0 m0 ik kvs kvs tl im vm kvm tm X T M T2 H := hLS
      exact absurd (hcp.1.trans z2_) z1_
    · skip
      have hLS : Lst dC dI ad bS Y s A h0 m0 ik kvs kvs tl im kvm kvm tm X T M T2 H := hLS
      refine lv_pop hx hb dL_law_1081 rfl ?_
      refine lv_goto (tgt := 1108) hx hb dL_law_1082 (by decide) ?_
      refine W.widen (k := cells + 8) (n := slots + 200) (by omega) (by omega) ?_
      exact kk ik kvs kvs tl im kvm kvm tm X T M H locs hLS ⟨hcp.1, hcp.2.2.1.resolve_left z2_, hcp.2.2⟩ hS

set_option maxHeartbeats 4000000 in
set_option maxRecDepth 100000 in
theorem lc_29 {p : Program} {l : Launch} {e : Env} {s : State} {m : MethodId} {below : List Frame} {meth : Method} {c : Code} {b L : Nat} {xs : Nat → Int32} {A : Nat → Prop} (hAe : A = fun q => s.heap.size ≤ q) (C0 : lw_At p s m meth c b L xs) (dC : Nat → ClassId) (dI : Nat → Nat → Nat) (gd : Nat → Nat) (kA : Nat) (ad : Nat → Nat) (cB bS : Nat) (sK sV : Nat → Nat) (Y : Nat → Prop) (h0 m0 : Nat) (ik : Int32) (vs kvs : VS) (tl : List Nat) (im : Int32) (vm kvm : VS) (tm : List Nat) (X : va_W) (T : List (ClassId × FieldType)) (M : va_W) (T2 : List (ClassId × FieldType)) (hGA : GA gd kA ad cB bS sK sV A s) (i : Nat) (hi : i + 5 ≤ L) (hL : L ≤ 320) (H : Heap) (locs : List Loc) (hLS : Lst dC dI ad bS Y s A h0 m0 ik vs kvs tl im vm kvm tm X T M T2 H) (cells slots : Nat) (hc0 : cells ≤ 590000) (hs0 : slots ≤ 7000000) (hS : va_S A s.heap H locs) (ls : Array Slot) (hl : lv_has ls 4 [(0, .ref b), (1, .ref h0), (2, .ref m0), (3, .int (nI i))]) (hcp : ik = im ∧ vs = vm ∧ (im = 0 ∨ kvs = kvm) ∧ tl = tm) (kk : ∀ (ik : Int32) (vs kvs : VS) (tl : List Nat) (im : Int32) (vm kvm : VS) (tm : List Nat) (X : va_W) (T : List (ClassId × FieldType)) (M : va_W) (H : Heap) (locs : List Loc), Lst dC dI ad bS Y s A h0 m0 ik vs kvs tl im vm kvm tm X T M T2 H → (ik = im ∧ vs = vm ∧ (im = 0 ∨ kvs = kvm) ∧ tl = tm) → va_S A s.heap H locs → W p l e room_1 s m #[Value.ref b] below meth c H locs (cells + 8) (slots + 200) (lw_Z below #[Value.ref b] s) (F0 m 1108 ls [])) : W p l e room_1 s m #[Value.ref b] below meth c H locs cells slots (lw_Z below #[Value.ref b] s) (F0 m 1085 ls []) := by
  obtain ⟨hx, hb, hr, hml, hown, hts0, hX, hbl, hlocks, hgv⟩ := id C0
  have hown : s.vm.findClass RL = some m.cls := hown
  have hb : c.code = cL_law := hb
  have hts : ∀ w ∈ lw_tbl, w.before #[Value.ref b] s = true := fun w h => hts0 w (wsL_law_in w h)
  have hA : ∀ q : Nat, s.heap.size ≤ q → A q := fun q h => by rw [hAe]; exact h
  have hbA : ¬ A b := by rw [hAe]; exact Nat.not_le.mpr hbl
  refine lv_aload_n hx hb dL_law_1085 rfl (lv_at hl 1 rfl) ?_
  refine lv_aload_n hx hb dL_law_1086 rfl (lv_at hl 0 rfl) ?_
  refine lv_iload_n hx hb dL_law_1087 rfl (lv_at hl 3 rfl) ?_
  refine lv_iconst (v := 1) hx hb dL_law_1088 (by decide) ?_
  refine lv_iadd hx hb dL_law_1089 ?_
  refine qi_as (y := nI (i + 1)) (nI_add i 1) ?_
  refine va_sld hx hb hX hbl hbA hS (vp_in_nI (n := i + 1) (N := L) (by omega) (by omega)) dL_law_1090 ?_
  refine qi_as (y := xs (i + 1)) (by rw [nI_clamp (by omega)]) ?_
  refine lx_i (va_runV (As := [.int (xs (i + 1))]) (rest := []) ⟨hx, hb, hml, hown, hts⟩ (w_count l dC dI gd kA ad cB bS sK sV Y ik vs kvs tl T h0 X (xs (i + 1)) H.size) (cwV 1 hts gL_law_X11_count rfl rfl rfl hd_yX11_count ⟨Nat.le_of_ble_eq_true rfl, Nat.le_of_ble_eq_true rfl⟩) ⟨fun a U g mk q => by obtain ⟨q0, q1, qX, qK, qY1, qY2, qG⟩ := q; exact ⟨q0, q1, qX, va_K.moved (u := U) (U := U.calling g mk a) (Vm.Alike.refl U.vm) qK, qY1, qY2, qG.same rfl rfl⟩, hLS.1.recv hLS.2.2.1, fun U hU hW => ⟨rfl, by rw [hU], by rw [hU]; exact hLS.1, va_K.moved hW.alike hLS.2.2.1, hLS.2.2.2.2.2.2.1, fun q hq hy => absurd (hLS.2.2.2.2.2.2.2.2 q hy) (Nat.not_lt.mpr hq), hGA.call hS hU hW (bl_in hLS.2.2.2.2.1 hS hA)⟩⟩ rfl rfl hl.1 rfl (lv_room (Nat.le_of_ble_eq_true rfl)) dL_law_1091 ⟨by show _ ≤ 600000; omega, by show _ ≤ 7302250; omega⟩) hLS hS hA (fun r1_ u_ H locs X T hp1 hLS hS => ?_)
  obtain ⟨e1_, rfl⟩ := hp1
  have hLS : Lst dC dI ad bS Y s A h0 m0 ik vs kvs tl im vm kvm tm X T M T2 H := hLS
  refine lv_pop hx hb dL_law_1094 rfl ?_
  refine lv_aload_n hx hb dL_law_1095 rfl (lv_at hl 2 rfl) ?_
  refine lv_aload_n hx hb dL_law_1096 rfl (lv_at hl 0 rfl) ?_
  refine lv_iload_n hx hb dL_law_1097 rfl (lv_at hl 3 rfl) ?_
  refine lv_iconst (v := 1) hx hb dL_law_1098 (by decide) ?_
  refine lv_iadd hx hb dL_law_1099 ?_
  refine qi_as (y := nI (i + 1)) (nI_add i 1) ?_
  refine va_sld hx hb hX hbl hbA hS (vp_in_nI (n := i + 1) (N := L) (by omega) (by omega)) dL_law_1100 ?_
  refine qi_as (y := xs (i + 1)) (by rw [nI_clamp (by omega)]) ?_
  refine lm_i (va_runV (As := [.int (xs (i + 1))]) (rest := []) ⟨hx, hb, hml, hown, hts⟩ (v_count l dC dI sK sV im vm kvm tm T2 m0 M (xs (i + 1)) H.size) (cwV 1 hts gL_law_X12_count rfl rfl rfl hd_yX12_count ⟨Nat.le_of_ble_eq_true rfl, Nat.le_of_ble_eq_true rfl⟩) ⟨fun a U g mk q => by obtain ⟨q0, q1, qX, qK, qG⟩ := q; exact ⟨q0, q1, qX, va_K.moved (u := U) (U := U.calling g mk a) (Vm.Alike.refl U.vm) qK, qG.same rfl rfl⟩, hLS.2.1.recv hLS.2.2.2.1, fun U hU hW => ⟨rfl, by rw [hU], by rw [hU]; exact hLS.2.1, va_K.moved hW.alike hLS.2.2.2.1, hGA.2.2.2.2.2.2.call hS hU hW (bl_in hLS.2.2.2.2.2.1 hS hA)⟩⟩ rfl rfl hl.1 rfl (lv_room (Nat.le_of_ble_eq_true rfl)) dL_law_1101 ⟨by show _ ≤ 600000; omega, by show _ ≤ 7302250; omega⟩) hLS hS hA (fun r2_ u_ H locs M hp2 hLS hS => ?_)
  obtain ⟨e2_, rfl⟩ := hp2
  have hLS : Lst dC dI ad bS Y s A h0 m0 ik vs kvs tl im vm kvm tm X T M T2 H := hLS
  refine lv_pop hx hb dL_law_1104 rfl ?_
  refine lv_goto (tgt := 1108) hx hb dL_law_1105 (by decide) ?_
  refine W.widen (k := cells + 8) (n := slots + 200) (by omega) (by omega) ?_
  exact kk ik vs kvs tl im vm kvm tm X T M H locs hLS ⟨hcp.1, by rw [hcp.2.1], hcp.2.2⟩ hS
