theorem dJxa1e45_init_da8c8_0 : decode cJxa1e45_init_da8c8 0 = .ok (.aload_n 0, 1) := by decide +kernel
theorem dJxa1e45_init_da8c8_1 : decode cJxa1e45_init_da8c8 1 = .ok (.invokespecial 1, 3) := by decide +kernel
theorem dJxa1e45_init_da8c8_4 : decode cJxa1e45_init_da8c8 4 = .ok (.return_, 1) := by decide +kernel
theorem dJxc12de_init_da8c8_0 : decode cJxc12de_init_da8c8 0 = .ok (.aload_n 0, 1) := by decide +kernel
set_option maxRecDepth 20000 in
theorem ggJxc12de_init_da8c8_Jxa1e45_init_da8c8 : GoodIn wsJxc12de_init_da8c8 wsJxa1e45_init_da8c8 := goodIn_r _ [5, 6, 7, 8] (by decide +kernel) (by decide +kernel)
theorem dJxc12de_init_da8c8_1 : decode cJxc12de_init_da8c8 1 = .ok (.invokespecial 1, 3) := by decide +kernel
theorem dJxc12de_init_da8c8_4 : decode cJxc12de_init_da8c8 4 = .ok (.aload_n 0, 1) := by decide +kernel
theorem dJxc12de_init_da8c8_5 : decode cJxc12de_init_da8c8 5 = .ok (.iconst 0, 1) := by decide +kernel
theorem dJxc12de_init_da8c8_6 : decode cJxc12de_init_da8c8 6 = .ok (.putfield 7, 3) := by decide +kernel
theorem dJxc12de_init_da8c8_9 : decode cJxc12de_init_da8c8 9 = .ok (.return_, 1) := by decide +kernel
theorem dJx4a65c_init_da8c8_0 : decode cJx4a65c_init_da8c8 0 = .ok (.aload_n 0, 1) := by decide +kernel
set_option maxRecDepth 20000 in
theorem ggJx4a65c_init_da8c8_Jxc12de_init_da8c8 : GoodIn wsJx4a65c_init_da8c8 wsJxc12de_init_da8c8 := goodIn_r _ [6, 7, 8, 9, 10, 11, 12, 13, 14, 15, 16, 17] (by decide +kernel) (by decide +kernel)
theorem dJx4a65c_init_da8c8_1 : decode cJx4a65c_init_da8c8 1 = .ok (.invokespecial 1, 3) := by decide +kernel
theorem dJx4a65c_init_da8c8_4 : decode cJx4a65c_init_da8c8 4 = .ok (.aload_n 0, 1) := by decide +kernel
theorem dJx4a65c_init_da8c8_5 : decode cJx4a65c_init_da8c8 5 = .ok (.getstatic 39, 3) := by decide +kernel
theorem dJx4a65c_init_da8c8_8 : decode cJx4a65c_init_da8c8 8 = .ok (.putfield 9, 3) := by decide +kernel
theorem dJx4a65c_init_da8c8_11 : decode cJx4a65c_init_da8c8 11 = .ok (.return_, 1) := by decide +kernel
theorem kc_acInit_0 : (.methodLink RJxa1e45 1 objectInit : Cond) ∈ wsJxa1e45_init_da8c8 := by decide +kernel
theorem kc_acInit_1 : (.instanceMethod objectInit : Cond) ∈ wsJxa1e45_init_da8c8 := by decide +kernel
theorem kc_acInit_2 : (.code objectInit ⟨#[0xb1]⟩ 1 none : Cond) ∈ wsJxa1e45_init_da8c8 := by decide +kernel
set_option maxHeartbeats 4000000 in
set_option maxRecDepth 100000 in
theorem c_acInit (l : Launch) (dC : Nat → ClassId) (dI : Nat → Nat → Nat) (a0 : Nat) (sz : Nat) : Met l yJxa1e45_init_da8c8 wsJxa1e45_init_da8c8 ({ frames := 1, cells := 0, slots := 0, locals := 12 } : Room) (va_Pc [.ref a0] (fun U => U.heap.size = sz ∧ va_P (dC, dI) vwCl [(a0, .inr (1, [.int 0, .null, .int 0]))] U.heap ∧ va_K (dC, dI) vwCl [] U ∧ va_D (fun _ => True) [(a0, .inr (1, [.int 0, .null, .int 0]))])) (va_Qv (fun (u : Unit) => match u with | () => True) (fun (u : Unit) (t : State) => match u with | () => va_P (dC, dI) vwCl [(a0, .inr (1, [.int 0, .null, .int 0]))] t.heap ∧ va_K (dC, dI) vwCl [] t ∧ va_D (va_A [(a0, .inr (1, [.int 0, .null, .int 0]))] sz) [(a0, .inr (1, [.int 0, .null, .int 0]))]) (va_A [(a0, .inr (1, [.int 0, .null, .int 0]))] sz)) 0 0 (va_A [(a0, .inr (1, [.int 0, .null, .int 0]))] sz) := by
  refine met_ofQ (cc := cJxa1e45_init_da8c8) (maxL := 1) (ret := none) (by decide) rfl ?_
  intro p e s m args below meth c s₁ Q B hml hv hQ
  obtain ⟨rfl, hsz, hP, hK, hD0⟩ := hv
  have hx := B.exec
  have hb := B.bytes
  have hr := B.returns
  have hts := atoms_spec (ws := wsJxa1e45_init_da8c8) B.pre
  have hown : s.vm.findClass RJxa1e45 = some m.cls := findClass_of_methodNamed B.named
  have hlocks := B.notSynchronized
  have hin : meth.name = "<init>" := (name_of_methodNamed B.named B.method).1
  subst hsz
  have hD := hD0.self (sz := s.heap.size)
  generalize hAe : va_A [(a0, .inr (1, [.int 0, .null, .int 0]))] s.heap.size = A at hD hQ ⊢
  have hA : ∀ q : Nat, s.heap.size ≤ q → A q := fun q h => by rw [← hAe]; exact Or.inr h
  have hS : va_S A s.heap s.heap [] := va_S.rf
  have hl := lv_entry [.ref a0] (n := 1) (Nat.le_of_ble_eq_true rfl)
  rw [lg_entry_eq]
  generalize (lg_sl [.ref a0] ++ List.replicate (1 - (lg_sl [.ref a0]).length) Slot.unset).toArray = ls at hl ⊢
  generalize hag : ([.ref a0] : List Value).toArray = args at hts hQ ⊢
  have hl : lv_has ls 1 [(0, .ref a0)] := hl
  obtain ⟨H, hH⟩ : ∃ H : Heap, H = s.heap := ⟨_, rfl⟩
  rw [← hH] at hP
  rw [← hH]
  have hS : va_S A s.heap H [] := by rw [hH]; exact hS
  obtain ⟨locs, hlo⟩ : ∃ L : List Loc, L = [] := ⟨_, rfl⟩
  rw [← hlo] at hS
  rw [← hlo]
  clear hH hlo
  refine lv_aload_n hx hb dJxa1e45_init_da8c8_0 rfl (lv_at hl 0 rfl) ?_
  refine W.objInit hx hb hown (hts (.methodLink RJxa1e45 1 objectInit) kc_acInit_0) (hts (.instanceMethod objectInit) kc_acInit_1) (hts (.code objectInit ⟨#[0xb1]⟩ 1 none) kc_acInit_2) rfl (by rw [hml]; exact hl.1) rfl dJxa1e45_init_da8c8_1 (Nat.le_of_ble_eq_true rfl) (Nat.le_of_ble_eq_true rfl) ?_
  refine W.eq (g2 := F0 m 4 ls []) rfl ?_
  rw [hQ]
  have hP9 := hP.sub (ws' := [(a0, .inr (1, [.int 0, .null, .int 0]))]) [0] rfl
  have hD9 := hD.sub (ws' := [(a0, .inr (1, [.int 0, .null, .int 0]))]) [0] (by decide) rfl
  have hK9 := hK.sub (tys' := []) [] rfl
  exact W.vret hx hb hr (fun tQ htQ hWQ => ⟨⟨(), rfl, trivial, by rw [htQ]; exact hP9, va_K.moved hWQ.alike hK9, hD9⟩, hS.F htQ⟩) hS.2.2 dJxa1e45_init_da8c8_4

theorem kc_alInit_0 : (.initialized RJxa1e45 : Cond) ∈ wsJxc12de_init_da8c8 := by decide +kernel
theorem kc_alInit_1 : (.methodLink RJxc12de 1 yJxa1e45_init_da8c8 : Cond) ∈ wsJxc12de_init_da8c8 := by decide +kernel
theorem kc_alInit_2 : (.instanceMethod yJxa1e45_init_da8c8 : Cond) ∈ wsJxc12de_init_da8c8 := by decide +kernel
theorem kc_alInit_3 : ∀ w ∈ wsJx4a65c0, w ∈ wsJxc12de_init_da8c8 := by decide +kernel
theorem kc_alInit_4 : (.fieldLink RJxc12de 7 "java/util/AbstractList" "modCount" "I" : Cond) ∈ wsJxc12de_init_da8c8 := by decide +kernel
set_option maxHeartbeats 4000000 in
set_option maxRecDepth 100000 in
theorem c_alInit (l : Launch) (dC : Nat → ClassId) (dI : Nat → Nat → Nat) (a0 : Nat) (sz : Nat) : Met l yJxc12de_init_da8c8 wsJxc12de_init_da8c8 ({ frames := 2, cells := 0, slots := 0, locals := 32 } : Room) (va_Pc [.ref a0] (fun U => U.heap.size = sz ∧ va_P (dC, dI) vwCl [(a0, .inr (1, [.int 0, .null, .int 0]))] U.heap ∧ va_K (dC, dI) vwCl [] U ∧ va_D (fun _ => True) [(a0, .inr (1, [.int 0, .null, .int 0]))])) (va_Qv (fun (u : Unit) => match u with | () => True) (fun (u : Unit) (t : State) => match u with | () => va_P (dC, dI) vwCl [(a0, .inr (1, [.int 0, .null, .int 0]))] t.heap ∧ va_K (dC, dI) vwCl [] t ∧ va_D (va_A [(a0, .inr (1, [.int 0, .null, .int 0]))] sz) [(a0, .inr (1, [.int 0, .null, .int 0]))]) (va_A [(a0, .inr (1, [.int 0, .null, .int 0]))] sz)) 0 0 (va_A [(a0, .inr (1, [.int 0, .null, .int 0]))] sz) := by
  refine met_ofQ (cc := cJxc12de_init_da8c8) (maxL := 1) (ret := none) (by decide) rfl ?_
  intro p e s m args below meth c s₁ Q B hml hv hQ
  obtain ⟨rfl, hsz, hP, hK, hD0⟩ := hv
  have hx := B.exec
  have hb := B.bytes
  have hr := B.returns
  have hts := atoms_spec (ws := wsJxc12de_init_da8c8) B.pre
  have hown : s.vm.findClass RJxc12de = some m.cls := findClass_of_methodNamed B.named
  have hlocks := B.notSynchronized
  have hin : meth.name = "<init>" := (name_of_methodNamed B.named B.method).1
  subst hsz
  have hD := hD0.self (sz := s.heap.size)
  generalize hAe : va_A [(a0, .inr (1, [.int 0, .null, .int 0]))] s.heap.size = A at hD hQ ⊢
  have hA : ∀ q : Nat, s.heap.size ≤ q → A q := fun q h => by rw [← hAe]; exact Or.inr h
  have hS : va_S A s.heap s.heap [] := va_S.rf
  have hl := lv_entry [.ref a0] (n := 1) (Nat.le_of_ble_eq_true rfl)
  rw [lg_entry_eq]
  generalize (lg_sl [.ref a0] ++ List.replicate (1 - (lg_sl [.ref a0]).length) Slot.unset).toArray = ls at hl ⊢
  generalize hag : ([.ref a0] : List Value).toArray = args at hts hQ ⊢
  have hl : lv_has ls 1 [(0, .ref a0)] := hl
  obtain ⟨H, hH⟩ : ∃ H : Heap, H = s.heap := ⟨_, rfl⟩
  rw [← hH] at hP
  rw [← hH]
  have hS : va_S A s.heap H [] := by rw [hH]; exact hS
  obtain ⟨locs, hlo⟩ : ∃ L : List Loc, L = [] := ⟨_, rfl⟩
  rw [← hlo] at hS
  rw [← hlo]
  clear hH hlo
  refine lv_aload_n hx hb dJxc12de_init_da8c8_0 rfl (lv_at hl 0 rfl) ?_
  have hPc := hP.sub (ws' := [(a0, .inr (1, [.int 0, .null, .int 0]))]) [0] rfl
  have hDc := hD.sub (ws' := [(a0, .inr (1, [.int 0, .null, .int 0]))]) [0] (by decide) rfl
  have hKc := hK.sub (tys' := []) [] rfl
  have hFc := va_free (wc := [(a0, .inr (1, [.int 0, .null, .int 0]))]) hD hS hA [0] rfl
  refine va_callv (va_runI (As := []) (rest := []) ⟨hx, hb, hml, hown, hts⟩ (c_acInit l dC dI a0 H.size) (cwI 0 hts ggJxc12de_init_da8c8_Jxa1e45_init_da8c8 rfl rfl rfl (hts (.initialized RJxa1e45) kc_alInit_0) (hts (.methodLink RJxc12de 1 yJxa1e45_init_da8c8) kc_alInit_1) (hts (.instanceMethod yJxa1e45_init_da8c8) kc_alInit_2) rfl (by decide +kernel) ⟨Nat.le_of_ble_eq_true rfl, Nat.le_of_ble_eq_true rfl⟩) ⟨fun a U g mk q => by obtain ⟨q0, q1, qP, qK, qD⟩ := q; exact ⟨q0, q1, qP, va_K.moved (u := U) (U := U.calling g mk a) (Vm.Alike.refl U.vm) qK, qD⟩, fun U hU hW => ⟨rfl, by rw [hU], by rw [hU]; exact hPc, va_K.moved hW.alike hKc, hDc.weaken (fun _ _ _ _ => trivial)⟩⟩ rfl rfl hl.1 rfl (lv_room (Nat.le_of_ble_eq_true rfl)) dJxc12de_init_da8c8_1 ⟨Nat.le_of_ble_eq_true rfl, Nat.le_of_ble_eq_true rfl⟩) hS (fun q _ h => hFc q h) hFc (fun u tC H1 locs htC hvm hw_2 hB hz1 hk1 hS => ?_)
  obtain ⟨⟩ := u
  try dsimp only at hw_2 hB
  obtain ⟨hP1, hK1, hD1⟩ := hB
  rw [htC] at hP1
  have hK1 := va_K.moved hvm.symm hK1
  obtain ⟨hP, hD⟩ := va_join (wr := []) (w1 := [(a0, .inr (1, [.int 0, .null, .int 0]))]) hP hD [0] [] rfl rfl (by decide) (by decide) hk1 hFc hP1 hD1
  have hK := (hK.sub (tys' := []) [] rfl).app hK1
  generalize H1 = H at hP hS ⊢
  have hP : va_P (dC, dI) vwCl [(a0, .inr (1, [.int 0, .null, .int 0]))] H := hP
  have hD : va_D A [(a0, .inr (1, [.int 0, .null, .int 0]))] := hD
  have hK : va_K (dC, dI) vwCl [] s := hK
  refine lv_aload_n hx hb dJxc12de_init_da8c8_4 rfl (lv_at hl 0 rfl) ?_
  refine lv_iconst (v := 0) hx hb dJxc12de_init_da8c8_5 (by decide) ?_
  refine va_put (D := (dC, dI)) (ci := 1) (v := .int 0) (ty := .int) (C := RJx4a65c) (T := TJx4a65c) (N := 3) hx hb hts kc_alInit_3 tyJx4a65c tyJx4a65c_ok nmJx4a65c hown hK hP hD hS 0 rfl rfl 0 (by decide) (hts (.fieldLink RJxc12de 7 "java/util/AbstractList" "modCount" "I") kc_alInit_4) (fun _ h9 => h9) rfl (by decide +kernel) rfl rfl (Nat.le_of_ble_eq_true rfl) dJxc12de_init_da8c8_6 (fun H locs hP hD hS => ?_)
  have hP : va_P (dC, dI) vwCl [(a0, .inr (1, [.int 0, .null, .int 0]))] H := hP
  have hD : va_D A [(a0, .inr (1, [.int 0, .null, .int 0]))] := hD
  rw [hQ]
  have hP9 := hP.sub (ws' := [(a0, .inr (1, [.int 0, .null, .int 0]))]) [0] rfl
  have hD9 := hD.sub (ws' := [(a0, .inr (1, [.int 0, .null, .int 0]))]) [0] (by decide) rfl
  have hK9 := hK.sub (tys' := []) [] rfl
  exact W.vret hx hb hr (fun tQ htQ hWQ => ⟨⟨(), rfl, trivial, by rw [htQ]; exact hP9, va_K.moved hWQ.alike hK9, hD9⟩, hS.F htQ⟩) hS.2.2 dJxc12de_init_da8c8_9

theorem kc_listInit_0 : (.initialized RJxc12de : Cond) ∈ wsJx4a65c_init_da8c8 := by decide +kernel
theorem kc_listInit_1 : (.methodLink RJx4a65c 1 yJxc12de_init_da8c8 : Cond) ∈ wsJx4a65c_init_da8c8 := by decide +kernel
theorem kc_listInit_2 : (.instanceMethod yJxc12de_init_da8c8 : Cond) ∈ wsJx4a65c_init_da8c8 := by decide +kernel
theorem kc_listInit_3 : (.fieldLink RJx4a65c 39 "java/util/ArrayList" "DEFAULTCAPACITY_EMPTY_ELEMENTDATA" "[Ljava/lang/Object;" : Cond) ∈ wsJx4a65c_init_da8c8 := by decide +kernel
theorem kc_listInit_4 : ∀ w ∈ wsJx4a65c0, w ∈ wsJx4a65c_init_da8c8 := by decide +kernel
theorem kc_listInit_5 : (.fieldLink RJx4a65c 9 "java/util/ArrayList" "elementData" "[Ljava/lang/Object;" : Cond) ∈ wsJx4a65c_init_da8c8 := by decide +kernel
set_option maxHeartbeats 4000000 in
set_option maxRecDepth 100000 in
theorem c_listInit (l : Launch) (dC : Nat → ClassId) (dI : Nat → Nat → Nat) (bS : Nat) (a0 : Nat) (sz : Nat) : Met l yJx4a65c_init_da8c8 wsJx4a65c_init_da8c8 ({ frames := 3, cells := 0, slots := 0, locals := 52 } : Room) (va_Pc [.ref a0] (fun U => U.heap.size = sz ∧ va_P (dC, dI) vwCl [(a0, .inr (1, [.int 0, .null, .int 0]))] U.heap ∧ va_K (dC, dI) vwCl [] U ∧ va_D (fun _ => True) [(a0, .inr (1, [.int 0, .null, .int 0]))] ∧ Gc bS (va_A [(a0, .inr (1, [.int 0, .null, .int 0]))] sz) U)) (va_Qv (fun (u : Unit) => match u with | () => True) (fun (u : Unit) (t : State) => match u with | () => va_P (dC, dI) vwCl [(a0, .inr (1, [.int 0, .ref bS, .int 0]))] t.heap ∧ va_K (dC, dI) vwCl [] t ∧ va_D (va_A [(a0, .inr (1, [.int 0, .null, .int 0]))] sz) [(a0, .inr (1, [.int 0, .ref bS, .int 0]))]) (va_A [(a0, .inr (1, [.int 0, .null, .int 0]))] sz)) 0 0 (va_A [(a0, .inr (1, [.int 0, .null, .int 0]))] sz) := by
  refine met_ofQ (cc := cJx4a65c_init_da8c8) (maxL := 1) (ret := none) (by decide) rfl ?_
  intro p e s m args below meth c s₁ Q B hml hv hQ
  obtain ⟨rfl, hsz, hP, hK, hD0, hC⟩ := hv
  have hx := B.exec
  have hb := B.bytes
  have hr := B.returns
  have hts := atoms_spec (ws := wsJx4a65c_init_da8c8) B.pre
  have hown : s.vm.findClass RJx4a65c = some m.cls := findClass_of_methodNamed B.named
  have hlocks := B.notSynchronized
  have hin : meth.name = "<init>" := (name_of_methodNamed B.named B.method).1
  subst hsz
  have hD := hD0.self (sz := s.heap.size)
  generalize hAe : va_A [(a0, .inr (1, [.int 0, .null, .int 0]))] s.heap.size = A at hD hQ hC ⊢
  have hA : ∀ q : Nat, s.heap.size ≤ q → A q := fun q h => by rw [← hAe]; exact Or.inr h
  have hS : va_S A s.heap s.heap [] := va_S.rf
  have hl := lv_entry [.ref a0] (n := 1) (Nat.le_of_ble_eq_true rfl)
  rw [lg_entry_eq]
  generalize (lg_sl [.ref a0] ++ List.replicate (1 - (lg_sl [.ref a0]).length) Slot.unset).toArray = ls at hl ⊢
  generalize hag : ([.ref a0] : List Value).toArray = args at hts hQ ⊢
  have hl : lv_has ls 1 [(0, .ref a0)] := hl
  obtain ⟨H, hH⟩ : ∃ H : Heap, H = s.heap := ⟨_, rfl⟩
  rw [← hH] at hP
  rw [← hH]
  have hS : va_S A s.heap H [] := by rw [hH]; exact hS
  obtain ⟨locs, hlo⟩ : ∃ L : List Loc, L = [] := ⟨_, rfl⟩
  rw [← hlo] at hS
  rw [← hlo]
  clear hH hlo
  refine lv_aload_n hx hb dJx4a65c_init_da8c8_0 rfl (lv_at hl 0 rfl) ?_
  have hPc := hP.sub (ws' := [(a0, .inr (1, [.int 0, .null, .int 0]))]) [0] rfl
  have hDc := hD.sub (ws' := [(a0, .inr (1, [.int 0, .null, .int 0]))]) [0] (by decide) rfl
  have hKc := hK.sub (tys' := []) [] rfl
  have hFc := va_free (wc := [(a0, .inr (1, [.int 0, .null, .int 0]))]) hD hS hA [0] rfl
  refine va_callv (va_runI (As := []) (rest := []) ⟨hx, hb, hml, hown, hts⟩ (c_alInit l dC dI a0 H.size) (cwI 0 hts ggJx4a65c_init_da8c8_Jxc12de_init_da8c8 rfl rfl rfl (hts (.initialized RJxc12de) kc_listInit_0) (hts (.methodLink RJx4a65c 1 yJxc12de_init_da8c8) kc_listInit_1) (hts (.instanceMethod yJxc12de_init_da8c8) kc_listInit_2) rfl (by decide +kernel) ⟨Nat.le_of_ble_eq_true rfl, Nat.le_of_ble_eq_true rfl⟩) ⟨fun a U g mk q => by obtain ⟨q0, q1, qP, qK, qD⟩ := q; exact ⟨q0, q1, qP, va_K.moved (u := U) (U := U.calling g mk a) (Vm.Alike.refl U.vm) qK, qD⟩, fun U hU hW => ⟨rfl, by rw [hU], by rw [hU]; exact hPc, va_K.moved hW.alike hKc, hDc.weaken (fun _ _ _ _ => trivial)⟩⟩ rfl rfl hl.1 rfl (lv_room (Nat.le_of_ble_eq_true rfl)) dJx4a65c_init_da8c8_1 ⟨Nat.le_of_ble_eq_true rfl, Nat.le_of_ble_eq_true rfl⟩) hS (fun q _ h => hFc q h) hFc (fun u tC H1 locs htC hvm hw_2 hB hz1 hk1 hS => ?_)
  obtain ⟨⟩ := u
  try dsimp only at hw_2 hB
  obtain ⟨hP1, hK1, hD1⟩ := hB
  rw [htC] at hP1
  have hK1 := va_K.moved hvm.symm hK1
  obtain ⟨hP, hD⟩ := va_join (wr := []) (w1 := [(a0, .inr (1, [.int 0, .null, .int 0]))]) hP hD [0] [] rfl rfl (by decide) (by decide) hk1 hFc hP1 hD1
  have hK := (hK.sub (tys' := []) [] rfl).app hK1
  generalize H1 = H at hP hS ⊢
  have hP : va_P (dC, dI) vwCl [(a0, .inr (1, [.int 0, .null, .int 0]))] H := hP
  have hD : va_D A [(a0, .inr (1, [.int 0, .null, .int 0]))] := hD
  have hK : va_K (dC, dI) vwCl [] s := hK
  refine lv_aload_n hx hb dJx4a65c_init_da8c8_4 rfl (lv_at hl 0 rfl) ?_
  refine va_gets (C := "java/util/ArrayList") (n := "DEFAULTCAPACITY_EMPTY_ELEMENTDATA") (d := "[Ljava/lang/Object;") (v := .ref bS) hx hb hC.2.2.2.2 hS hown (hts (.fieldLink RJx4a65c 39 "java/util/ArrayList" "DEFAULTCAPACITY_EMPTY_ELEMENTDATA" "[Ljava/lang/Object;") kc_listInit_3) (fun _ h9 => h9) dJx4a65c_init_da8c8_5 ?_
  refine va_put (D := (dC, dI)) (ci := 1) (v := .ref bS) (ty := .array (.object "java/lang/Object")) (C := RJx4a65c) (T := TJx4a65c) (N := 3) hx hb hts kc_listInit_4 tyJx4a65c tyJx4a65c_ok nmJx4a65c hown hK hP hD hS 0 rfl rfl 1 (by decide) (hts (.fieldLink RJx4a65c 9 "java/util/ArrayList" "elementData" "[Ljava/lang/Object;") kc_listInit_5) (fun _ h9 => h9) rfl (by decide +kernel) rfl rfl (Nat.le_of_ble_eq_true rfl) dJx4a65c_init_da8c8_8 (fun H locs hP hD hS => ?_)
  have hP : va_P (dC, dI) vwCl [(a0, .inr (1, [.int 0, .ref bS, .int 0]))] H := hP
  have hD : va_D A [(a0, .inr (1, [.int 0, .ref bS, .int 0]))] := hD
  rw [hQ]
  have hP9 := hP.sub (ws' := [(a0, .inr (1, [.int 0, .ref bS, .int 0]))]) [0] rfl
  have hD9 := hD.sub (ws' := [(a0, .inr (1, [.int 0, .ref bS, .int 0]))]) [0] (by decide) rfl
  have hK9 := hK.sub (tys' := []) [] rfl
  exact W.vret hx hb hr (fun tQ htQ hWQ => ⟨⟨(), rfl, trivial, by rw [htQ]; exact hP9, va_K.moved hWQ.alike hK9, hD9⟩, hS.F htQ⟩) hS.2.2 dJx4a65c_init_da8c8_11
