theorem dX2_init_0 : decode cX2_init 0 = .ok (.aload_n 0, 1) := by decide +kernel
theorem dX2_init_1 : decode cX2_init 1 = .ok (.invokespecial 3, 3) := by decide +kernel
theorem dX2_init_4 : decode cX2_init 4 = .ok (.aload_n 0, 1) := by decide +kernel
theorem dX2_init_5 : decode cX2_init 5 = .ok (.bipush 8, 2) := by decide +kernel
theorem dX2_init_7 : decode cX2_init 7 = .ok (.newarray .int, 2) := by decide +kernel
theorem dX2_init_9 : decode cX2_init 9 = .ok (.putfield 9, 3) := by decide +kernel
theorem dX2_init_12 : decode cX2_init 12 = .ok (.aload_n 0, 1) := by decide +kernel
theorem dX2_init_13 : decode cX2_init 13 = .ok (.bipush 8, 2) := by decide +kernel
theorem dX2_init_15 : decode cX2_init 15 = .ok (.newarray .int, 2) := by decide +kernel
theorem dX2_init_17 : decode cX2_init 17 = .ok (.putfield 15, 3) := by decide +kernel
theorem dX2_init_20 : decode cX2_init 20 = .ok (.aload_n 0, 1) := by decide +kernel
theorem dX2_init_21 : decode cX2_init 21 = .ok (.new 18, 3) := by decide +kernel
theorem dX2_init_24 : decode cX2_init 24 = .ok (.dup, 1) := by decide +kernel
theorem dX2_init_25 : decode cX2_init 25 = .ok (.iconst 0, 1) := by decide +kernel
theorem dX2_init_26 : decode cX2_init 26 = .ok (.iconst 0, 1) := by decide +kernel
theorem dX2_init_27 : decode cX2_init 27 = .ok (.iconst 0, 1) := by decide +kernel
theorem dX2_init_28 : decode cX2_init 28 = .ok (.iconst 0, 1) := by decide +kernel
set_option maxRecDepth 20000 in
theorem ggX2_init_X3_init : GoodIn wsX2_init wsX3_init := goodIn_r _ [13, 14, 2, 3, 15, 16, 17, 18, 27, 28, 29, 30, 23, 24, 25, 26, 31, 32, 33, 34, 35, 36, 37, 38, 39, 40, 41, 42, 43, 44, 45, 46, 47, 48, 49, 50] (by decide +kernel) (by decide +kernel)
theorem dX2_init_29 : decode cX2_init 29 = .ok (.invokespecial 20, 3) := by decide +kernel
theorem dX2_init_32 : decode cX2_init 32 = .ok (.putfield 23, 3) := by decide +kernel
theorem dX2_init_35 : decode cX2_init 35 = .ok (.return_, 1) := by decide +kernel
theorem kc_goingsInit_0 : (.methodLink RX2 3 objectInit : Cond) ∈ wsX2_init := by decide +kernel
theorem kc_goingsInit_1 : (.instanceMethod objectInit : Cond) ∈ wsX2_init := by decide +kernel
theorem kc_goingsInit_2 : (.code objectInit ⟨#[0xb1]⟩ 1 none : Cond) ∈ wsX2_init := by decide +kernel
theorem kc_goingsInit_3 : (.arrayClass .int : Cond) ∈ wsX2_init := by decide +kernel
theorem kc_goingsInit_4 : ∀ w ∈ wsX20, w ∈ wsX2_init := by decide +kernel
theorem kc_goingsInit_5 : (.fieldLink RX2 9 "MistHeaps$Goings" "reach" "[I" : Cond) ∈ wsX2_init := by decide +kernel
theorem kc_goingsInit_6 : (.fieldLink RX2 15 "MistHeaps$Goings" "onward" "[I" : Cond) ∈ wsX2_init := by decide +kernel
theorem kc_goingsInit_7 : ∀ w ∈ wsX30, w ∈ wsX2_init := by decide +kernel
theorem kc_goingsInit_8 : (.classLink RX2 18 RX3 : Cond) ∈ wsX2_init := by decide +kernel
theorem kc_goingsInit_9 : (.instantiable RX3 4 : Cond) ∈ wsX2_init := by decide +kernel
theorem kc_goingsInit_10 : (.initialized RX3 : Cond) ∈ wsX2_init := by decide +kernel
theorem kc_goingsInit_11 : (.methodLink RX2 20 yX3_init : Cond) ∈ wsX2_init := by decide +kernel
theorem kc_goingsInit_12 : (.instanceMethod yX3_init : Cond) ∈ wsX2_init := by decide +kernel
theorem kc_goingsInit_13 : (.fieldLink RX2 23 "MistHeaps$Goings" "spare" "LMistHeaps$Heap;" : Cond) ∈ wsX2_init := by decide +kernel
set_option maxHeartbeats 4000000 in
set_option maxRecDepth 100000 in
theorem c_goingsInit (l : Launch) (dC : Nat → ClassId) (dI : Nat → Nat → Nat) (a0 : Nat) (sz : Nat) : Met l yX2_init wsX2_init ({ frames := 2, cells := 3, slots := 20, locals := 36 } : Room) (va_Pc [.ref a0] (fun U => U.heap.size = sz ∧ va_P (dC, dI) vwCl [(a0, .inr (4, [.null, .null, .int 0, .null]))] U.heap ∧ va_K (dC, dI) vwCl [] U ∧ va_D (fun _ => True) [(a0, .inr (4, [.null, .null, .int 0, .null]))])) (va_Qv (fun (u : Unit) => match u with | () => True) (fun (u : Unit) (t : State) => match u with | () => ∃ gR : Nat, ∃ gO : Nat, ∃ gS : Nat, va_P (dC, dI) vwCl [(a0, .inr (4, [.ref gR, .ref gO, .int 0, .ref gS]))] t.heap ∧ va_K (dC, dI) vwCl [] t ∧ va_D (va_A [(a0, .inr (4, [.null, .null, .int 0, .null]))] sz) [(a0, .inr (4, [.ref gR, .ref gO, .int 0, .ref gS]))]) (va_A [(a0, .inr (4, [.null, .null, .int 0, .null]))] sz)) 3 20 (va_A [(a0, .inr (4, [.null, .null, .int 0, .null]))] sz) := by
  refine met_ofQ (cc := cX2_init) (maxL := 1) (ret := none) (by decide) rfl ?_
  intro p e s m args below meth c s₁ Q B hml hv hQ
  obtain ⟨rfl, hsz, hP, hK, hD0⟩ := hv
  have hx := B.exec
  have hb := B.bytes
  have hr := B.returns
  have hts := atoms_spec (ws := wsX2_init) B.pre
  have hown : s.vm.findClass RX2 = some m.cls := findClass_of_methodNamed B.named
  have hlocks := B.notSynchronized
  have hin : meth.name = "<init>" := (name_of_methodNamed B.named B.method).1
  subst hsz
  have hD := hD0.self (sz := s.heap.size)
  generalize hAe : va_A [(a0, .inr (4, [.null, .null, .int 0, .null]))] s.heap.size = A at hD hQ ⊢
  have hA : ∀ q : Nat, s.heap.size ≤ q → A q := fun q h => by rw [← hAe]; exact Or.inr h
  have hS : va_S A s.heap s.heap [] := va_S.rf
  have hl := lv_entry [.ref a0] (n := 1) (Nat.le_of_ble_eq_true rfl)
  rw [lg_entry_eq]
  generalize (lg_sl [.ref a0] ++ List.replicate (1 - (lg_sl [.ref a0]).length) Slot.unset).toArray = ls at hl ⊢
  generalize hag : ([.ref a0] : List Value).toArray = args at hts hQ ⊢
  have hl : lv_has ls 1 [(0, .ref a0)] := hl
  obtain ⟨H, hH⟩ : ∃ H : Heap, H = s.heap := ⟨_, rfl⟩
  rw [← hH] at hP
  rw [← hH]
  have hS : va_S A s.heap H [] := by rw [hH]; exact hS
  obtain ⟨locs, hlo⟩ : ∃ L : List Loc, L = [] := ⟨_, rfl⟩
  rw [← hlo] at hS
  rw [← hlo]
  clear hH hlo
  refine lv_aload_n hx hb dX2_init_0 rfl (lv_at hl 0 rfl) ?_
  refine W.objInit hx hb hown (hts (.methodLink RX2 3 objectInit) kc_goingsInit_0) (hts (.instanceMethod objectInit) kc_goingsInit_1) (hts (.code objectInit ⟨#[0xb1]⟩ 1 none) kc_goingsInit_2) rfl (by rw [hml]; exact hl.1) rfl dX2_init_1 (Nat.le_of_ble_eq_true rfl) (Nat.le_of_ble_eq_true rfl) ?_
  refine W.eq (g2 := F0 m 4 ls []) rfl ?_
  refine lv_aload_n hx hb dX2_init_4 rfl (lv_at hl 0 rfl) ?_
  refine lv_bipush (v := 8) hx hb dX2_init_5 (by decide) ?_
  refine va_newa (atype := .int) (ty := .int) (N' := 8) (a0 := (8, .inl (fun _ => 0))) hx hb (hts (.arrayClass .int) kc_goingsInit_3) rfl hK hP hD hS hA (fun _ => rfl) (by decide) (by decide) (by decide) (Nat.le_of_ble_eq_true rfl) (Nat.le_of_ble_eq_true rfl) dX2_init_7 (fun q_1 ca_2 H hK hP hD hS => ?_)
  have hP : va_P (dC, dI) vwCl [(a0, .inr (4, [.null, .null, .int 0, .null])), (q_1, .inl (ca_2, 8, .inl (fun _ => 0)))] H := hP
  have hD : va_D A [(a0, .inr (4, [.null, .null, .int 0, .null])), (q_1, .inl (ca_2, 8, .inl (fun _ => 0)))] := hD
  have hK : va_K (dC, dI) vwCl [(ca_2, .int)] s := hK
  refine W.widen (k := 1) (n := 8) (by omega) (by omega) ?_
  refine va_putF (D := (dC, dI)) (ci := 4) (v := .ref q_1) (ty := .array .int) (C := RX2) (T := TX2) (N := 4) hx hb hts kc_goingsInit_4 tyX2 tyX2_ok nmX2 hown hK hP hD hS 0 rfl rfl 0 (by decide) (hts (.fieldLink RX2 9 "MistHeaps$Goings" "reach" "[I") kc_goingsInit_5) (fun _ h9 => h9) rfl hin rfl (by decide +kernel) rfl rfl (Nat.le_of_ble_eq_true rfl) dX2_init_9 (fun H locs hP hD hS => ?_)
  have hP : va_P (dC, dI) vwCl [(a0, .inr (4, [.ref q_1, .null, .int 0, .null])), (q_1, .inl (ca_2, 8, .inl (fun _ => 0)))] H := hP
  have hD : va_D A [(a0, .inr (4, [.ref q_1, .null, .int 0, .null])), (q_1, .inl (ca_2, 8, .inl (fun _ => 0)))] := hD
  refine lv_aload_n hx hb dX2_init_12 rfl (lv_at hl 0 rfl) ?_
  refine lv_bipush (v := 8) hx hb dX2_init_13 (by decide) ?_
  refine va_newa (atype := .int) (ty := .int) (N' := 8) (a0 := (8, .inl (fun _ => 0))) hx hb (hts (.arrayClass .int) kc_goingsInit_3) rfl hK hP hD hS hA (fun _ => rfl) (by decide) (by decide) (by decide) (Nat.le_of_ble_eq_true rfl) (Nat.le_of_ble_eq_true rfl) dX2_init_15 (fun q_3 ca_4 H hK hP hD hS => ?_)
  have hP : va_P (dC, dI) vwCl [(a0, .inr (4, [.ref q_1, .null, .int 0, .null])), (q_1, .inl (ca_2, 8, .inl (fun _ => 0))), (q_3, .inl (ca_4, 8, .inl (fun _ => 0)))] H := hP
  have hD : va_D A [(a0, .inr (4, [.ref q_1, .null, .int 0, .null])), (q_1, .inl (ca_2, 8, .inl (fun _ => 0))), (q_3, .inl (ca_4, 8, .inl (fun _ => 0)))] := hD
  have hK : va_K (dC, dI) vwCl [(ca_2, .int), (ca_4, .int)] s := hK
  refine W.widen (k := 2) (n := 16) (by omega) (by omega) ?_
  refine va_putF (D := (dC, dI)) (ci := 4) (v := .ref q_3) (ty := .array .int) (C := RX2) (T := TX2) (N := 4) hx hb hts kc_goingsInit_4 tyX2 tyX2_ok nmX2 hown hK hP hD hS 0 rfl rfl 1 (by decide) (hts (.fieldLink RX2 15 "MistHeaps$Goings" "onward" "[I") kc_goingsInit_6) (fun _ h9 => h9) rfl hin rfl (by decide +kernel) rfl rfl (Nat.le_of_ble_eq_true rfl) dX2_init_17 (fun H locs hP hD hS => ?_)
  have hP : va_P (dC, dI) vwCl [(a0, .inr (4, [.ref q_1, .ref q_3, .int 0, .null])), (q_1, .inl (ca_2, 8, .inl (fun _ => 0))), (q_3, .inl (ca_4, 8, .inl (fun _ => 0)))] H := hP
  have hD : va_D A [(a0, .inr (4, [.ref q_1, .ref q_3, .int 0, .null])), (q_1, .inl (ca_2, 8, .inl (fun _ => 0))), (q_3, .inl (ca_4, 8, .inl (fun _ => 0)))] := hD
  refine lv_aload_n hx hb dX2_init_20 rfl (lv_at hl 0 rfl) ?_
  refine va_new (ci := 5) (fs := [.int 0, .int 0, .int 0, .int 0]) (C := RX3) (T := TX3) (N := 4) hx hb hts kc_goingsInit_7 tyX3 tyX3_ok hown (hts (.classLink RX2 18 RX3) kc_goingsInit_8) (hts (.instantiable RX3 4) kc_goingsInit_9) (hts (.initialized RX3) kc_goingsInit_10) hK hP hD hS hA rfl (fun j hj => by rcases (show j = 0 ∨ j = 1 ∨ j = 2 ∨ j = 3 by omega) with rfl | rfl | rfl | rfl <;> rfl) (Nat.le_of_ble_eq_true rfl) (Nat.le_of_ble_eq_true rfl) dX2_init_21 (fun q_5 H hP hD hS => ?_)
  have hP : va_P (dC, dI) vwCl [(a0, .inr (4, [.ref q_1, .ref q_3, .int 0, .null])), (q_1, .inl (ca_2, 8, .inl (fun _ => 0))), (q_3, .inl (ca_4, 8, .inl (fun _ => 0))), (q_5, .inr (5, [.int 0, .int 0, .int 0, .int 0]))] H := hP
  have hD : va_D A [(a0, .inr (4, [.ref q_1, .ref q_3, .int 0, .null])), (q_1, .inl (ca_2, 8, .inl (fun _ => 0))), (q_3, .inl (ca_4, 8, .inl (fun _ => 0))), (q_5, .inr (5, [.int 0, .int 0, .int 0, .int 0]))] := hD
  refine W.widen (k := 3) (n := 20) (by omega) (by omega) ?_
  refine lv_dup hx hb dX2_init_24 rfl ?_
  refine lv_iconst (v := 0) hx hb dX2_init_25 (by decide) ?_
  refine lv_iconst (v := 0) hx hb dX2_init_26 (by decide) ?_
  refine lv_iconst (v := 0) hx hb dX2_init_27 (by decide) ?_
  refine lv_iconst (v := 0) hx hb dX2_init_28 (by decide) ?_
  have hPc := hP.sub (ws' := [(q_5, .inr (5, [.int 0, .int 0, .int 0, .int 0]))]) [3] rfl
  have hDc := hD.sub (ws' := [(q_5, .inr (5, [.int 0, .int 0, .int 0, .int 0]))]) [3] (by decide) rfl
  have hKc := hK.sub (tys' := []) [] rfl
  have hFc := va_free (wc := [(q_5, .inr (5, [.int 0, .int 0, .int 0, .int 0]))]) hD hS hA [3] rfl
  refine va_callv (va_runI (As := [.int 0, .int 0, .int 0, .int 0]) (rest := [.ref q_5, .ref a0]) ⟨hx, hb, hml, hown, hts⟩ (c_h3_X3 l dC dI q_5 0 0 0 0 H.size) (cwI 4 hts ggX2_init_X3_init rfl rfl rfl (hts (.initialized RX3) kc_goingsInit_10) (hts (.methodLink RX2 20 yX3_init) kc_goingsInit_11) (hts (.instanceMethod yX3_init) kc_goingsInit_12) rfl (by decide +kernel) ⟨Nat.le_of_ble_eq_true rfl, Nat.le_of_ble_eq_true rfl⟩) ⟨fun a U g mk q => by obtain ⟨q0, q1, qP, qK, qD⟩ := q; exact ⟨q0, q1, qP, va_K.moved (u := U) (U := U.calling g mk a) (Vm.Alike.refl U.vm) qK, qD⟩, fun U hU hW => ⟨rfl, by rw [hU], by rw [hU]; exact hPc, va_K.moved hW.alike hKc, hDc.weaken (fun _ _ _ _ => trivial)⟩⟩ rfl rfl hl.1 rfl (lv_room (Nat.le_of_ble_eq_true rfl)) dX2_init_29 ⟨Nat.le_of_ble_eq_true rfl, Nat.le_of_ble_eq_true rfl⟩) hS (fun q _ h => hFc q h) hFc (fun u tC H1 locs htC hvm hw_7 hB hz1 hk1 hS => ?_)
  obtain ⟨⟩ := u
  try dsimp only at hw_7 hB
  obtain ⟨hP1, hK1, hD1⟩ := hB
  rw [htC] at hP1
  have hK1 := va_K.moved hvm.symm hK1
  obtain ⟨hP, hD⟩ := va_join (wr := [(a0, .inr (4, [.ref q_1, .ref q_3, .int 0, .null])), (q_1, .inl (ca_2, 8, .inl (fun _ => 0))), (q_3, .inl (ca_4, 8, .inl (fun _ => 0)))]) (w1 := [(q_5, .inr (5, [.int 0, .int 0, .int 0, .int 0]))]) hP hD [3] [0, 1, 2] rfl rfl (by decide) (by decide) hk1 hFc hP1 hD1
  have hK := (hK.sub (tys' := [(ca_2, .int), (ca_4, .int)]) [0, 1] rfl).app hK1
  generalize H1 = H at hP hS ⊢
  have hP : va_P (dC, dI) vwCl [(a0, .inr (4, [.ref q_1, .ref q_3, .int 0, .null])), (q_1, .inl (ca_2, 8, .inl (fun _ => 0))), (q_3, .inl (ca_4, 8, .inl (fun _ => 0))), (q_5, .inr (5, [.int 0, .int 0, .int 0, .int 0]))] H := hP
  have hD : va_D A [(a0, .inr (4, [.ref q_1, .ref q_3, .int 0, .null])), (q_1, .inl (ca_2, 8, .inl (fun _ => 0))), (q_3, .inl (ca_4, 8, .inl (fun _ => 0))), (q_5, .inr (5, [.int 0, .int 0, .int 0, .int 0]))] := hD
  have hK : va_K (dC, dI) vwCl [(ca_2, .int), (ca_4, .int)] s := hK
  refine va_putF (D := (dC, dI)) (ci := 4) (v := .ref q_5) (ty := .object "MistHeaps$Heap") (C := RX2) (T := TX2) (N := 4) hx hb hts kc_goingsInit_4 tyX2 tyX2_ok nmX2 hown hK hP hD hS 0 rfl rfl 3 (by decide) (hts (.fieldLink RX2 23 "MistHeaps$Goings" "spare" "LMistHeaps$Heap;") kc_goingsInit_13) (fun _ h9 => h9) rfl hin rfl (by decide +kernel) rfl rfl (Nat.le_of_ble_eq_true rfl) dX2_init_32 (fun H locs hP hD hS => ?_)
  have hP : va_P (dC, dI) vwCl [(a0, .inr (4, [.ref q_1, .ref q_3, .int 0, .ref q_5])), (q_1, .inl (ca_2, 8, .inl (fun _ => 0))), (q_3, .inl (ca_4, 8, .inl (fun _ => 0))), (q_5, .inr (5, [.int 0, .int 0, .int 0, .int 0]))] H := hP
  have hD : va_D A [(a0, .inr (4, [.ref q_1, .ref q_3, .int 0, .ref q_5])), (q_1, .inl (ca_2, 8, .inl (fun _ => 0))), (q_3, .inl (ca_4, 8, .inl (fun _ => 0))), (q_5, .inr (5, [.int 0, .int 0, .int 0, .int 0]))] := hD
  rw [hQ]
  have hP9 := hP.sub (ws' := [(a0, .inr (4, [.ref q_1, .ref q_3, .int 0, .ref q_5]))]) [0] rfl
  have hD9 := hD.sub (ws' := [(a0, .inr (4, [.ref q_1, .ref q_3, .int 0, .ref q_5]))]) [0] (by decide) rfl
  have hK9 := hK.sub (tys' := []) [] rfl
  exact W.vret hx hb hr (fun tQ htQ hWQ => ⟨⟨(), rfl, trivial, q_1, q_3, q_5, by rw [htQ]; exact hP9, va_K.moved hWQ.alike hK9, hD9⟩, hS.F htQ⟩) hS.2.2 dX2_init_35
