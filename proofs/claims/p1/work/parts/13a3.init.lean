theorem dX5_init_0 : decode cX5_init 0 = .ok (.aload_n 0, 1) := by decide +kernel
theorem dX5_init_1 : decode cX5_init 1 = .ok (.invokespecial 3, 3) := by decide +kernel
theorem dX5_init_4 : decode cX5_init 4 = .ok (.aload_n 0, 1) := by decide +kernel
theorem dX5_init_5 : decode cX5_init 5 = .ok (.iconst 3, 1) := by decide +kernel
theorem dX5_init_6 : decode cX5_init 6 = .ok (.putfield 11, 3) := by decide +kernel
theorem dX5_init_9 : decode cX5_init 9 = .ok (.aload_n 0, 1) := by decide +kernel
theorem dX5_init_10 : decode cX5_init 10 = .ok (.bipush 10, 2) := by decide +kernel
theorem dX5_init_12 : decode cX5_init 12 = .ok (.newarray .int, 2) := by decide +kernel
theorem dX5_init_14 : decode cX5_init 14 = .ok (.putfield 15, 3) := by decide +kernel
theorem dX5_init_17 : decode cX5_init 17 = .ok (.aload_n 0, 1) := by decide +kernel
theorem dX5_init_18 : decode cX5_init 18 = .ok (.bipush 10, 2) := by decide +kernel
theorem dX5_init_20 : decode cX5_init 20 = .ok (.newarray .int, 2) := by decide +kernel
theorem dX5_init_22 : decode cX5_init 22 = .ok (.putfield 19, 3) := by decide +kernel
theorem dX5_init_25 : decode cX5_init 25 = .ok (.aload_n 0, 1) := by decide +kernel
theorem dX5_init_26 : decode cX5_init 26 = .ok (.bipush 10, 2) := by decide +kernel
theorem dX5_init_28 : decode cX5_init 28 = .ok (.newarray .int, 2) := by decide +kernel
theorem dX5_init_30 : decode cX5_init 30 = .ok (.putfield 22, 3) := by decide +kernel
theorem dX5_init_33 : decode cX5_init 33 = .ok (.aload_n 0, 1) := by decide +kernel
theorem dX5_init_34 : decode cX5_init 34 = .ok (.bipush 100, 2) := by decide +kernel
theorem dX5_init_36 : decode cX5_init 36 = .ok (.newarray .int, 2) := by decide +kernel
theorem dX5_init_38 : decode cX5_init 38 = .ok (.putfield 25, 3) := by decide +kernel
theorem dX5_init_41 : decode cX5_init 41 = .ok (.return_, 1) := by decide +kernel
theorem kc_hillInit_0 : (.methodLink RX5 3 objectInit : Cond) ∈ wsX5_init := by decide +kernel
theorem kc_hillInit_1 : (.instanceMethod objectInit : Cond) ∈ wsX5_init := by decide +kernel
theorem kc_hillInit_2 : (.code objectInit ⟨#[0xb1]⟩ 1 none : Cond) ∈ wsX5_init := by decide +kernel
theorem kc_hillInit_3 : ∀ w ∈ wsX50, w ∈ wsX5_init := by decide +kernel
theorem kc_hillInit_4 : (.fieldLink RX5 11 "MistHeaps$Hill" "sight" "I" : Cond) ∈ wsX5_init := by decide +kernel
theorem kc_hillInit_5 : (.arrayClass .int : Cond) ∈ wsX5_init := by decide +kernel
theorem kc_hillInit_6 : (.fieldLink RX5 15 "MistHeaps$Hill" "words" "[I" : Cond) ∈ wsX5_init := by decide +kernel
theorem kc_hillInit_7 : (.fieldLink RX5 19 "MistHeaps$Hill" "amounts" "[I" : Cond) ∈ wsX5_init := by decide +kernel
theorem kc_hillInit_8 : (.fieldLink RX5 22 "MistHeaps$Hill" "ends" "[I" : Cond) ∈ wsX5_init := by decide +kernel
theorem kc_hillInit_9 : (.fieldLink RX5 25 "MistHeaps$Hill" "codes" "[I" : Cond) ∈ wsX5_init := by decide +kernel
set_option maxHeartbeats 4000000 in
set_option maxRecDepth 100000 in
theorem c_hillInit (l : Launch) (dC : Nat → ClassId) (dI : Nat → Nat → Nat) (a0 : Nat) (sz : Nat) : Met l yX5_init wsX5_init ({ frames := 1, cells := 4, slots := 130, locals := 12 } : Room) (va_Pc [.ref a0] (fun U => U.heap.size = sz ∧ va_P (dC, dI) vwCl [(a0, .inr (7, [.int 0, .int 0, .null, .null, .null, .null, .int 0, .null, .int 0, .int 0, .int 0]))] U.heap ∧ va_K (dC, dI) vwCl [] U ∧ va_D (fun _ => True) [(a0, .inr (7, [.int 0, .int 0, .null, .null, .null, .null, .int 0, .null, .int 0, .int 0, .int 0]))])) (va_Qv (fun (u : Unit) => match u with | () => True) (fun (u : Unit) (t : State) => match u with | () => ∃ bW : Nat, ∃ bA : Nat, ∃ bE : Nat, ∃ bC : Nat, va_P (dC, dI) vwCl [(a0, .inr (7, [.int 3, .int 0, .ref bW, .ref bA, .ref bE, .ref bC, .int 0, .null, .int 0, .int 0, .int 0]))] t.heap ∧ va_K (dC, dI) vwCl [] t ∧ va_D (va_A [(a0, .inr (7, [.int 0, .int 0, .null, .null, .null, .null, .int 0, .null, .int 0, .int 0, .int 0]))] sz) [(a0, .inr (7, [.int 3, .int 0, .ref bW, .ref bA, .ref bE, .ref bC, .int 0, .null, .int 0, .int 0, .int 0]))]) (va_A [(a0, .inr (7, [.int 0, .int 0, .null, .null, .null, .null, .int 0, .null, .int 0, .int 0, .int 0]))] sz)) 4 130 (va_A [(a0, .inr (7, [.int 0, .int 0, .null, .null, .null, .null, .int 0, .null, .int 0, .int 0, .int 0]))] sz) := by
  refine met_ofQ (cc := cX5_init) (maxL := 1) (ret := none) (by decide) rfl ?_
  intro p e s m args below meth c s₁ Q B hml hv hQ
  obtain ⟨rfl, hsz, hP, hK, hD0⟩ := hv
  have hx := B.exec
  have hb := B.bytes
  have hr := B.returns
  have hts := atoms_spec (ws := wsX5_init) B.pre
  have hown : s.vm.findClass RX5 = some m.cls := findClass_of_methodNamed B.named
  have hlocks := B.notSynchronized
  have hin : meth.name = "<init>" := (name_of_methodNamed B.named B.method).1
  subst hsz
  have hD := hD0.self (sz := s.heap.size)
  generalize hAe : va_A [(a0, .inr (7, [.int 0, .int 0, .null, .null, .null, .null, .int 0, .null, .int 0, .int 0, .int 0]))] s.heap.size = A at hD hQ ⊢
  have hA : ∀ q : Nat, s.heap.size ≤ q → A q := fun q h => by rw [← hAe]; exact Or.inr h
  have hS : va_S A s.heap s.heap [] := va_S.rf
  have hl := lv_entry [.ref a0] (n := 1) (Nat.le_of_ble_eq_true rfl)
  rw [lg_entry_eq]
  generalize (lg_sl [.ref a0] ++ List.replicate (1 - (lg_sl [.ref a0]).length) Slot.unset).toArray = ls at hl ⊢
  generalize hag : ([.ref a0] : List Value).toArray = args at hts hQ ⊢
  have hl : lv_has ls 1 [(0, .ref a0)] := hl
  obtain ⟨H, hH⟩ : ∃ H : Heap, H = s.heap := ⟨_, rfl⟩
  rw [← hH] at hP
  rw [← hH]
  have hS : va_S A s.heap H [] := by rw [hH]; exact hS
  obtain ⟨locs, hlo⟩ : ∃ L : List Loc, L = [] := ⟨_, rfl⟩
  rw [← hlo] at hS
  rw [← hlo]
  clear hH hlo
  refine lv_aload_n hx hb dX5_init_0 rfl (lv_at hl 0 rfl) ?_
  refine W.objInit hx hb hown (hts (.methodLink RX5 3 objectInit) kc_hillInit_0) (hts (.instanceMethod objectInit) kc_hillInit_1) (hts (.code objectInit ⟨#[0xb1]⟩ 1 none) kc_hillInit_2) rfl (by rw [hml]; exact hl.1) rfl dX5_init_1 (Nat.le_of_ble_eq_true rfl) (Nat.le_of_ble_eq_true rfl) ?_
  refine W.eq (g2 := F0 m 4 ls []) rfl ?_
  refine lv_aload_n hx hb dX5_init_4 rfl (lv_at hl 0 rfl) ?_
  refine lv_iconst (v := 3) hx hb dX5_init_5 (by decide) ?_
  refine va_put (D := (dC, dI)) (ci := 7) (v := .int 3) (ty := .int) (C := RX5) (T := TX5) (N := 11) hx hb hts kc_hillInit_3 tyX5 tyX5_ok nmX5 hown hK hP hD hS 0 rfl rfl 0 (by decide) (hts (.fieldLink RX5 11 "MistHeaps$Hill" "sight" "I") kc_hillInit_4) (fun _ h9 => h9) rfl (by decide +kernel) rfl rfl (Nat.le_of_ble_eq_true rfl) dX5_init_6 (fun H locs hP hD hS => ?_)
  have hP : va_P (dC, dI) vwCl [(a0, .inr (7, [.int 3, .int 0, .null, .null, .null, .null, .int 0, .null, .int 0, .int 0, .int 0]))] H := hP
  have hD : va_D A [(a0, .inr (7, [.int 3, .int 0, .null, .null, .null, .null, .int 0, .null, .int 0, .int 0, .int 0]))] := hD
  refine lv_aload_n hx hb dX5_init_9 rfl (lv_at hl 0 rfl) ?_
  refine lv_bipush (v := 10) hx hb dX5_init_10 (by decide) ?_
  refine va_newa (atype := .int) (ty := .int) (N' := 10) (a0 := (10, .inl (fun _ => 0))) hx hb (hts (.arrayClass .int) kc_hillInit_5) rfl hK hP hD hS hA (fun _ => rfl) (by decide) (by decide) (by decide) (Nat.le_of_ble_eq_true rfl) (Nat.le_of_ble_eq_true rfl) dX5_init_12 (fun q_1 ca_2 H hK hP hD hS => ?_)
  have hP : va_P (dC, dI) vwCl [(a0, .inr (7, [.int 3, .int 0, .null, .null, .null, .null, .int 0, .null, .int 0, .int 0, .int 0])), (q_1, .inl (ca_2, 10, .inl (fun _ => 0)))] H := hP
  have hD : va_D A [(a0, .inr (7, [.int 3, .int 0, .null, .null, .null, .null, .int 0, .null, .int 0, .int 0, .int 0])), (q_1, .inl (ca_2, 10, .inl (fun _ => 0)))] := hD
  have hK : va_K (dC, dI) vwCl [(ca_2, .int)] s := hK
  refine W.widen (k := 1) (n := 10) (by omega) (by omega) ?_
  refine va_putF (D := (dC, dI)) (ci := 7) (v := .ref q_1) (ty := .array .int) (C := RX5) (T := TX5) (N := 11) hx hb hts kc_hillInit_3 tyX5 tyX5_ok nmX5 hown hK hP hD hS 0 rfl rfl 2 (by decide) (hts (.fieldLink RX5 15 "MistHeaps$Hill" "words" "[I") kc_hillInit_6) (fun _ h9 => h9) rfl hin rfl (by decide +kernel) rfl rfl (Nat.le_of_ble_eq_true rfl) dX5_init_14 (fun H locs hP hD hS => ?_)
  have hP : va_P (dC, dI) vwCl [(a0, .inr (7, [.int 3, .int 0, .ref q_1, .null, .null, .null, .int 0, .null, .int 0, .int 0, .int 0])), (q_1, .inl (ca_2, 10, .inl (fun _ => 0)))] H := hP
  have hD : va_D A [(a0, .inr (7, [.int 3, .int 0, .ref q_1, .null, .null, .null, .int 0, .null, .int 0, .int 0, .int 0])), (q_1, .inl (ca_2, 10, .inl (fun _ => 0)))] := hD
  refine lv_aload_n hx hb dX5_init_17 rfl (lv_at hl 0 rfl) ?_
  refine lv_bipush (v := 10) hx hb dX5_init_18 (by decide) ?_
  refine va_newa (atype := .int) (ty := .int) (N' := 10) (a0 := (10, .inl (fun _ => 0))) hx hb (hts (.arrayClass .int) kc_hillInit_5) rfl hK hP hD hS hA (fun _ => rfl) (by decide) (by decide) (by decide) (Nat.le_of_ble_eq_true rfl) (Nat.le_of_ble_eq_true rfl) dX5_init_20 (fun q_3 ca_4 H hK hP hD hS => ?_)
  have hP : va_P (dC, dI) vwCl [(a0, .inr (7, [.int 3, .int 0, .ref q_1, .null, .null, .null, .int 0, .null, .int 0, .int 0, .int 0])), (q_1, .inl (ca_2, 10, .inl (fun _ => 0))), (q_3, .inl (ca_4, 10, .inl (fun _ => 0)))] H := hP
  have hD : va_D A [(a0, .inr (7, [.int 3, .int 0, .ref q_1, .null, .null, .null, .int 0, .null, .int 0, .int 0, .int 0])), (q_1, .inl (ca_2, 10, .inl (fun _ => 0))), (q_3, .inl (ca_4, 10, .inl (fun _ => 0)))] := hD
  have hK : va_K (dC, dI) vwCl [(ca_2, .int), (ca_4, .int)] s := hK
  refine W.widen (k := 2) (n := 20) (by omega) (by omega) ?_
  refine va_putF (D := (dC, dI)) (ci := 7) (v := .ref q_3) (ty := .array .int) (C := RX5) (T := TX5) (N := 11) hx hb hts kc_hillInit_3 tyX5 tyX5_ok nmX5 hown hK hP hD hS 0 rfl rfl 3 (by decide) (hts (.fieldLink RX5 19 "MistHeaps$Hill" "amounts" "[I") kc_hillInit_7) (fun _ h9 => h9) rfl hin rfl (by decide +kernel) rfl rfl (Nat.le_of_ble_eq_true rfl) dX5_init_22 (fun H locs hP hD hS => ?_)
  have hP : va_P (dC, dI) vwCl [(a0, .inr (7, [.int 3, .int 0, .ref q_1, .ref q_3, .null, .null, .int 0, .null, .int 0, .int 0, .int 0])), (q_1, .inl (ca_2, 10, .inl (fun _ => 0))), (q_3, .inl (ca_4, 10, .inl (fun _ => 0)))] H := hP
  have hD : va_D A [(a0, .inr (7, [.int 3, .int 0, .ref q_1, .ref q_3, .null, .null, .int 0, .null, .int 0, .int 0, .int 0])), (q_1, .inl (ca_2, 10, .inl (fun _ => 0))), (q_3, .inl (ca_4, 10, .inl (fun _ => 0)))] := hD
  refine lv_aload_n hx hb dX5_init_25 rfl (lv_at hl 0 rfl) ?_
  refine lv_bipush (v := 10) hx hb dX5_init_26 (by decide) ?_
  refine va_newa (atype := .int) (ty := .int) (N' := 10) (a0 := (10, .inl (fun _ => 0))) hx hb (hts (.arrayClass .int) kc_hillInit_5) rfl hK hP hD hS hA (fun _ => rfl) (by decide) (by decide) (by decide) (Nat.le_of_ble_eq_true rfl) (Nat.le_of_ble_eq_true rfl) dX5_init_28 (fun q_5 ca_6 H hK hP hD hS => ?_)
  have hP : va_P (dC, dI) vwCl [(a0, .inr (7, [.int 3, .int 0, .ref q_1, .ref q_3, .null, .null, .int 0, .null, .int 0, .int 0, .int 0])), (q_1, .inl (ca_2, 10, .inl (fun _ => 0))), (q_3, .inl (ca_4, 10, .inl (fun _ => 0))), (q_5, .inl (ca_6, 10, .inl (fun _ => 0)))] H := hP
  have hD : va_D A [(a0, .inr (7, [.int 3, .int 0, .ref q_1, .ref q_3, .null, .null, .int 0, .null, .int 0, .int 0, .int 0])), (q_1, .inl (ca_2, 10, .inl (fun _ => 0))), (q_3, .inl (ca_4, 10, .inl (fun _ => 0))), (q_5, .inl (ca_6, 10, .inl (fun _ => 0)))] := hD
  have hK : va_K (dC, dI) vwCl [(ca_2, .int), (ca_4, .int), (ca_6, .int)] s := hK
  refine W.widen (k := 3) (n := 30) (by omega) (by omega) ?_
  refine va_putF (D := (dC, dI)) (ci := 7) (v := .ref q_5) (ty := .array .int) (C := RX5) (T := TX5) (N := 11) hx hb hts kc_hillInit_3 tyX5 tyX5_ok nmX5 hown hK hP hD hS 0 rfl rfl 4 (by decide) (hts (.fieldLink RX5 22 "MistHeaps$Hill" "ends" "[I") kc_hillInit_8) (fun _ h9 => h9) rfl hin rfl (by decide +kernel) rfl rfl (Nat.le_of_ble_eq_true rfl) dX5_init_30 (fun H locs hP hD hS => ?_)
  have hP : va_P (dC, dI) vwCl [(a0, .inr (7, [.int 3, .int 0, .ref q_1, .ref q_3, .ref q_5, .null, .int 0, .null, .int 0, .int 0, .int 0])), (q_1, .inl (ca_2, 10, .inl (fun _ => 0))), (q_3, .inl (ca_4, 10, .inl (fun _ => 0))), (q_5, .inl (ca_6, 10, .inl (fun _ => 0)))] H := hP
  have hD : va_D A [(a0, .inr (7, [.int 3, .int 0, .ref q_1, .ref q_3, .ref q_5, .null, .int 0, .null, .int 0, .int 0, .int 0])), (q_1, .inl (ca_2, 10, .inl (fun _ => 0))), (q_3, .inl (ca_4, 10, .inl (fun _ => 0))), (q_5, .inl (ca_6, 10, .inl (fun _ => 0)))] := hD
  refine lv_aload_n hx hb dX5_init_33 rfl (lv_at hl 0 rfl) ?_
  refine lv_bipush (v := 100) hx hb dX5_init_34 (by decide) ?_
  refine va_newa (atype := .int) (ty := .int) (N' := 100) (a0 := (100, .inl (fun _ => 0))) hx hb (hts (.arrayClass .int) kc_hillInit_5) rfl hK hP hD hS hA (fun _ => rfl) (by decide) (by decide) (by decide) (Nat.le_of_ble_eq_true rfl) (Nat.le_of_ble_eq_true rfl) dX5_init_36 (fun q_7 ca_8 H hK hP hD hS => ?_)
  have hP : va_P (dC, dI) vwCl [(a0, .inr (7, [.int 3, .int 0, .ref q_1, .ref q_3, .ref q_5, .null, .int 0, .null, .int 0, .int 0, .int 0])), (q_1, .inl (ca_2, 10, .inl (fun _ => 0))), (q_3, .inl (ca_4, 10, .inl (fun _ => 0))), (q_5, .inl (ca_6, 10, .inl (fun _ => 0))), (q_7, .inl (ca_8, 100, .inl (fun _ => 0)))] H := hP
  have hD : va_D A [(a0, .inr (7, [.int 3, .int 0, .ref q_1, .ref q_3, .ref q_5, .null, .int 0, .null, .int 0, .int 0, .int 0])), (q_1, .inl (ca_2, 10, .inl (fun _ => 0))), (q_3, .inl (ca_4, 10, .inl (fun _ => 0))), (q_5, .inl (ca_6, 10, .inl (fun _ => 0))), (q_7, .inl (ca_8, 100, .inl (fun _ => 0)))] := hD
  have hK : va_K (dC, dI) vwCl [(ca_2, .int), (ca_4, .int), (ca_6, .int), (ca_8, .int)] s := hK
  refine W.widen (k := 4) (n := 130) (by omega) (by omega) ?_
  refine va_putF (D := (dC, dI)) (ci := 7) (v := .ref q_7) (ty := .array .int) (C := RX5) (T := TX5) (N := 11) hx hb hts kc_hillInit_3 tyX5 tyX5_ok nmX5 hown hK hP hD hS 0 rfl rfl 5 (by decide) (hts (.fieldLink RX5 25 "MistHeaps$Hill" "codes" "[I") kc_hillInit_9) (fun _ h9 => h9) rfl hin rfl (by decide +kernel) rfl rfl (Nat.le_of_ble_eq_true rfl) dX5_init_38 (fun H locs hP hD hS => ?_)
  have hP : va_P (dC, dI) vwCl [(a0, .inr (7, [.int 3, .int 0, .ref q_1, .ref q_3, .ref q_5, .ref q_7, .int 0, .null, .int 0, .int 0, .int 0])), (q_1, .inl (ca_2, 10, .inl (fun _ => 0))), (q_3, .inl (ca_4, 10, .inl (fun _ => 0))), (q_5, .inl (ca_6, 10, .inl (fun _ => 0))), (q_7, .inl (ca_8, 100, .inl (fun _ => 0)))] H := hP
  have hD : va_D A [(a0, .inr (7, [.int 3, .int 0, .ref q_1, .ref q_3, .ref q_5, .ref q_7, .int 0, .null, .int 0, .int 0, .int 0])), (q_1, .inl (ca_2, 10, .inl (fun _ => 0))), (q_3, .inl (ca_4, 10, .inl (fun _ => 0))), (q_5, .inl (ca_6, 10, .inl (fun _ => 0))), (q_7, .inl (ca_8, 100, .inl (fun _ => 0)))] := hD
  rw [hQ]
  have hP9 := hP.sub (ws' := [(a0, .inr (7, [.int 3, .int 0, .ref q_1, .ref q_3, .ref q_5, .ref q_7, .int 0, .null, .int 0, .int 0, .int 0]))]) [0] rfl
  have hD9 := hD.sub (ws' := [(a0, .inr (7, [.int 3, .int 0, .ref q_1, .ref q_3, .ref q_5, .ref q_7, .int 0, .null, .int 0, .int 0, .int 0]))]) [0] (by decide) rfl
  have hK9 := hK.sub (tys' := []) [] rfl
  exact W.vret hx hb hr (fun tQ htQ hWQ => ⟨⟨(), rfl, trivial, q_1, q_3, q_5, q_7, by rw [htQ]; exact hP9, va_K.moved hWQ.alike hK9, hD9⟩, hS.F htQ⟩) hS.2.2 dX5_init_41
