theorem dX0_init_0 : decode cX0_init 0 = .ok (.aload_n 0, 1) := by decide +kernel
theorem dX0_init_1 : decode cX0_init 1 = .ok (.invokespecial 3, 3) := by decide +kernel
theorem dX0_init_4 : decode cX0_init 4 = .ok (.aload_n 0, 1) := by decide +kernel
theorem dX0_init_5 : decode cX0_init 5 = .ok (.bipush 36, 2) := by decide +kernel
theorem dX0_init_7 : decode cX0_init 7 = .ok (.newarray .int, 2) := by decide +kernel
theorem dX0_init_9 : decode cX0_init 9 = .ok (.putfield 9, 3) := by decide +kernel
theorem dX0_init_12 : decode cX0_init 12 = .ok (.aload_n 0, 1) := by decide +kernel
theorem dX0_init_13 : decode cX0_init 13 = .ok (.iconst 3, 1) := by decide +kernel
theorem dX0_init_14 : decode cX0_init 14 = .ok (.bipush 36, 2) := by decide +kernel
theorem dX0_init_16 : decode cX0_init 16 = .ok (.multianewarray 15 2, 4) := by decide +kernel
theorem dX0_init_20 : decode cX0_init 20 = .ok (.putfield 17, 3) := by decide +kernel
theorem dX0_init_23 : decode cX0_init 23 = .ok (.aload_n 0, 1) := by decide +kernel
theorem dX0_init_24 : decode cX0_init 24 = .ok (.bipush 8, 2) := by decide +kernel
theorem dX0_init_26 : decode cX0_init 26 = .ok (.bipush 36, 2) := by decide +kernel
theorem dX0_init_28 : decode cX0_init 28 = .ok (.multianewarray 20 2, 4) := by decide +kernel
theorem dX0_init_32 : decode cX0_init 32 = .ok (.putfield 22, 3) := by decide +kernel
theorem dX0_init_35 : decode cX0_init 35 = .ok (.return_, 1) := by decide +kernel
theorem kc_chancesInit_0 : (.methodLink RX0 3 objectInit : Cond) ∈ wsX0_init := by decide +kernel
theorem kc_chancesInit_1 : (.instanceMethod objectInit : Cond) ∈ wsX0_init := by decide +kernel
theorem kc_chancesInit_2 : (.code objectInit ⟨#[0xb1]⟩ 1 none : Cond) ∈ wsX0_init := by decide +kernel
theorem kc_chancesInit_3 : (.arrayClass .int : Cond) ∈ wsX0_init := by decide +kernel
theorem kc_chancesInit_4 : ∀ w ∈ wsX00, w ∈ wsX0_init := by decide +kernel
theorem kc_chancesInit_5 : (.fieldLink RX0 9 "MistHeaps$Chances" "drifts" "[I" : Cond) ∈ wsX0_init := by decide +kernel
theorem kc_chancesInit_6 : (.arrayClass .long : Cond) ∈ wsX0_init := by decide +kernel
theorem kc_chancesInit_7 : (.classLink RX0 15 "[[J" : Cond) ∈ wsX0_init := by decide +kernel
theorem kc_chancesInit_8 : (.fieldLink RX0 17 "MistHeaps$Chances" "times" "[[J" : Cond) ∈ wsX0_init := by decide +kernel
theorem kc_chancesInit_9 : (.classLink RX0 20 "[[I" : Cond) ∈ wsX0_init := by decide +kernel
theorem kc_chancesInit_10 : (.fieldLink RX0 22 "MistHeaps$Chances" "hits" "[[I" : Cond) ∈ wsX0_init := by decide +kernel
set_option maxHeartbeats 4000000 in
set_option maxRecDepth 100000 in
theorem c_chancesInit (l : Launch) (dC : Nat → ClassId) (dI : Nat → Nat → Nat) (bS : Nat) (a0 : Nat) (sz : Nat) : Met l yX0_init wsX0_init ({ frames := 1, cells := 14, slots := 443, locals := 12 } : Room) (va_Pc [.ref a0] (fun U => U.heap.size = sz ∧ va_P (dC, dI) vwCl [(a0, .inr (2, [.long 0, .int 0, .null, .null, .null]))] U.heap ∧ va_K (dC, dI) vwCl [] U ∧ va_D (fun _ => True) [(a0, .inr (2, [.long 0, .int 0, .null, .null, .null]))] ∧ Gc bS (va_A [(a0, .inr (2, [.long 0, .int 0, .null, .null, .null]))] sz) U)) (va_Qv (fun (u : Unit) => match u with | () => True) (fun (u : Unit) (t : State) => match u with | () => ∃ dr : Nat, ∃ tO : Nat, ∃ hO : Nat, ∃ rt : Nat → Nat, ∃ rh : Nat → Nat, ∃ cD : ClassId, ∃ cTO : ClassId, ∃ cHO : ClassId, ∃ cT : ClassId, ∃ cH : ClassId, va_P (dC, dI) vwCl [(a0, .inr (2, [.long 0, .int 0, .ref dr, .ref tO, .ref hO])), (dr, .inl (cD, 36, .inl (fun _ => 0))), (tO, .inl (cTO, 3, .inr (.inr (.inr (.inr (fun i => if i < 3 then some (rt i) else none)))))), ((rt 0), .inl (cT, 36, .inr (.inl (fun _ => 0)))), ((rt 1), .inl (cT, 36, .inr (.inl (fun _ => 0)))), ((rt 2), .inl (cT, 36, .inr (.inl (fun _ => 0)))), (hO, .inl (cHO, 8, .inr (.inr (.inr (.inr (fun i => if i < 8 then some (rh i) else none)))))), ((rh 0), .inl (cH, 36, .inl (fun _ => 0))), ((rh 1), .inl (cH, 36, .inl (fun _ => 0))), ((rh 2), .inl (cH, 36, .inl (fun _ => 0))), ((rh 3), .inl (cH, 36, .inl (fun _ => 0))), ((rh 4), .inl (cH, 36, .inl (fun _ => 0))), ((rh 5), .inl (cH, 36, .inl (fun _ => 0))), ((rh 6), .inl (cH, 36, .inl (fun _ => 0))), ((rh 7), .inl (cH, 36, .inl (fun _ => 0)))] t.heap ∧ va_K (dC, dI) vwCl [(cD, .int), (cTO, .array .long), (cT, .long), (cT, .long), (cT, .long), (cHO, .array .int), (cH, .int), (cH, .int), (cH, .int), (cH, .int), (cH, .int), (cH, .int), (cH, .int), (cH, .int)] t ∧ va_D (va_A [(a0, .inr (2, [.long 0, .int 0, .null, .null, .null]))] sz) [(a0, .inr (2, [.long 0, .int 0, .ref dr, .ref tO, .ref hO])), (dr, .inl (cD, 36, .inl (fun _ => 0))), (tO, .inl (cTO, 3, .inr (.inr (.inr (.inr (fun i => if i < 3 then some (rt i) else none)))))), ((rt 0), .inl (cT, 36, .inr (.inl (fun _ => 0)))), ((rt 1), .inl (cT, 36, .inr (.inl (fun _ => 0)))), ((rt 2), .inl (cT, 36, .inr (.inl (fun _ => 0)))), (hO, .inl (cHO, 8, .inr (.inr (.inr (.inr (fun i => if i < 8 then some (rh i) else none)))))), ((rh 0), .inl (cH, 36, .inl (fun _ => 0))), ((rh 1), .inl (cH, 36, .inl (fun _ => 0))), ((rh 2), .inl (cH, 36, .inl (fun _ => 0))), ((rh 3), .inl (cH, 36, .inl (fun _ => 0))), ((rh 4), .inl (cH, 36, .inl (fun _ => 0))), ((rh 5), .inl (cH, 36, .inl (fun _ => 0))), ((rh 6), .inl (cH, 36, .inl (fun _ => 0))), ((rh 7), .inl (cH, 36, .inl (fun _ => 0)))]) (va_A [(a0, .inr (2, [.long 0, .int 0, .null, .null, .null]))] sz)) 14 443 (va_A [(a0, .inr (2, [.long 0, .int 0, .null, .null, .null]))] sz) := by
  refine met_ofQ (cc := cX0_init) (maxL := 1) (ret := none) (by decide) rfl ?_
  intro p e s m args below meth c s₁ Q B hml hv hQ
  obtain ⟨rfl, hsz, hP, hK, hD0, hC⟩ := hv
  have hx := B.exec
  have hb := B.bytes
  have hr := B.returns
  have hts := atoms_spec (ws := wsX0_init) B.pre
  have hown : s.vm.findClass RX0 = some m.cls := findClass_of_methodNamed B.named
  have hlocks := B.notSynchronized
  have hin : meth.name = "<init>" := (name_of_methodNamed B.named B.method).1
  subst hsz
  have hD := hD0.self (sz := s.heap.size)
  generalize hAe : va_A [(a0, .inr (2, [.long 0, .int 0, .null, .null, .null]))] s.heap.size = A at hD hQ hC ⊢
  have hA : ∀ q : Nat, s.heap.size ≤ q → A q := fun q h => by rw [← hAe]; exact Or.inr h
  have hS : va_S A s.heap s.heap [] := va_S.rf
  have hl := lv_entry [.ref a0] (n := 1) (Nat.le_of_ble_eq_true rfl)
  rw [lg_entry_eq]
  generalize (lg_sl [.ref a0] ++ List.replicate (1 - (lg_sl [.ref a0]).length) Slot.unset).toArray = ls at hl ⊢
  generalize hag : ([.ref a0] : List Value).toArray = args at hts hQ ⊢
  have hl : lv_has ls 1 [(0, .ref a0)] := hl
  obtain ⟨H, hH⟩ : ∃ H : Heap, H = s.heap := ⟨_, rfl⟩
  rw [← hH] at hP
  rw [← hH]
  have hS : va_S A s.heap H [] := by rw [hH]; exact hS
  obtain ⟨locs, hlo⟩ : ∃ L : List Loc, L = [] := ⟨_, rfl⟩
  rw [← hlo] at hS
  rw [← hlo]
  clear hH hlo
  refine lv_aload_n hx hb dX0_init_0 rfl (lv_at hl 0 rfl) ?_
  refine W.objInit hx hb hown (hts (.methodLink RX0 3 objectInit) kc_chancesInit_0) (hts (.instanceMethod objectInit) kc_chancesInit_1) (hts (.code objectInit ⟨#[0xb1]⟩ 1 none) kc_chancesInit_2) rfl (by rw [hml]; exact hl.1) rfl dX0_init_1 (Nat.le_of_ble_eq_true rfl) (Nat.le_of_ble_eq_true rfl) ?_
  refine W.eq (g2 := F0 m 4 ls []) rfl ?_
  refine lv_aload_n hx hb dX0_init_4 rfl (lv_at hl 0 rfl) ?_
  refine lv_bipush (v := 36) hx hb dX0_init_5 (by decide) ?_
  refine va_newa (atype := .int) (ty := .int) (N' := 36) (a0 := (36, .inl (fun _ => 0))) hx hb (hts (.arrayClass .int) kc_chancesInit_3) rfl hK hP hD hS hA (fun _ => rfl) (by decide) (by decide) (by decide) (Nat.le_of_ble_eq_true rfl) (Nat.le_of_ble_eq_true rfl) dX0_init_7 (fun q_1 ca_2 H hK hP hD hS => ?_)
  have hP : va_P (dC, dI) vwCl [(a0, .inr (2, [.long 0, .int 0, .null, .null, .null])), (q_1, .inl (ca_2, 36, .inl (fun _ => 0)))] H := hP
  have hD : va_D A [(a0, .inr (2, [.long 0, .int 0, .null, .null, .null])), (q_1, .inl (ca_2, 36, .inl (fun _ => 0)))] := hD
  have hK : va_K (dC, dI) vwCl [(ca_2, .int)] s := hK
  refine W.widen (k := 1) (n := 36) (by omega) (by omega) ?_
  refine va_putF (D := (dC, dI)) (ci := 2) (v := .ref q_1) (ty := .array .int) (C := RX0) (T := TX0) (N := 5) hx hb hts kc_chancesInit_4 tyX0 tyX0_ok nmX0 hown hK hP hD hS 0 rfl rfl 2 (by decide) (hts (.fieldLink RX0 9 "MistHeaps$Chances" "drifts" "[I") kc_chancesInit_5) (fun _ h9 => h9) rfl hin rfl (by decide +kernel) rfl rfl (Nat.le_of_ble_eq_true rfl) dX0_init_9 (fun H locs hP hD hS => ?_)
  have hP : va_P (dC, dI) vwCl [(a0, .inr (2, [.long 0, .int 0, .ref q_1, .null, .null])), (q_1, .inl (ca_2, 36, .inl (fun _ => 0)))] H := hP
  have hD : va_D A [(a0, .inr (2, [.long 0, .int 0, .ref q_1, .null, .null])), (q_1, .inl (ca_2, 36, .inl (fun _ => 0)))] := hD
  refine lv_aload_n hx hb dX0_init_12 rfl (lv_at hl 0 rfl) ?_
  refine lv_iconst (v := 3) hx hb dX0_init_13 (by decide) ?_
  refine lv_bipush (v := 36) hx hb dX0_init_14 (by decide) ?_
  obtain ⟨cy_6, hcy_6, gcy_6⟩ := arr_known (hts (.arrayClass .long) kc_chancesInit_6)
  refine va_mna (X := [(a0, .inr (2, [.long 0, .int 0, .ref q_1, .null, .null])), (q_1, .inl (ca_2, 36, .inl (fun _ => 0)))]) (L := []) (f := fun _ => .inl (cy_6, (36, .inr (.inl (fun _ => 0))))) (ty := .long) (cy := cy_6) (z := (36, .inr (.inl (fun _ => 0)))) (N' := 3) (K' := 36) hx hb hown (by rw [show "[" ++ (FieldType.array .long).toString = "[[J" from by decide]; exact (hts (.classLink RX0 15 "[[J") kc_chancesInit_7)) hC.2.1 (hts (.arrayClass .long) kc_chancesInit_6) hcy_6 hK hP hD hS hA (by decide) (by decide) (by decide) (by decide) (by decide) (by decide) (by decide) rfl rfl (Nat.le_of_ble_eq_true rfl) (Nat.le_of_ble_eq_true rfl) (fun cq => arrV_new cq 36 (defaultValue .long)) dX0_init_16 (fun q_3 r_4 ca_5 H _ _ hK hP hD hS => ?_)
  rw [mna_rows] at hP hD
  have hP : va_P (dC, dI) vwCl [(a0, .inr (2, [.long 0, .int 0, .ref q_1, .null, .null])), (q_1, .inl (ca_2, 36, .inl (fun _ => 0))), (q_3, .inl (ca_5, 3, .inr (.inr (.inr (.inr (fun i => if i < 3 then some (r_4 i) else none)))))), ((r_4 0), .inl (cy_6, 36, .inr (.inl (fun _ => 0)))), ((r_4 1), .inl (cy_6, 36, .inr (.inl (fun _ => 0)))), ((r_4 2), .inl (cy_6, 36, .inr (.inl (fun _ => 0))))] H := hP
  have hD : va_D A [(a0, .inr (2, [.long 0, .int 0, .ref q_1, .null, .null])), (q_1, .inl (ca_2, 36, .inl (fun _ => 0))), (q_3, .inl (ca_5, 3, .inr (.inr (.inr (.inr (fun i => if i < 3 then some (r_4 i) else none)))))), ((r_4 0), .inl (cy_6, 36, .inr (.inl (fun _ => 0)))), ((r_4 1), .inl (cy_6, 36, .inr (.inl (fun _ => 0)))), ((r_4 2), .inl (cy_6, 36, .inr (.inl (fun _ => 0))))] := hD
  have hK : va_K (dC, dI) vwCl [(ca_2, .int), (ca_5, .array .long), (cy_6, .long), (cy_6, .long), (cy_6, .long)] s := hK.app (K_rep hK gcy_6 hcy_6 3)
  refine W.widen (k := 5) (n := 147) (by omega) (by omega) ?_
  refine va_putF (D := (dC, dI)) (ci := 2) (v := .ref q_3) (ty := .array (.array .long)) (C := RX0) (T := TX0) (N := 5) hx hb hts kc_chancesInit_4 tyX0 tyX0_ok nmX0 hown hK hP hD hS 0 rfl rfl 3 (by decide) (hts (.fieldLink RX0 17 "MistHeaps$Chances" "times" "[[J") kc_chancesInit_8) (fun _ h9 => h9) rfl hin rfl (by decide +kernel) rfl rfl (Nat.le_of_ble_eq_true rfl) dX0_init_20 (fun H locs hP hD hS => ?_)
  have hP : va_P (dC, dI) vwCl [(a0, .inr (2, [.long 0, .int 0, .ref q_1, .ref q_3, .null])), (q_1, .inl (ca_2, 36, .inl (fun _ => 0))), (q_3, .inl (ca_5, 3, .inr (.inr (.inr (.inr (fun i => if i < 3 then some (r_4 i) else none)))))), ((r_4 0), .inl (cy_6, 36, .inr (.inl (fun _ => 0)))), ((r_4 1), .inl (cy_6, 36, .inr (.inl (fun _ => 0)))), ((r_4 2), .inl (cy_6, 36, .inr (.inl (fun _ => 0))))] H := hP
  have hD : va_D A [(a0, .inr (2, [.long 0, .int 0, .ref q_1, .ref q_3, .null])), (q_1, .inl (ca_2, 36, .inl (fun _ => 0))), (q_3, .inl (ca_5, 3, .inr (.inr (.inr (.inr (fun i => if i < 3 then some (r_4 i) else none)))))), ((r_4 0), .inl (cy_6, 36, .inr (.inl (fun _ => 0)))), ((r_4 1), .inl (cy_6, 36, .inr (.inl (fun _ => 0)))), ((r_4 2), .inl (cy_6, 36, .inr (.inl (fun _ => 0))))] := hD
  refine lv_aload_n hx hb dX0_init_23 rfl (lv_at hl 0 rfl) ?_
  refine lv_bipush (v := 8) hx hb dX0_init_24 (by decide) ?_
  refine lv_bipush (v := 36) hx hb dX0_init_26 (by decide) ?_
  obtain ⟨cy_10, hcy_10, gcy_10⟩ := arr_known (hts (.arrayClass .int) kc_chancesInit_3)
  refine va_mna (X := [(a0, .inr (2, [.long 0, .int 0, .ref q_1, .ref q_3, .null])), (q_1, .inl (ca_2, 36, .inl (fun _ => 0))), (q_3, .inl (ca_5, 3, .inr (.inr (.inr (.inr (fun i => if i < 3 then some (r_4 i) else none)))))), ((r_4 0), .inl (cy_6, 36, .inr (.inl (fun _ => 0)))), ((r_4 1), .inl (cy_6, 36, .inr (.inl (fun _ => 0)))), ((r_4 2), .inl (cy_6, 36, .inr (.inl (fun _ => 0))))]) (L := []) (f := fun _ => .inl (cy_10, (36, .inl (fun _ => 0)))) (ty := .int) (cy := cy_10) (z := (36, .inl (fun _ => 0))) (N' := 8) (K' := 36) hx hb hown (by rw [show "[" ++ (FieldType.array .int).toString = "[[I" from by decide]; exact (hts (.classLink RX0 20 "[[I") kc_chancesInit_9)) hC.2.2.1 (hts (.arrayClass .int) kc_chancesInit_3) hcy_10 hK hP hD hS hA (by decide) (by decide) (by decide) (by decide) (by decide) (by decide) (by decide) rfl rfl (Nat.le_of_ble_eq_true rfl) (Nat.le_of_ble_eq_true rfl) (fun cq => arrV_new cq 36 (defaultValue .int)) dX0_init_28 (fun q_7 r_8 ca_9 H _ _ hK hP hD hS => ?_)
  rw [mna_rows] at hP hD
  have hP : va_P (dC, dI) vwCl [(a0, .inr (2, [.long 0, .int 0, .ref q_1, .ref q_3, .null])), (q_1, .inl (ca_2, 36, .inl (fun _ => 0))), (q_3, .inl (ca_5, 3, .inr (.inr (.inr (.inr (fun i => if i < 3 then some (r_4 i) else none)))))), ((r_4 0), .inl (cy_6, 36, .inr (.inl (fun _ => 0)))), ((r_4 1), .inl (cy_6, 36, .inr (.inl (fun _ => 0)))), ((r_4 2), .inl (cy_6, 36, .inr (.inl (fun _ => 0)))), (q_7, .inl (ca_9, 8, .inr (.inr (.inr (.inr (fun i => if i < 8 then some (r_8 i) else none)))))), ((r_8 0), .inl (cy_10, 36, .inl (fun _ => 0))), ((r_8 1), .inl (cy_10, 36, .inl (fun _ => 0))), ((r_8 2), .inl (cy_10, 36, .inl (fun _ => 0))), ((r_8 3), .inl (cy_10, 36, .inl (fun _ => 0))), ((r_8 4), .inl (cy_10, 36, .inl (fun _ => 0))), ((r_8 5), .inl (cy_10, 36, .inl (fun _ => 0))), ((r_8 6), .inl (cy_10, 36, .inl (fun _ => 0))), ((r_8 7), .inl (cy_10, 36, .inl (fun _ => 0)))] H := hP
  have hD : va_D A [(a0, .inr (2, [.long 0, .int 0, .ref q_1, .ref q_3, .null])), (q_1, .inl (ca_2, 36, .inl (fun _ => 0))), (q_3, .inl (ca_5, 3, .inr (.inr (.inr (.inr (fun i => if i < 3 then some (r_4 i) else none)))))), ((r_4 0), .inl (cy_6, 36, .inr (.inl (fun _ => 0)))), ((r_4 1), .inl (cy_6, 36, .inr (.inl (fun _ => 0)))), ((r_4 2), .inl (cy_6, 36, .inr (.inl (fun _ => 0)))), (q_7, .inl (ca_9, 8, .inr (.inr (.inr (.inr (fun i => if i < 8 then some (r_8 i) else none)))))), ((r_8 0), .inl (cy_10, 36, .inl (fun _ => 0))), ((r_8 1), .inl (cy_10, 36, .inl (fun _ => 0))), ((r_8 2), .inl (cy_10, 36, .inl (fun _ => 0))), ((r_8 3), .inl (cy_10, 36, .inl (fun _ => 0))), ((r_8 4), .inl (cy_10, 36, .inl (fun _ => 0))), ((r_8 5), .inl (cy_10, 36, .inl (fun _ => 0))), ((r_8 6), .inl (cy_10, 36, .inl (fun _ => 0))), ((r_8 7), .inl (cy_10, 36, .inl (fun _ => 0)))] := hD
  have hK : va_K (dC, dI) vwCl [(ca_2, .int), (ca_5, .array .long), (cy_6, .long), (cy_6, .long), (cy_6, .long), (ca_9, .array .int), (cy_10, .int), (cy_10, .int), (cy_10, .int), (cy_10, .int), (cy_10, .int), (cy_10, .int), (cy_10, .int), (cy_10, .int)] s := hK.app (K_rep hK gcy_10 hcy_10 8)
  refine W.widen (k := 14) (n := 443) (by omega) (by omega) ?_
  refine va_putF (D := (dC, dI)) (ci := 2) (v := .ref q_7) (ty := .array (.array .int)) (C := RX0) (T := TX0) (N := 5) hx hb hts kc_chancesInit_4 tyX0 tyX0_ok nmX0 hown hK hP hD hS 0 rfl rfl 4 (by decide) (hts (.fieldLink RX0 22 "MistHeaps$Chances" "hits" "[[I") kc_chancesInit_10) (fun _ h9 => h9) rfl hin rfl (by decide +kernel) rfl rfl (Nat.le_of_ble_eq_true rfl) dX0_init_32 (fun H locs hP hD hS => ?_)
  have hP : va_P (dC, dI) vwCl [(a0, .inr (2, [.long 0, .int 0, .ref q_1, .ref q_3, .ref q_7])), (q_1, .inl (ca_2, 36, .inl (fun _ => 0))), (q_3, .inl (ca_5, 3, .inr (.inr (.inr (.inr (fun i => if i < 3 then some (r_4 i) else none)))))), ((r_4 0), .inl (cy_6, 36, .inr (.inl (fun _ => 0)))), ((r_4 1), .inl (cy_6, 36, .inr (.inl (fun _ => 0)))), ((r_4 2), .inl (cy_6, 36, .inr (.inl (fun _ => 0)))), (q_7, .inl (ca_9, 8, .inr (.inr (.inr (.inr (fun i => if i < 8 then some (r_8 i) else none)))))), ((r_8 0), .inl (cy_10, 36, .inl (fun _ => 0))), ((r_8 1), .inl (cy_10, 36, .inl (fun _ => 0))), ((r_8 2), .inl (cy_10, 36, .inl (fun _ => 0))), ((r_8 3), .inl (cy_10, 36, .inl (fun _ => 0))), ((r_8 4), .inl (cy_10, 36, .inl (fun _ => 0))), ((r_8 5), .inl (cy_10, 36, .inl (fun _ => 0))), ((r_8 6), .inl (cy_10, 36, .inl (fun _ => 0))), ((r_8 7), .inl (cy_10, 36, .inl (fun _ => 0)))] H := hP
  have hD : va_D A [(a0, .inr (2, [.long 0, .int 0, .ref q_1, .ref q_3, .ref q_7])), (q_1, .inl (ca_2, 36, .inl (fun _ => 0))), (q_3, .inl (ca_5, 3, .inr (.inr (.inr (.inr (fun i => if i < 3 then some (r_4 i) else none)))))), ((r_4 0), .inl (cy_6, 36, .inr (.inl (fun _ => 0)))), ((r_4 1), .inl (cy_6, 36, .inr (.inl (fun _ => 0)))), ((r_4 2), .inl (cy_6, 36, .inr (.inl (fun _ => 0)))), (q_7, .inl (ca_9, 8, .inr (.inr (.inr (.inr (fun i => if i < 8 then some (r_8 i) else none)))))), ((r_8 0), .inl (cy_10, 36, .inl (fun _ => 0))), ((r_8 1), .inl (cy_10, 36, .inl (fun _ => 0))), ((r_8 2), .inl (cy_10, 36, .inl (fun _ => 0))), ((r_8 3), .inl (cy_10, 36, .inl (fun _ => 0))), ((r_8 4), .inl (cy_10, 36, .inl (fun _ => 0))), ((r_8 5), .inl (cy_10, 36, .inl (fun _ => 0))), ((r_8 6), .inl (cy_10, 36, .inl (fun _ => 0))), ((r_8 7), .inl (cy_10, 36, .inl (fun _ => 0)))] := hD
  rw [hQ]
  have hP9 := hP.sub (ws' := [(a0, .inr (2, [.long 0, .int 0, .ref q_1, .ref q_3, .ref q_7])), (q_1, .inl (ca_2, 36, .inl (fun _ => 0))), (q_3, .inl (ca_5, 3, .inr (.inr (.inr (.inr (fun i => if i < 3 then some (r_4 i) else none)))))), ((r_4 0), .inl (cy_6, 36, .inr (.inl (fun _ => 0)))), ((r_4 1), .inl (cy_6, 36, .inr (.inl (fun _ => 0)))), ((r_4 2), .inl (cy_6, 36, .inr (.inl (fun _ => 0)))), (q_7, .inl (ca_9, 8, .inr (.inr (.inr (.inr (fun i => if i < 8 then some (r_8 i) else none)))))), ((r_8 0), .inl (cy_10, 36, .inl (fun _ => 0))), ((r_8 1), .inl (cy_10, 36, .inl (fun _ => 0))), ((r_8 2), .inl (cy_10, 36, .inl (fun _ => 0))), ((r_8 3), .inl (cy_10, 36, .inl (fun _ => 0))), ((r_8 4), .inl (cy_10, 36, .inl (fun _ => 0))), ((r_8 5), .inl (cy_10, 36, .inl (fun _ => 0))), ((r_8 6), .inl (cy_10, 36, .inl (fun _ => 0))), ((r_8 7), .inl (cy_10, 36, .inl (fun _ => 0)))]) [0, 1, 2, 3, 4, 5, 6, 7, 8, 9, 10, 11, 12, 13, 14] rfl
  have hD9 := hD.sub (ws' := [(a0, .inr (2, [.long 0, .int 0, .ref q_1, .ref q_3, .ref q_7])), (q_1, .inl (ca_2, 36, .inl (fun _ => 0))), (q_3, .inl (ca_5, 3, .inr (.inr (.inr (.inr (fun i => if i < 3 then some (r_4 i) else none)))))), ((r_4 0), .inl (cy_6, 36, .inr (.inl (fun _ => 0)))), ((r_4 1), .inl (cy_6, 36, .inr (.inl (fun _ => 0)))), ((r_4 2), .inl (cy_6, 36, .inr (.inl (fun _ => 0)))), (q_7, .inl (ca_9, 8, .inr (.inr (.inr (.inr (fun i => if i < 8 then some (r_8 i) else none)))))), ((r_8 0), .inl (cy_10, 36, .inl (fun _ => 0))), ((r_8 1), .inl (cy_10, 36, .inl (fun _ => 0))), ((r_8 2), .inl (cy_10, 36, .inl (fun _ => 0))), ((r_8 3), .inl (cy_10, 36, .inl (fun _ => 0))), ((r_8 4), .inl (cy_10, 36, .inl (fun _ => 0))), ((r_8 5), .inl (cy_10, 36, .inl (fun _ => 0))), ((r_8 6), .inl (cy_10, 36, .inl (fun _ => 0))), ((r_8 7), .inl (cy_10, 36, .inl (fun _ => 0)))]) [0, 1, 2, 3, 4, 5, 6, 7, 8, 9, 10, 11, 12, 13, 14] (by decide) rfl
  have hK9 := hK.sub (tys' := [(ca_2, .int), (ca_5, .array .long), (cy_6, .long), (cy_6, .long), (cy_6, .long), (ca_9, .array .int), (cy_10, .int), (cy_10, .int), (cy_10, .int), (cy_10, .int), (cy_10, .int), (cy_10, .int), (cy_10, .int), (cy_10, .int)]) [0, 1, 2, 3, 4, 5, 6, 7, 8, 9, 10, 11, 12, 13] rfl
  exact W.vret hx hb hr (fun tQ htQ hWQ => ⟨⟨(), rfl, trivial, q_1, q_3, q_7, r_4, r_8, ca_2, ca_5, ca_9, cy_6, cy_10, by rw [htQ]; exact hP9, va_K.moved hWQ.alike hK9, hD9⟩, hS.F htQ⟩) hS.2.2 dX0_init_35
