theorem dX8_init_0 : decode cX8_init 0 = .ok (.aload_n 0, 1) := by decide +kernel
theorem dX8_init_1 : decode cX8_init 1 = .ok (.invokespecial 3, 3) := by decide +kernel
theorem dX8_init_4 : decode cX8_init 4 = .ok (.aload_n 0, 1) := by decide +kernel
theorem dX8_init_5 : decode cX8_init 5 = .ok (.bipush 100, 2) := by decide +kernel
theorem dX8_init_7 : decode cX8_init 7 = .ok (.newarray .int, 2) := by decide +kernel
theorem dX8_init_9 : decode cX8_init 9 = .ok (.putfield 9, 3) := by decide +kernel
theorem dX8_init_12 : decode cX8_init 12 = .ok (.aload_n 0, 1) := by decide +kernel
theorem dX8_init_13 : decode cX8_init 13 = .ok (.new 15, 3) := by decide +kernel
theorem dX8_init_16 : decode cX8_init 16 = .ok (.dup, 1) := by decide +kernel
set_option maxRecDepth 20000 in
theorem ggX8_init_X5_init : GoodIn wsX8_init wsX5_init := goodIn_r _ [17, 18, 2, 3, 19, 4, 20, 21, 22, 23, 38, 39, 40, 41, 42, 43, 44, 45, 46, 47, 48] (by decide +kernel) (by decide +kernel)
theorem dX8_init_17 : decode cX8_init 17 = .ok (.invokespecial 17, 3) := by decide +kernel
theorem dX8_init_20 : decode cX8_init 20 = .ok (.putfield 18, 3) := by decide +kernel
theorem dX8_init_23 : decode cX8_init 23 = .ok (.aload_n 0, 1) := by decide +kernel
theorem dX8_init_24 : decode cX8_init 24 = .ok (.bipush 8, 2) := by decide +kernel
theorem dX8_init_26 : decode cX8_init 26 = .ok (.anewarray 22, 3) := by decide +kernel
theorem dX8_init_29 : decode cX8_init 29 = .ok (.putfield 24, 3) := by decide +kernel
theorem dX8_init_32 : decode cX8_init 32 = .ok (.aload_n 0, 1) := by decide +kernel
theorem dX8_init_33 : decode cX8_init 33 = .ok (.bipush 6, 2) := by decide +kernel
theorem dX8_init_35 : decode cX8_init 35 = .ok (.newarray .int, 2) := by decide +kernel
theorem dX8_init_37 : decode cX8_init 37 = .ok (.putfield 28, 3) := by decide +kernel
theorem dX8_init_40 : decode cX8_init 40 = .ok (.aload_n 0, 1) := by decide +kernel
theorem dX8_init_41 : decode cX8_init 41 = .ok (.bipush 12, 2) := by decide +kernel
theorem dX8_init_43 : decode cX8_init 43 = .ok (.newarray .int, 2) := by decide +kernel
theorem dX8_init_45 : decode cX8_init 45 = .ok (.putfield 31, 3) := by decide +kernel
theorem dX8_init_48 : decode cX8_init 48 = .ok (.aload_n 0, 1) := by decide +kernel
theorem dX8_init_49 : decode cX8_init 49 = .ok (.bipush 6, 2) := by decide +kernel
theorem dX8_init_51 : decode cX8_init 51 = .ok (.newarray .int, 2) := by decide +kernel
theorem dX8_init_53 : decode cX8_init 53 = .ok (.putfield 34, 3) := by decide +kernel
theorem dX8_init_56 : decode cX8_init 56 = .ok (.return_, 1) := by decide +kernel
theorem kc_sceneInit_0 : (.methodLink RX8 3 objectInit : Cond) ∈ wsX8_init := by decide +kernel
theorem kc_sceneInit_1 : (.instanceMethod objectInit : Cond) ∈ wsX8_init := by decide +kernel
theorem kc_sceneInit_2 : (.code objectInit ⟨#[0xb1]⟩ 1 none : Cond) ∈ wsX8_init := by decide +kernel
theorem kc_sceneInit_3 : (.arrayClass .int : Cond) ∈ wsX8_init := by decide +kernel
theorem kc_sceneInit_4 : ∀ w ∈ wsX80, w ∈ wsX8_init := by decide +kernel
theorem kc_sceneInit_5 : (.fieldLink RX8 9 "MistHeaps$Scene" "tape" "[I" : Cond) ∈ wsX8_init := by decide +kernel
theorem kc_sceneInit_6 : ∀ w ∈ wsX50, w ∈ wsX8_init := by decide +kernel
theorem kc_sceneInit_7 : (.classLink RX8 15 RX5 : Cond) ∈ wsX8_init := by decide +kernel
theorem kc_sceneInit_8 : (.instantiable RX5 11 : Cond) ∈ wsX8_init := by decide +kernel
theorem kc_sceneInit_9 : (.initialized RX5 : Cond) ∈ wsX8_init := by decide +kernel
theorem kc_sceneInit_10 : (.methodLink RX8 17 yX5_init : Cond) ∈ wsX8_init := by decide +kernel
theorem kc_sceneInit_11 : (.instanceMethod yX5_init : Cond) ∈ wsX8_init := by decide +kernel
theorem kc_sceneInit_12 : (.fieldLink RX8 18 "MistHeaps$Scene" "hill" "LMistHeaps$Hill;" : Cond) ∈ wsX8_init := by decide +kernel
theorem kc_sceneInit_13 : (.classLink RX8 22 RX3 : Cond) ∈ wsX8_init := by decide +kernel
theorem kc_sceneInit_14 : (.fieldLink RX8 24 "MistHeaps$Scene" "heaps" "[LMistHeaps$Heap;" : Cond) ∈ wsX8_init := by decide +kernel
theorem kc_sceneInit_15 : (.fieldLink RX8 28 "MistHeaps$Scene" "walk" "[I" : Cond) ∈ wsX8_init := by decide +kernel
theorem kc_sceneInit_16 : (.fieldLink RX8 31 "MistHeaps$Scene" "book" "[I" : Cond) ∈ wsX8_init := by decide +kernel
theorem kc_sceneInit_17 : (.fieldLink RX8 34 "MistHeaps$Scene" "facts" "[I" : Cond) ∈ wsX8_init := by decide +kernel
set_option maxHeartbeats 4000000 in
set_option maxRecDepth 100000 in
theorem c_sceneInit (l : Launch) (dC : Nat → ClassId) (dI : Nat → Nat → Nat) (bS : Nat) (a0 : Nat) (sz : Nat) : Met l yX8_init wsX8_init ({ frames := 2, cells := 10, slots := 273, locals := 32 } : Room) (va_Pc [.ref a0] (fun U => U.heap.size = sz ∧ va_P (dC, dI) vwCl [(a0, .inr (10, [.null, .int 0, .null, .int 0, .long 0, .int 0, .int 0, .null, .int 0, .null, .int 0, .null, .int 0, .null]))] U.heap ∧ va_K (dC, dI) vwCl [] U ∧ va_D (fun _ => True) [(a0, .inr (10, [.null, .int 0, .null, .int 0, .long 0, .int 0, .int 0, .null, .int 0, .null, .int 0, .null, .int 0, .null]))] ∧ Gc bS (va_A [(a0, .inr (10, [.null, .int 0, .null, .int 0, .long 0, .int 0, .int 0, .null, .int 0, .null, .int 0, .null, .int 0, .null]))] sz) U)) (va_Qv (fun (u : Unit) => match u with | () => True) (fun (u : Unit) (t : State) => match u with | () => ∃ aTp : Nat, ∃ cTp : ClassId, ∃ aHl : Nat, ∃ bW : Nat, ∃ bA : Nat, ∃ bE : Nat, ∃ bC : Nat, ∃ aHs : Nat, ∃ cHs : ClassId, ∃ aWk : Nat, ∃ cWk : ClassId, ∃ aBk : Nat, ∃ cBk : ClassId, ∃ aFc : Nat, ∃ cFc : ClassId, va_P (dC, dI) vwCl [(a0, .inr (10, [.ref aTp, .int 0, .ref aHl, .int 0, .long 0, .int 0, .int 0, .ref aHs, .int 0, .ref aWk, .int 0, .ref aBk, .int 0, .ref aFc])), (aTp, .inl (cTp, 100, .inl (fun _ => 0))), (aHl, .inr (7, [.int 3, .int 0, .ref bW, .ref bA, .ref bE, .ref bC, .int 0, .null, .int 0, .int 0, .int 0])), (aHs, .inl (cHs, 8, .inr (.inr (.inr (.inr (fun _ => none)))))), (aWk, .inl (cWk, 6, .inl (fun _ => 0))), (aBk, .inl (cBk, 12, .inl (fun _ => 0))), (aFc, .inl (cFc, 6, .inl (fun _ => 0)))] t.heap ∧ va_K (dC, dI) vwCl [(cTp, .int), (cHs, .object "MistHeaps$Heap"), (cWk, .int), (cBk, .int), (cFc, .int)] t ∧ va_D (va_A [(a0, .inr (10, [.null, .int 0, .null, .int 0, .long 0, .int 0, .int 0, .null, .int 0, .null, .int 0, .null, .int 0, .null]))] sz) [(a0, .inr (10, [.ref aTp, .int 0, .ref aHl, .int 0, .long 0, .int 0, .int 0, .ref aHs, .int 0, .ref aWk, .int 0, .ref aBk, .int 0, .ref aFc])), (aTp, .inl (cTp, 100, .inl (fun _ => 0))), (aHl, .inr (7, [.int 3, .int 0, .ref bW, .ref bA, .ref bE, .ref bC, .int 0, .null, .int 0, .int 0, .int 0])), (aHs, .inl (cHs, 8, .inr (.inr (.inr (.inr (fun _ => none)))))), (aWk, .inl (cWk, 6, .inl (fun _ => 0))), (aBk, .inl (cBk, 12, .inl (fun _ => 0))), (aFc, .inl (cFc, 6, .inl (fun _ => 0)))]) (va_A [(a0, .inr (10, [.null, .int 0, .null, .int 0, .long 0, .int 0, .int 0, .null, .int 0, .null, .int 0, .null, .int 0, .null]))] sz)) 10 273 (va_A [(a0, .inr (10, [.null, .int 0, .null, .int 0, .long 0, .int 0, .int 0, .null, .int 0, .null, .int 0, .null, .int 0, .null]))] sz) := by
  refine met_ofQ (cc := cX8_init) (maxL := 1) (ret := none) (by decide) rfl ?_
  intro p e s m args below meth c s₁ Q B hml hv hQ
  obtain ⟨rfl, hsz, hP, hK, hD0, hC⟩ := hv
  have hx := B.exec
  have hb := B.bytes
  have hr := B.returns
  have hts := atoms_spec (ws := wsX8_init) B.pre
  have hown : s.vm.findClass RX8 = some m.cls := findClass_of_methodNamed B.named
  have hlocks := B.notSynchronized
  have hin : meth.name = "<init>" := (name_of_methodNamed B.named B.method).1
  subst hsz
  have hD := hD0.self (sz := s.heap.size)
  generalize hAe : va_A [(a0, .inr (10, [.null, .int 0, .null, .int 0, .long 0, .int 0, .int 0, .null, .int 0, .null, .int 0, .null, .int 0, .null]))] s.heap.size = A at hD hQ hC ⊢
  have hA : ∀ q : Nat, s.heap.size ≤ q → A q := fun q h => by rw [← hAe]; exact Or.inr h
  have hS : va_S A s.heap s.heap [] := va_S.rf
  have hl := lv_entry [.ref a0] (n := 1) (Nat.le_of_ble_eq_true rfl)
  rw [lg_entry_eq]
  generalize (lg_sl [.ref a0] ++ List.replicate (1 - (lg_sl [.ref a0]).length) Slot.unset).toArray = ls at hl ⊢
  generalize hag : ([.ref a0] : List Value).toArray = args at hts hQ ⊢
  have hl : lv_has ls 1 [(0, .ref a0)] := hl
  obtain ⟨H, hH⟩ : ∃ H : Heap, H = s.heap := ⟨_, rfl⟩
  rw [← hH] at hP
  rw [← hH]
  have hS : va_S A s.heap H [] := by rw [hH]; exact hS
  obtain ⟨locs, hlo⟩ : ∃ L : List Loc, L = [] := ⟨_, rfl⟩
  rw [← hlo] at hS
  rw [← hlo]
  clear hH hlo
  refine lv_aload_n hx hb dX8_init_0 rfl (lv_at hl 0 rfl) ?_
  refine W.objInit hx hb hown (hts (.methodLink RX8 3 objectInit) kc_sceneInit_0) (hts (.instanceMethod objectInit) kc_sceneInit_1) (hts (.code objectInit ⟨#[0xb1]⟩ 1 none) kc_sceneInit_2) rfl (by rw [hml]; exact hl.1) rfl dX8_init_1 (Nat.le_of_ble_eq_true rfl) (Nat.le_of_ble_eq_true rfl) ?_
  refine W.eq (g2 := F0 m 4 ls []) rfl ?_
  refine lv_aload_n hx hb dX8_init_4 rfl (lv_at hl 0 rfl) ?_
  refine lv_bipush (v := 100) hx hb dX8_init_5 (by decide) ?_
  refine va_newa (atype := .int) (ty := .int) (N' := 100) (a0 := (100, .inl (fun _ => 0))) hx hb (hts (.arrayClass .int) kc_sceneInit_3) rfl hK hP hD hS hA (fun _ => rfl) (by decide) (by decide) (by decide) (Nat.le_of_ble_eq_true rfl) (Nat.le_of_ble_eq_true rfl) dX8_init_7 (fun q_1 ca_2 H hK hP hD hS => ?_)
  have hP : va_P (dC, dI) vwCl [(a0, .inr (10, [.null, .int 0, .null, .int 0, .long 0, .int 0, .int 0, .null, .int 0, .null, .int 0, .null, .int 0, .null])), (q_1, .inl (ca_2, 100, .inl (fun _ => 0)))] H := hP
  have hD : va_D A [(a0, .inr (10, [.null, .int 0, .null, .int 0, .long 0, .int 0, .int 0, .null, .int 0, .null, .int 0, .null, .int 0, .null])), (q_1, .inl (ca_2, 100, .inl (fun _ => 0)))] := hD
  have hK : va_K (dC, dI) vwCl [(ca_2, .int)] s := hK
  refine W.widen (k := 1) (n := 100) (by omega) (by omega) ?_
  refine va_putF (D := (dC, dI)) (ci := 10) (v := .ref q_1) (ty := .array .int) (C := RX8) (T := TX8) (N := 14) hx hb hts kc_sceneInit_4 tyX8 tyX8_ok nmX8 hown hK hP hD hS 0 rfl rfl 0 (by decide) (hts (.fieldLink RX8 9 "MistHeaps$Scene" "tape" "[I") kc_sceneInit_5) (fun _ h9 => h9) rfl hin rfl (by decide +kernel) rfl rfl (Nat.le_of_ble_eq_true rfl) dX8_init_9 (fun H locs hP hD hS => ?_)
  have hP : va_P (dC, dI) vwCl [(a0, .inr (10, [.ref q_1, .int 0, .null, .int 0, .long 0, .int 0, .int 0, .null, .int 0, .null, .int 0, .null, .int 0, .null])), (q_1, .inl (ca_2, 100, .inl (fun _ => 0)))] H := hP
  have hD : va_D A [(a0, .inr (10, [.ref q_1, .int 0, .null, .int 0, .long 0, .int 0, .int 0, .null, .int 0, .null, .int 0, .null, .int 0, .null])), (q_1, .inl (ca_2, 100, .inl (fun _ => 0)))] := hD
  refine lv_aload_n hx hb dX8_init_12 rfl (lv_at hl 0 rfl) ?_
  refine va_new (ci := 7) (fs := [.int 0, .int 0, .null, .null, .null, .null, .int 0, .null, .int 0, .int 0, .int 0]) (C := RX5) (T := TX5) (N := 11) hx hb hts kc_sceneInit_6 tyX5 tyX5_ok hown (hts (.classLink RX8 15 RX5) kc_sceneInit_7) (hts (.instantiable RX5 11) kc_sceneInit_8) (hts (.initialized RX5) kc_sceneInit_9) hK hP hD hS hA rfl (fun j hj => by rcases (show j = 0 ∨ j = 1 ∨ j = 2 ∨ j = 3 ∨ j = 4 ∨ j = 5 ∨ j = 6 ∨ j = 7 ∨ j = 8 ∨ j = 9 ∨ j = 10 by omega) with rfl | rfl | rfl | rfl | rfl | rfl | rfl | rfl | rfl | rfl | rfl <;> rfl) (Nat.le_of_ble_eq_true rfl) (Nat.le_of_ble_eq_true rfl) dX8_init_13 (fun q_3 H hP hD hS => ?_)
  have hP : va_P (dC, dI) vwCl [(a0, .inr (10, [.ref q_1, .int 0, .null, .int 0, .long 0, .int 0, .int 0, .null, .int 0, .null, .int 0, .null, .int 0, .null])), (q_1, .inl (ca_2, 100, .inl (fun _ => 0))), (q_3, .inr (7, [.int 0, .int 0, .null, .null, .null, .null, .int 0, .null, .int 0, .int 0, .int 0]))] H := hP
  have hD : va_D A [(a0, .inr (10, [.ref q_1, .int 0, .null, .int 0, .long 0, .int 0, .int 0, .null, .int 0, .null, .int 0, .null, .int 0, .null])), (q_1, .inl (ca_2, 100, .inl (fun _ => 0))), (q_3, .inr (7, [.int 0, .int 0, .null, .null, .null, .null, .int 0, .null, .int 0, .int 0, .int 0]))] := hD
  refine W.widen (k := 2) (n := 111) (by omega) (by omega) ?_
  refine lv_dup hx hb dX8_init_16 rfl ?_
  have hPc := hP.sub (ws' := [(q_3, .inr (7, [.int 0, .int 0, .null, .null, .null, .null, .int 0, .null, .int 0, .int 0, .int 0]))]) [2] rfl
  have hDc := hD.sub (ws' := [(q_3, .inr (7, [.int 0, .int 0, .null, .null, .null, .null, .int 0, .null, .int 0, .int 0, .int 0]))]) [2] (by decide) rfl
  have hKc := hK.sub (tys' := []) [] rfl
  have hFc := va_free (wc := [(q_3, .inr (7, [.int 0, .int 0, .null, .null, .null, .null, .int 0, .null, .int 0, .int 0, .int 0]))]) hD hS hA [2] rfl
  refine va_callv (va_runI (As := []) (rest := [.ref q_3, .ref a0]) ⟨hx, hb, hml, hown, hts⟩ (c_hillInit l dC dI q_3 H.size) (cwI 0 hts ggX8_init_X5_init rfl rfl rfl (hts (.initialized RX5) kc_sceneInit_9) (hts (.methodLink RX8 17 yX5_init) kc_sceneInit_10) (hts (.instanceMethod yX5_init) kc_sceneInit_11) rfl (by decide +kernel) ⟨Nat.le_of_ble_eq_true rfl, Nat.le_of_ble_eq_true rfl⟩) ⟨fun a U g mk q => by obtain ⟨q0, q1, qP, qK, qD⟩ := q; exact ⟨q0, q1, qP, va_K.moved (u := U) (U := U.calling g mk a) (Vm.Alike.refl U.vm) qK, qD⟩, fun U hU hW => ⟨rfl, by rw [hU], by rw [hU]; exact hPc, va_K.moved hW.alike hKc, hDc.weaken (fun _ _ _ _ => trivial)⟩⟩ rfl rfl hl.1 rfl (lv_room (Nat.le_of_ble_eq_true rfl)) dX8_init_17 ⟨Nat.le_of_ble_eq_true rfl, Nat.le_of_ble_eq_true rfl⟩) hS (fun q _ h => hFc q h) hFc (fun u tC H1 locs htC hvm hw_5 hB hz1 hk1 hS => ?_)
  obtain ⟨⟩ := u
  try dsimp only at hw_5 hB
  obtain ⟨bW_6, bA_7, bE_8, bC_9, hP1, hK1, hD1⟩ := hB
  rw [htC] at hP1
  have hK1 := va_K.moved hvm.symm hK1
  obtain ⟨hP, hD⟩ := va_join (wr := [(a0, .inr (10, [.ref q_1, .int 0, .null, .int 0, .long 0, .int 0, .int 0, .null, .int 0, .null, .int 0, .null, .int 0, .null])), (q_1, .inl (ca_2, 100, .inl (fun _ => 0)))]) (w1 := [(q_3, .inr (7, [.int 3, .int 0, .ref bW_6, .ref bA_7, .ref bE_8, .ref bC_9, .int 0, .null, .int 0, .int 0, .int 0]))]) hP hD [2] [0, 1] rfl rfl (by decide) (by decide) hk1 hFc hP1 hD1
  have hK := (hK.sub (tys' := [(ca_2, .int)]) [0] rfl).app hK1
  generalize H1 = H at hP hS ⊢
  have hP : va_P (dC, dI) vwCl [(a0, .inr (10, [.ref q_1, .int 0, .null, .int 0, .long 0, .int 0, .int 0, .null, .int 0, .null, .int 0, .null, .int 0, .null])), (q_1, .inl (ca_2, 100, .inl (fun _ => 0))), (q_3, .inr (7, [.int 3, .int 0, .ref bW_6, .ref bA_7, .ref bE_8, .ref bC_9, .int 0, .null, .int 0, .int 0, .int 0]))] H := hP
  have hD : va_D A [(a0, .inr (10, [.ref q_1, .int 0, .null, .int 0, .long 0, .int 0, .int 0, .null, .int 0, .null, .int 0, .null, .int 0, .null])), (q_1, .inl (ca_2, 100, .inl (fun _ => 0))), (q_3, .inr (7, [.int 3, .int 0, .ref bW_6, .ref bA_7, .ref bE_8, .ref bC_9, .int 0, .null, .int 0, .int 0, .int 0]))] := hD
  have hK : va_K (dC, dI) vwCl [(ca_2, .int)] s := hK
  refine W.widen (k := 6) (n := 241) (by omega) (by omega) ?_
  refine va_put (D := (dC, dI)) (ci := 10) (v := .ref q_3) (ty := .object "MistHeaps$Hill") (C := RX8) (T := TX8) (N := 14) hx hb hts kc_sceneInit_4 tyX8 tyX8_ok nmX8 hown hK hP hD hS 0 rfl rfl 2 (by decide) (hts (.fieldLink RX8 18 "MistHeaps$Scene" "hill" "LMistHeaps$Hill;") kc_sceneInit_12) (fun _ h9 => h9) rfl (by decide +kernel) rfl rfl (Nat.le_of_ble_eq_true rfl) dX8_init_20 (fun H locs hP hD hS => ?_)
  have hP : va_P (dC, dI) vwCl [(a0, .inr (10, [.ref q_1, .int 0, .ref q_3, .int 0, .long 0, .int 0, .int 0, .null, .int 0, .null, .int 0, .null, .int 0, .null])), (q_1, .inl (ca_2, 100, .inl (fun _ => 0))), (q_3, .inr (7, [.int 3, .int 0, .ref bW_6, .ref bA_7, .ref bE_8, .ref bC_9, .int 0, .null, .int 0, .int 0, .int 0]))] H := hP
  have hD : va_D A [(a0, .inr (10, [.ref q_1, .int 0, .ref q_3, .int 0, .long 0, .int 0, .int 0, .null, .int 0, .null, .int 0, .null, .int 0, .null])), (q_1, .inl (ca_2, 100, .inl (fun _ => 0))), (q_3, .inr (7, [.int 3, .int 0, .ref bW_6, .ref bA_7, .ref bE_8, .ref bC_9, .int 0, .null, .int 0, .int 0, .int 0]))] := hD
  refine lv_aload_n hx hb dX8_init_23 rfl (lv_at hl 0 rfl) ?_
  refine lv_bipush (v := 8) hx hb dX8_init_24 (by decide) ?_
  refine va_newq (C := "MistHeaps$Heap") (N' := 8) hx hb hown (hts (.classLink RX8 22 RX3) kc_sceneInit_13) hC.1 hK hP hD hS hA (by decide) (by decide) (by decide) (Nat.le_of_ble_eq_true rfl) (Nat.le_of_ble_eq_true rfl) dX8_init_26 (fun q_10 ca_11 H hK hP hD hS => ?_)
  have hP : va_P (dC, dI) vwCl [(a0, .inr (10, [.ref q_1, .int 0, .ref q_3, .int 0, .long 0, .int 0, .int 0, .null, .int 0, .null, .int 0, .null, .int 0, .null])), (q_1, .inl (ca_2, 100, .inl (fun _ => 0))), (q_3, .inr (7, [.int 3, .int 0, .ref bW_6, .ref bA_7, .ref bE_8, .ref bC_9, .int 0, .null, .int 0, .int 0, .int 0])), (q_10, .inl (ca_11, 8, .inr (.inr (.inr (.inr (fun _ => none))))))] H := hP
  have hD : va_D A [(a0, .inr (10, [.ref q_1, .int 0, .ref q_3, .int 0, .long 0, .int 0, .int 0, .null, .int 0, .null, .int 0, .null, .int 0, .null])), (q_1, .inl (ca_2, 100, .inl (fun _ => 0))), (q_3, .inr (7, [.int 3, .int 0, .ref bW_6, .ref bA_7, .ref bE_8, .ref bC_9, .int 0, .null, .int 0, .int 0, .int 0])), (q_10, .inl (ca_11, 8, .inr (.inr (.inr (.inr (fun _ => none))))))] := hD
  have hK : va_K (dC, dI) vwCl [(ca_2, .int), (ca_11, .object "MistHeaps$Heap")] s := hK
  refine W.widen (k := 7) (n := 249) (by omega) (by omega) ?_
  refine va_putF (D := (dC, dI)) (ci := 10) (v := .ref q_10) (ty := .array (.object "MistHeaps$Heap")) (C := RX8) (T := TX8) (N := 14) hx hb hts kc_sceneInit_4 tyX8 tyX8_ok nmX8 hown hK hP hD hS 0 rfl rfl 7 (by decide) (hts (.fieldLink RX8 24 "MistHeaps$Scene" "heaps" "[LMistHeaps$Heap;") kc_sceneInit_14) (fun _ h9 => h9) rfl hin rfl (by decide +kernel) rfl rfl (Nat.le_of_ble_eq_true rfl) dX8_init_29 (fun H locs hP hD hS => ?_)
  have hP : va_P (dC, dI) vwCl [(a0, .inr (10, [.ref q_1, .int 0, .ref q_3, .int 0, .long 0, .int 0, .int 0, .ref q_10, .int 0, .null, .int 0, .null, .int 0, .null])), (q_1, .inl (ca_2, 100, .inl (fun _ => 0))), (q_3, .inr (7, [.int 3, .int 0, .ref bW_6, .ref bA_7, .ref bE_8, .ref bC_9, .int 0, .null, .int 0, .int 0, .int 0])), (q_10, .inl (ca_11, 8, .inr (.inr (.inr (.inr (fun _ => none))))))] H := hP
  have hD : va_D A [(a0, .inr (10, [.ref q_1, .int 0, .ref q_3, .int 0, .long 0, .int 0, .int 0, .ref q_10, .int 0, .null, .int 0, .null, .int 0, .null])), (q_1, .inl (ca_2, 100, .inl (fun _ => 0))), (q_3, .inr (7, [.int 3, .int 0, .ref bW_6, .ref bA_7, .ref bE_8, .ref bC_9, .int 0, .null, .int 0, .int 0, .int 0])), (q_10, .inl (ca_11, 8, .inr (.inr (.inr (.inr (fun _ => none))))))] := hD
  refine lv_aload_n hx hb dX8_init_32 rfl (lv_at hl 0 rfl) ?_
  refine lv_bipush (v := 6) hx hb dX8_init_33 (by decide) ?_
  refine va_newa (atype := .int) (ty := .int) (N' := 6) (a0 := (6, .inl (fun _ => 0))) hx hb (hts (.arrayClass .int) kc_sceneInit_3) rfl hK hP hD hS hA (fun _ => rfl) (by decide) (by decide) (by decide) (Nat.le_of_ble_eq_true rfl) (Nat.le_of_ble_eq_true rfl) dX8_init_35 (fun q_12 ca_13 H hK hP hD hS => ?_)
  have hP : va_P (dC, dI) vwCl [(a0, .inr (10, [.ref q_1, .int 0, .ref q_3, .int 0, .long 0, .int 0, .int 0, .ref q_10, .int 0, .null, .int 0, .null, .int 0, .null])), (q_1, .inl (ca_2, 100, .inl (fun _ => 0))), (q_3, .inr (7, [.int 3, .int 0, .ref bW_6, .ref bA_7, .ref bE_8, .ref bC_9, .int 0, .null, .int 0, .int 0, .int 0])), (q_10, .inl (ca_11, 8, .inr (.inr (.inr (.inr (fun _ => none)))))), (q_12, .inl (ca_13, 6, .inl (fun _ => 0)))] H := hP
  have hD : va_D A [(a0, .inr (10, [.ref q_1, .int 0, .ref q_3, .int 0, .long 0, .int 0, .int 0, .ref q_10, .int 0, .null, .int 0, .null, .int 0, .null])), (q_1, .inl (ca_2, 100, .inl (fun _ => 0))), (q_3, .inr (7, [.int 3, .int 0, .ref bW_6, .ref bA_7, .ref bE_8, .ref bC_9, .int 0, .null, .int 0, .int 0, .int 0])), (q_10, .inl (ca_11, 8, .inr (.inr (.inr (.inr (fun _ => none)))))), (q_12, .inl (ca_13, 6, .inl (fun _ => 0)))] := hD
  have hK : va_K (dC, dI) vwCl [(ca_2, .int), (ca_11, .object "MistHeaps$Heap"), (ca_13, .int)] s := hK
  refine W.widen (k := 8) (n := 255) (by omega) (by omega) ?_
  refine va_putF (D := (dC, dI)) (ci := 10) (v := .ref q_12) (ty := .array .int) (C := RX8) (T := TX8) (N := 14) hx hb hts kc_sceneInit_4 tyX8 tyX8_ok nmX8 hown hK hP hD hS 0 rfl rfl 9 (by decide) (hts (.fieldLink RX8 28 "MistHeaps$Scene" "walk" "[I") kc_sceneInit_15) (fun _ h9 => h9) rfl hin rfl (by decide +kernel) rfl rfl (Nat.le_of_ble_eq_true rfl) dX8_init_37 (fun H locs hP hD hS => ?_)
  have hP : va_P (dC, dI) vwCl [(a0, .inr (10, [.ref q_1, .int 0, .ref q_3, .int 0, .long 0, .int 0, .int 0, .ref q_10, .int 0, .ref q_12, .int 0, .null, .int 0, .null])), (q_1, .inl (ca_2, 100, .inl (fun _ => 0))), (q_3, .inr (7, [.int 3, .int 0, .ref bW_6, .ref bA_7, .ref bE_8, .ref bC_9, .int 0, .null, .int 0, .int 0, .int 0])), (q_10, .inl (ca_11, 8, .inr (.inr (.inr (.inr (fun _ => none)))))), (q_12, .inl (ca_13, 6, .inl (fun _ => 0)))] H := hP
  have hD : va_D A [(a0, .inr (10, [.ref q_1, .int 0, .ref q_3, .int 0, .long 0, .int 0, .int 0, .ref q_10, .int 0, .ref q_12, .int 0, .null, .int 0, .null])), (q_1, .inl (ca_2, 100, .inl (fun _ => 0))), (q_3, .inr (7, [.int 3, .int 0, .ref bW_6, .ref bA_7, .ref bE_8, .ref bC_9, .int 0, .null, .int 0, .int 0, .int 0])), (q_10, .inl (ca_11, 8, .inr (.inr (.inr (.inr (fun _ => none)))))), (q_12, .inl (ca_13, 6, .inl (fun _ => 0)))] := hD
  refine lv_aload_n hx hb dX8_init_40 rfl (lv_at hl 0 rfl) ?_
  refine lv_bipush (v := 12) hx hb dX8_init_41 (by decide) ?_
  refine va_newa (atype := .int) (ty := .int) (N' := 12) (a0 := (12, .inl (fun _ => 0))) hx hb (hts (.arrayClass .int) kc_sceneInit_3) rfl hK hP hD hS hA (fun _ => rfl) (by decide) (by decide) (by decide) (Nat.le_of_ble_eq_true rfl) (Nat.le_of_ble_eq_true rfl) dX8_init_43 (fun q_14 ca_15 H hK hP hD hS => ?_)
  have hP : va_P (dC, dI) vwCl [(a0, .inr (10, [.ref q_1, .int 0, .ref q_3, .int 0, .long 0, .int 0, .int 0, .ref q_10, .int 0, .ref q_12, .int 0, .null, .int 0, .null])), (q_1, .inl (ca_2, 100, .inl (fun _ => 0))), (q_3, .inr (7, [.int 3, .int 0, .ref bW_6, .ref bA_7, .ref bE_8, .ref bC_9, .int 0, .null, .int 0, .int 0, .int 0])), (q_10, .inl (ca_11, 8, .inr (.inr (.inr (.inr (fun _ => none)))))), (q_12, .inl (ca_13, 6, .inl (fun _ => 0))), (q_14, .inl (ca_15, 12, .inl (fun _ => 0)))] H := hP
  have hD : va_D A [(a0, .inr (10, [.ref q_1, .int 0, .ref q_3, .int 0, .long 0, .int 0, .int 0, .ref q_10, .int 0, .ref q_12, .int 0, .null, .int 0, .null])), (q_1, .inl (ca_2, 100, .inl (fun _ => 0))), (q_3, .inr (7, [.int 3, .int 0, .ref bW_6, .ref bA_7, .ref bE_8, .ref bC_9, .int 0, .null, .int 0, .int 0, .int 0])), (q_10, .inl (ca_11, 8, .inr (.inr (.inr (.inr (fun _ => none)))))), (q_12, .inl (ca_13, 6, .inl (fun _ => 0))), (q_14, .inl (ca_15, 12, .inl (fun _ => 0)))] := hD
  have hK : va_K (dC, dI) vwCl [(ca_2, .int), (ca_11, .object "MistHeaps$Heap"), (ca_13, .int), (ca_15, .int)] s := hK
  refine W.widen (k := 9) (n := 267) (by omega) (by omega) ?_
  refine va_putF (D := (dC, dI)) (ci := 10) (v := .ref q_14) (ty := .array .int) (C := RX8) (T := TX8) (N := 14) hx hb hts kc_sceneInit_4 tyX8 tyX8_ok nmX8 hown hK hP hD hS 0 rfl rfl 11 (by decide) (hts (.fieldLink RX8 31 "MistHeaps$Scene" "book" "[I") kc_sceneInit_16) (fun _ h9 => h9) rfl hin rfl (by decide +kernel) rfl rfl (Nat.le_of_ble_eq_true rfl) dX8_init_45 (fun H locs hP hD hS => ?_)
  have hP : va_P (dC, dI) vwCl [(a0, .inr (10, [.ref q_1, .int 0, .ref q_3, .int 0, .long 0, .int 0, .int 0, .ref q_10, .int 0, .ref q_12, .int 0, .ref q_14, .int 0, .null])), (q_1, .inl (ca_2, 100, .inl (fun _ => 0))), (q_3, .inr (7, [.int 3, .int 0, .ref bW_6, .ref bA_7, .ref bE_8, .ref bC_9, .int 0, .null, .int 0, .int 0, .int 0])), (q_10, .inl (ca_11, 8, .inr (.inr (.inr (.inr (fun _ => none)))))), (q_12, .inl (ca_13, 6, .inl (fun _ => 0))), (q_14, .inl (ca_15, 12, .inl (fun _ => 0)))] H := hP
  have hD : va_D A [(a0, .inr (10, [.ref q_1, .int 0, .ref q_3, .int 0, .long 0, .int 0, .int 0, .ref q_10, .int 0, .ref q_12, .int 0, .ref q_14, .int 0, .null])), (q_1, .inl (ca_2, 100, .inl (fun _ => 0))), (q_3, .inr (7, [.int 3, .int 0, .ref bW_6, .ref bA_7, .ref bE_8, .ref bC_9, .int 0, .null, .int 0, .int 0, .int 0])), (q_10, .inl (ca_11, 8, .inr (.inr (.inr (.inr (fun _ => none)))))), (q_12, .inl (ca_13, 6, .inl (fun _ => 0))), (q_14, .inl (ca_15, 12, .inl (fun _ => 0)))] := hD
  refine lv_aload_n hx hb dX8_init_48 rfl (lv_at hl 0 rfl) ?_
  refine lv_bipush (v := 6) hx hb dX8_init_49 (by decide) ?_
  refine va_newa (atype := .int) (ty := .int) (N' := 6) (a0 := (6, .inl (fun _ => 0))) hx hb (hts (.arrayClass .int) kc_sceneInit_3) rfl hK hP hD hS hA (fun _ => rfl) (by decide) (by decide) (by decide) (Nat.le_of_ble_eq_true rfl) (Nat.le_of_ble_eq_true rfl) dX8_init_51 (fun q_16 ca_17 H hK hP hD hS => ?_)
  have hP : va_P (dC, dI) vwCl [(a0, .inr (10, [.ref q_1, .int 0, .ref q_3, .int 0, .long 0, .int 0, .int 0, .ref q_10, .int 0, .ref q_12, .int 0, .ref q_14, .int 0, .null])), (q_1, .inl (ca_2, 100, .inl (fun _ => 0))), (q_3, .inr (7, [.int 3, .int 0, .ref bW_6, .ref bA_7, .ref bE_8, .ref bC_9, .int 0, .null, .int 0, .int 0, .int 0])), (q_10, .inl (ca_11, 8, .inr (.inr (.inr (.inr (fun _ => none)))))), (q_12, .inl (ca_13, 6, .inl (fun _ => 0))), (q_14, .inl (ca_15, 12, .inl (fun _ => 0))), (q_16, .inl (ca_17, 6, .inl (fun _ => 0)))] H := hP
  have hD : va_D A [(a0, .inr (10, [.ref q_1, .int 0, .ref q_3, .int 0, .long 0, .int 0, .int 0, .ref q_10, .int 0, .ref q_12, .int 0, .ref q_14, .int 0, .null])), (q_1, .inl (ca_2, 100, .inl (fun _ => 0))), (q_3, .inr (7, [.int 3, .int 0, .ref bW_6, .ref bA_7, .ref bE_8, .ref bC_9, .int 0, .null, .int 0, .int 0, .int 0])), (q_10, .inl (ca_11, 8, .inr (.inr (.inr (.inr (fun _ => none)))))), (q_12, .inl (ca_13, 6, .inl (fun _ => 0))), (q_14, .inl (ca_15, 12, .inl (fun _ => 0))), (q_16, .inl (ca_17, 6, .inl (fun _ => 0)))] := hD
  have hK : va_K (dC, dI) vwCl [(ca_2, .int), (ca_11, .object "MistHeaps$Heap"), (ca_13, .int), (ca_15, .int), (ca_17, .int)] s := hK
  refine W.widen (k := 10) (n := 273) (by omega) (by omega) ?_
  refine va_putF (D := (dC, dI)) (ci := 10) (v := .ref q_16) (ty := .array .int) (C := RX8) (T := TX8) (N := 14) hx hb hts kc_sceneInit_4 tyX8 tyX8_ok nmX8 hown hK hP hD hS 0 rfl rfl 13 (by decide) (hts (.fieldLink RX8 34 "MistHeaps$Scene" "facts" "[I") kc_sceneInit_17) (fun _ h9 => h9) rfl hin rfl (by decide +kernel) rfl rfl (Nat.le_of_ble_eq_true rfl) dX8_init_53 (fun H locs hP hD hS => ?_)
  have hP : va_P (dC, dI) vwCl [(a0, .inr (10, [.ref q_1, .int 0, .ref q_3, .int 0, .long 0, .int 0, .int 0, .ref q_10, .int 0, .ref q_12, .int 0, .ref q_14, .int 0, .ref q_16])), (q_1, .inl (ca_2, 100, .inl (fun _ => 0))), (q_3, .inr (7, [.int 3, .int 0, .ref bW_6, .ref bA_7, .ref bE_8, .ref bC_9, .int 0, .null, .int 0, .int 0, .int 0])), (q_10, .inl (ca_11, 8, .inr (.inr (.inr (.inr (fun _ => none)))))), (q_12, .inl (ca_13, 6, .inl (fun _ => 0))), (q_14, .inl (ca_15, 12, .inl (fun _ => 0))), (q_16, .inl (ca_17, 6, .inl (fun _ => 0)))] H := hP
  have hD : va_D A [(a0, .inr (10, [.ref q_1, .int 0, .ref q_3, .int 0, .long 0, .int 0, .int 0, .ref q_10, .int 0, .ref q_12, .int 0, .ref q_14, .int 0, .ref q_16])), (q_1, .inl (ca_2, 100, .inl (fun _ => 0))), (q_3, .inr (7, [.int 3, .int 0, .ref bW_6, .ref bA_7, .ref bE_8, .ref bC_9, .int 0, .null, .int 0, .int 0, .int 0])), (q_10, .inl (ca_11, 8, .inr (.inr (.inr (.inr (fun _ => none)))))), (q_12, .inl (ca_13, 6, .inl (fun _ => 0))), (q_14, .inl (ca_15, 12, .inl (fun _ => 0))), (q_16, .inl (ca_17, 6, .inl (fun _ => 0)))] := hD
  rw [hQ]
  have hP9 := hP.sub (ws' := [(a0, .inr (10, [.ref q_1, .int 0, .ref q_3, .int 0, .long 0, .int 0, .int 0, .ref q_10, .int 0, .ref q_12, .int 0, .ref q_14, .int 0, .ref q_16])), (q_1, .inl (ca_2, 100, .inl (fun _ => 0))), (q_3, .inr (7, [.int 3, .int 0, .ref bW_6, .ref bA_7, .ref bE_8, .ref bC_9, .int 0, .null, .int 0, .int 0, .int 0])), (q_10, .inl (ca_11, 8, .inr (.inr (.inr (.inr (fun _ => none)))))), (q_12, .inl (ca_13, 6, .inl (fun _ => 0))), (q_14, .inl (ca_15, 12, .inl (fun _ => 0))), (q_16, .inl (ca_17, 6, .inl (fun _ => 0)))]) [0, 1, 2, 3, 4, 5, 6] rfl
  have hD9 := hD.sub (ws' := [(a0, .inr (10, [.ref q_1, .int 0, .ref q_3, .int 0, .long 0, .int 0, .int 0, .ref q_10, .int 0, .ref q_12, .int 0, .ref q_14, .int 0, .ref q_16])), (q_1, .inl (ca_2, 100, .inl (fun _ => 0))), (q_3, .inr (7, [.int 3, .int 0, .ref bW_6, .ref bA_7, .ref bE_8, .ref bC_9, .int 0, .null, .int 0, .int 0, .int 0])), (q_10, .inl (ca_11, 8, .inr (.inr (.inr (.inr (fun _ => none)))))), (q_12, .inl (ca_13, 6, .inl (fun _ => 0))), (q_14, .inl (ca_15, 12, .inl (fun _ => 0))), (q_16, .inl (ca_17, 6, .inl (fun _ => 0)))]) [0, 1, 2, 3, 4, 5, 6] (by decide) rfl
  have hK9 := hK.sub (tys' := [(ca_2, .int), (ca_11, .object "MistHeaps$Heap"), (ca_13, .int), (ca_15, .int), (ca_17, .int)]) [0, 1, 2, 3, 4] rfl
  exact W.vret hx hb hr (fun tQ htQ hWQ => ⟨⟨(), rfl, trivial, q_1, ca_2, q_3, bW_6, bA_7, bE_8, bC_9, q_10, ca_11, q_12, ca_13, q_14, ca_15, q_16, ca_17, by rw [htQ]; exact hP9, va_K.moved hWQ.alike hK9, hD9⟩, hS.F htQ⟩) hS.2.2 dX8_init_56
