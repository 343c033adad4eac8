theorem dX3_init_0 : decode cX3_init 0 = .ok (.aload_n 0, 1) := by decide +kernel
theorem dX3_init_1 : decode cX3_init 1 = .ok (.invokespecial 3, 3) := by decide +kernel
theorem dX3_init_4 : decode cX3_init 4 = .ok (.aload_n 0, 1) := by decide +kernel
theorem dX3_init_5 : decode cX3_init 5 = .ok (.iload_n 1, 1) := by decide +kernel
theorem dX3_init_6 : decode cX3_init 6 = .ok (.putfield 9, 3) := by decide +kernel
theorem dX3_init_9 : decode cX3_init 9 = .ok (.aload_n 0, 1) := by decide +kernel
theorem dX3_init_10 : decode cX3_init 10 = .ok (.iload_n 2, 1) := by decide +kernel
theorem dX3_init_11 : decode cX3_init 11 = .ok (.putfield 15, 3) := by decide +kernel
theorem dX3_init_14 : decode cX3_init 14 = .ok (.aload_n 0, 1) := by decide +kernel
theorem dX3_init_15 : decode cX3_init 15 = .ok (.iload_n 3, 1) := by decide +kernel
theorem dX3_init_16 : decode cX3_init 16 = .ok (.putfield 18, 3) := by decide +kernel
theorem dX3_init_19 : decode cX3_init 19 = .ok (.aload_n 0, 1) := by decide +kernel
theorem dX3_init_20 : decode cX3_init 20 = .ok (.iload 4, 2) := by decide +kernel
theorem dX3_init_22 : decode cX3_init 22 = .ok (.putfield 21, 3) := by decide +kernel
theorem dX3_init_25 : decode cX3_init 25 = .ok (.return_, 1) := by decide +kernel
theorem dX4_init_0 : decode cX4_init 0 = .ok (.aload_n 0, 1) := by decide +kernel
theorem dX4_init_1 : decode cX4_init 1 = .ok (.iload_n 1, 1) := by decide +kernel
theorem dX4_init_2 : decode cX4_init 2 = .ok (.iload_n 2, 1) := by decide +kernel
theorem dX4_init_3 : decode cX4_init 3 = .ok (.iload_n 3, 1) := by decide +kernel
theorem dX4_init_4 : decode cX4_init 4 = .ok (.iload 4, 2) := by decide +kernel
set_option maxRecDepth 20000 in
theorem ggX4_init_X3_init : GoodIn wsX4_init wsX3_init := goodIn_r _ [4, 5, 6, 7, 8, 9, 10, 11, 12, 13, 14, 15, 16, 17, 18, 19, 20, 21, 22, 23, 24, 25, 26, 27, 28, 29, 30, 31, 32, 33, 34, 35, 36, 37, 38, 39] (by decide +kernel) (by decide +kernel)
theorem dX4_init_6 : decode cX4_init 6 = .ok (.invokespecial 1, 3) := by decide +kernel
theorem dX4_init_9 : decode cX4_init 9 = .ok (.return_, 1) := by decide +kernel
theorem dX6_init_0 : decode cX6_init 0 = .ok (.aload_n 0, 1) := by decide +kernel
theorem dX6_init_1 : decode cX6_init 1 = .ok (.iload_n 1, 1) := by decide +kernel
theorem dX6_init_2 : decode cX6_init 2 = .ok (.iload_n 2, 1) := by decide +kernel
theorem dX6_init_3 : decode cX6_init 3 = .ok (.iload_n 3, 1) := by decide +kernel
theorem dX6_init_4 : decode cX6_init 4 = .ok (.iload 4, 2) := by decide +kernel
set_option maxRecDepth 20000 in
theorem ggX6_init_X3_init : GoodIn wsX6_init wsX3_init := goodIn_r _ [4, 5, 6, 7, 8, 9, 10, 11, 12, 13, 14, 15, 16, 17, 18, 19, 20, 21, 22, 23, 24, 25, 26, 27, 28, 29, 30, 31, 32, 33, 34, 35, 36, 37, 38, 39] (by decide +kernel) (by decide +kernel)
theorem dX6_init_6 : decode cX6_init 6 = .ok (.invokespecial 1, 3) := by decide +kernel
theorem dX6_init_9 : decode cX6_init 9 = .ok (.return_, 1) := by decide +kernel
theorem dX1_init_0 : decode cX1_init 0 = .ok (.aload_n 0, 1) := by decide +kernel
theorem dX1_init_1 : decode cX1_init 1 = .ok (.iload_n 1, 1) := by decide +kernel
theorem dX1_init_2 : decode cX1_init 2 = .ok (.iload_n 2, 1) := by decide +kernel
theorem dX1_init_3 : decode cX1_init 3 = .ok (.iload_n 3, 1) := by decide +kernel
theorem dX1_init_4 : decode cX1_init 4 = .ok (.iload 4, 2) := by decide +kernel
set_option maxRecDepth 20000 in
theorem ggX1_init_X3_init : GoodIn wsX1_init wsX3_init := goodIn_r _ [4, 5, 6, 7, 8, 9, 10, 11, 12, 13, 14, 15, 16, 17, 18, 19, 20, 21, 22, 23, 24, 25, 26, 27, 28, 29, 30, 31, 32, 33, 34, 35, 36, 37, 38, 39] (by decide +kernel) (by decide +kernel)
theorem dX1_init_6 : decode cX1_init 6 = .ok (.invokespecial 1, 3) := by decide +kernel
theorem dX1_init_9 : decode cX1_init 9 = .ok (.return_, 1) := by decide +kernel
theorem dX10_init_0 : decode cX10_init 0 = .ok (.aload_n 0, 1) := by decide +kernel
theorem dX10_init_1 : decode cX10_init 1 = .ok (.iload_n 1, 1) := by decide +kernel
theorem dX10_init_2 : decode cX10_init 2 = .ok (.iload_n 2, 1) := by decide +kernel
theorem dX10_init_3 : decode cX10_init 3 = .ok (.iload_n 3, 1) := by decide +kernel
theorem dX10_init_4 : decode cX10_init 4 = .ok (.iload 4, 2) := by decide +kernel
set_option maxRecDepth 20000 in
theorem ggX10_init_X4_init : GoodIn wsX10_init wsX4_init := goodIn_r _ [4, 5, 6, 7, 8, 9, 10, 11, 12, 13, 14, 15, 16, 17, 18, 19, 20, 21, 22, 23, 24, 25, 26, 27, 28, 29, 30, 31, 32, 33, 34, 35, 36, 37, 38, 39, 40, 41, 42, 43] (by decide +kernel) (by decide +kernel)
theorem dX10_init_6 : decode cX10_init 6 = .ok (.invokespecial 3, 3) := by decide +kernel
theorem dX10_init_9 : decode cX10_init 9 = .ok (.return_, 1) := by decide +kernel
theorem dX9_init_0 : decode cX9_init 0 = .ok (.aload_n 0, 1) := by decide +kernel
theorem dX9_init_1 : decode cX9_init 1 = .ok (.iload_n 1, 1) := by decide +kernel
theorem dX9_init_2 : decode cX9_init 2 = .ok (.iload_n 2, 1) := by decide +kernel
theorem dX9_init_3 : decode cX9_init 3 = .ok (.iload_n 3, 1) := by decide +kernel
theorem dX9_init_4 : decode cX9_init 4 = .ok (.iload 4, 2) := by decide +kernel
set_option maxRecDepth 20000 in
theorem ggX9_init_X6_init : GoodIn wsX9_init wsX6_init := goodIn_r _ [4, 5, 6, 7, 8, 9, 10, 11, 12, 13, 14, 15, 16, 17, 18, 19, 20, 21, 22, 23, 24, 25, 26, 27, 28, 29, 30, 31, 32, 33, 34, 35, 36, 37, 38, 39, 40, 41, 42, 43] (by decide +kernel) (by decide +kernel)
theorem dX9_init_6 : decode cX9_init 6 = .ok (.invokespecial 1, 3) := by decide +kernel
theorem dX9_init_9 : decode cX9_init 9 = .ok (.return_, 1) := by decide +kernel
theorem dX7_init_0 : decode cX7_init 0 = .ok (.aload_n 0, 1) := by decide +kernel
theorem dX7_init_1 : decode cX7_init 1 = .ok (.iload_n 1, 1) := by decide +kernel
theorem dX7_init_2 : decode cX7_init 2 = .ok (.iload_n 2, 1) := by decide +kernel
theorem dX7_init_3 : decode cX7_init 3 = .ok (.iload_n 3, 1) := by decide +kernel
theorem dX7_init_4 : decode cX7_init 4 = .ok (.iload 4, 2) := by decide +kernel
set_option maxRecDepth 20000 in
theorem ggX7_init_X1_init : GoodIn wsX7_init wsX1_init := goodIn_r _ [4, 5, 6, 7, 8, 9, 10, 11, 12, 13, 14, 15, 16, 17, 18, 19, 20, 21, 22, 23, 24, 25, 26, 27, 28, 29, 30, 31, 32, 33, 34, 35, 36, 37, 38, 39, 40, 41, 42, 43] (by decide +kernel) (by decide +kernel)
theorem dX7_init_6 : decode cX7_init 6 = .ok (.invokespecial 1, 3) := by decide +kernel
theorem dX7_init_9 : decode cX7_init 9 = .ok (.return_, 1) := by decide +kernel
theorem kc_h3_X3_0 : (.methodLink RX3 3 objectInit : Cond) ∈ wsX3_init := by decide +kernel
theorem kc_h3_X3_1 : (.instanceMethod objectInit : Cond) ∈ wsX3_init := by decide +kernel
theorem kc_h3_X3_2 : (.code objectInit ⟨#[0xb1]⟩ 1 none : Cond) ∈ wsX3_init := by decide +kernel
theorem kc_h3_X3_3 : ∀ w ∈ wsX30, w ∈ wsX3_init := by decide +kernel
theorem kc_h3_X3_4 : (.fieldLink RX3 9 "MistHeaps$Heap" "kind" "I" : Cond) ∈ wsX3_init := by decide +kernel
theorem kc_h3_X3_5 : (.fieldLink RX3 15 "MistHeaps$Heap" "number" "I" : Cond) ∈ wsX3_init := by decide +kernel
theorem kc_h3_X3_6 : (.fieldLink RX3 18 "MistHeaps$Heap" "v" "I" : Cond) ∈ wsX3_init := by decide +kernel
theorem kc_h3_X3_7 : (.fieldLink RX3 21 "MistHeaps$Heap" "cell" "I" : Cond) ∈ wsX3_init := by decide +kernel
set_option maxHeartbeats 4000000 in
set_option maxRecDepth 100000 in
theorem c_h3_X3 (l : Launch) (dC : Nat → ClassId) (dI : Nat → Nat → Nat) (a0 : Nat) (x y z u0 : Int32) (sz : Nat) : Met l yX3_init wsX3_init ({ frames := 1, cells := 0, slots := 0, locals := 12 } : Room) (va_Pc [.ref a0, .int x, .int y, .int z, .int u0] (fun U => U.heap.size = sz ∧ va_P (dC, dI) vwCl [(a0, .inr (5, [.int 0, .int 0, .int 0, .int 0]))] U.heap ∧ va_K (dC, dI) vwCl [] U ∧ va_D (fun _ => True) [(a0, .inr (5, [.int 0, .int 0, .int 0, .int 0]))])) (va_Qv (fun (u : Unit) => match u with | () => True) (fun (u : Unit) (t : State) => match u with | () => va_P (dC, dI) vwCl [(a0, .inr (5, [.int x, .int y, .int z, .int u0]))] t.heap ∧ va_K (dC, dI) vwCl [] t ∧ va_D (va_A [(a0, .inr (5, [.int 0, .int 0, .int 0, .int 0]))] sz) [(a0, .inr (5, [.int x, .int y, .int z, .int u0]))]) (va_A [(a0, .inr (5, [.int 0, .int 0, .int 0, .int 0]))] sz)) 0 0 (va_A [(a0, .inr (5, [.int 0, .int 0, .int 0, .int 0]))] sz) := by
  refine met_ofQ (cc := cX3_init) (maxL := 5) (ret := none) (by decide) rfl ?_
  intro p e s m args below meth c s₁ Q B hml hv hQ
  obtain ⟨rfl, hsz, hP, hK, hD0⟩ := hv
  have hx := B.exec
  have hb := B.bytes
  have hr := B.returns
  have hts := atoms_spec (ws := wsX3_init) B.pre
  have hown : s.vm.findClass RX3 = some m.cls := findClass_of_methodNamed B.named
  have hlocks := B.notSynchronized
  have hin : meth.name = "<init>" := (name_of_methodNamed B.named B.method).1
  subst hsz
  have hD := hD0.self (sz := s.heap.size)
  generalize hAe : va_A [(a0, .inr (5, [.int 0, .int 0, .int 0, .int 0]))] s.heap.size = A at hD hQ ⊢
  have hA : ∀ q : Nat, s.heap.size ≤ q → A q := fun q h => by rw [← hAe]; exact Or.inr h
  have hS : va_S A s.heap s.heap [] := va_S.rf
  have hl := lv_entry [.ref a0, .int x, .int y, .int z, .int u0] (n := 5) (Nat.le_of_ble_eq_true rfl)
  rw [lg_entry_eq]
  generalize (lg_sl [.ref a0, .int x, .int y, .int z, .int u0] ++ List.replicate (5 - (lg_sl [.ref a0, .int x, .int y, .int z, .int u0]).length) Slot.unset).toArray = ls at hl ⊢
  generalize hag : ([.ref a0, .int x, .int y, .int z, .int u0] : List Value).toArray = args at hts hQ ⊢
  have hl : lv_has ls 5 [(0, .ref a0), (1, .int x), (2, .int y), (3, .int z), (4, .int u0)] := hl
  obtain ⟨H, hH⟩ : ∃ H : Heap, H = s.heap := ⟨_, rfl⟩
  rw [← hH] at hP
  rw [← hH]
  have hS : va_S A s.heap H [] := by rw [hH]; exact hS
  obtain ⟨locs, hlo⟩ : ∃ L : List Loc, L = [] := ⟨_, rfl⟩
  rw [← hlo] at hS
  rw [← hlo]
  clear hH hlo
  refine lv_aload_n hx hb dX3_init_0 rfl (lv_at hl 0 rfl) ?_
  refine W.objInit hx hb hown (hts (.methodLink RX3 3 objectInit) kc_h3_X3_0) (hts (.instanceMethod objectInit) kc_h3_X3_1) (hts (.code objectInit ⟨#[0xb1]⟩ 1 none) kc_h3_X3_2) rfl (by rw [hml]; exact hl.1) rfl dX3_init_1 (Nat.le_of_ble_eq_true rfl) (Nat.le_of_ble_eq_true rfl) ?_
  refine W.eq (g2 := F0 m 4 ls []) rfl ?_
  refine lv_aload_n hx hb dX3_init_4 rfl (lv_at hl 0 rfl) ?_
  refine lv_iload_n hx hb dX3_init_5 rfl (lv_at hl 1 rfl) ?_
  refine va_putF (D := (dC, dI)) (ci := 5) (v := .int x) (ty := .int) (C := RX3) (T := TX3) (N := 4) hx hb hts kc_h3_X3_3 tyX3 tyX3_ok nmX3 hown hK hP hD hS 0 rfl rfl 0 (by decide) (hts (.fieldLink RX3 9 "MistHeaps$Heap" "kind" "I") kc_h3_X3_4) (fun _ h9 => h9) rfl hin rfl (by decide +kernel) rfl rfl (Nat.le_of_ble_eq_true rfl) dX3_init_6 (fun H locs hP hD hS => ?_)
  have hP : va_P (dC, dI) vwCl [(a0, .inr (5, [.int x, .int 0, .int 0, .int 0]))] H := hP
  have hD : va_D A [(a0, .inr (5, [.int x, .int 0, .int 0, .int 0]))] := hD
  refine lv_aload_n hx hb dX3_init_9 rfl (lv_at hl 0 rfl) ?_
  refine lv_iload_n hx hb dX3_init_10 rfl (lv_at hl 2 rfl) ?_
  refine va_put (D := (dC, dI)) (ci := 5) (v := .int y) (ty := .int) (C := RX3) (T := TX3) (N := 4) hx hb hts kc_h3_X3_3 tyX3 tyX3_ok nmX3 hown hK hP hD hS 0 rfl rfl 1 (by decide) (hts (.fieldLink RX3 15 "MistHeaps$Heap" "number" "I") kc_h3_X3_5) (fun _ h9 => h9) rfl (by decide +kernel) rfl rfl (Nat.le_of_ble_eq_true rfl) dX3_init_11 (fun H locs hP hD hS => ?_)
  have hP : va_P (dC, dI) vwCl [(a0, .inr (5, [.int x, .int y, .int 0, .int 0]))] H := hP
  have hD : va_D A [(a0, .inr (5, [.int x, .int y, .int 0, .int 0]))] := hD
  refine lv_aload_n hx hb dX3_init_14 rfl (lv_at hl 0 rfl) ?_
  refine lv_iload_n hx hb dX3_init_15 rfl (lv_at hl 3 rfl) ?_
  refine va_putF (D := (dC, dI)) (ci := 5) (v := .int z) (ty := .int) (C := RX3) (T := TX3) (N := 4) hx hb hts kc_h3_X3_3 tyX3 tyX3_ok nmX3 hown hK hP hD hS 0 rfl rfl 2 (by decide) (hts (.fieldLink RX3 18 "MistHeaps$Heap" "v" "I") kc_h3_X3_6) (fun _ h9 => h9) rfl hin rfl (by decide +kernel) rfl rfl (Nat.le_of_ble_eq_true rfl) dX3_init_16 (fun H locs hP hD hS => ?_)
  have hP : va_P (dC, dI) vwCl [(a0, .inr (5, [.int x, .int y, .int z, .int 0]))] H := hP
  have hD : va_D A [(a0, .inr (5, [.int x, .int y, .int z, .int 0]))] := hD
  refine lv_aload_n hx hb dX3_init_19 rfl (lv_at hl 0 rfl) ?_
  refine lv_iload hx hb dX3_init_20 (lv_at hl 4 rfl) ?_
  refine va_put (D := (dC, dI)) (ci := 5) (v := .int u0) (ty := .int) (C := RX3) (T := TX3) (N := 4) hx hb hts kc_h3_X3_3 tyX3 tyX3_ok nmX3 hown hK hP hD hS 0 rfl rfl 3 (by decide) (hts (.fieldLink RX3 21 "MistHeaps$Heap" "cell" "I") kc_h3_X3_7) (fun _ h9 => h9) rfl (by decide +kernel) rfl rfl (Nat.le_of_ble_eq_true rfl) dX3_init_22 (fun H locs hP hD hS => ?_)
  have hP : va_P (dC, dI) vwCl [(a0, .inr (5, [.int x, .int y, .int z, .int u0]))] H := hP
  have hD : va_D A [(a0, .inr (5, [.int x, .int y, .int z, .int u0]))] := hD
  rw [hQ]
  have hP9 := hP.sub (ws' := [(a0, .inr (5, [.int x, .int y, .int z, .int u0]))]) [0] rfl
  have hD9 := hD.sub (ws' := [(a0, .inr (5, [.int x, .int y, .int z, .int u0]))]) [0] (by decide) rfl
  have hK9 := hK.sub (tys' := []) [] rfl
  exact W.vret hx hb hr (fun tQ htQ hWQ => ⟨⟨(), rfl, trivial, by rw [htQ]; exact hP9, va_K.moved hWQ.alike hK9, hD9⟩, hS.F htQ⟩) hS.2.2 dX3_init_25

theorem kc_h3_X4_0 : (.methodLink RX3 3 objectInit : Cond) ∈ wsX3_init := by decide +kernel
theorem kc_h3_X4_1 : (.instanceMethod objectInit : Cond) ∈ wsX3_init := by decide +kernel
theorem kc_h3_X4_2 : (.code objectInit ⟨#[0xb1]⟩ 1 none : Cond) ∈ wsX3_init := by decide +kernel
theorem kc_h3_X4_3 : ∀ w ∈ wsX40, w ∈ wsX3_init := by decide +kernel
theorem kc_h3_X4_4 : (.fieldLink RX3 9 "MistHeaps$Heap" "kind" "I" : Cond) ∈ wsX3_init := by decide +kernel
theorem kc_h3_X4_5 : (.fieldLink RX3 15 "MistHeaps$Heap" "number" "I" : Cond) ∈ wsX3_init := by decide +kernel
theorem kc_h3_X4_6 : (.fieldLink RX3 18 "MistHeaps$Heap" "v" "I" : Cond) ∈ wsX3_init := by decide +kernel
theorem kc_h3_X4_7 : (.fieldLink RX3 21 "MistHeaps$Heap" "cell" "I" : Cond) ∈ wsX3_init := by decide +kernel
set_option maxHeartbeats 4000000 in
set_option maxRecDepth 100000 in
theorem c_h3_X4 (l : Launch) (dC : Nat → ClassId) (dI : Nat → Nat → Nat) (a0 : Nat) (x y z u0 : Int32) (sz : Nat) : Met l yX3_init wsX3_init ({ frames := 1, cells := 0, slots := 0, locals := 12 } : Room) (va_Pc [.ref a0, .int x, .int y, .int z, .int u0] (fun U => U.heap.size = sz ∧ va_P (dC, dI) vwCl [(a0, .inr (6, [.int 0, .int 0, .int 0, .int 0]))] U.heap ∧ va_K (dC, dI) vwCl [] U ∧ va_D (fun _ => True) [(a0, .inr (6, [.int 0, .int 0, .int 0, .int 0]))])) (va_Qv (fun (u : Unit) => match u with | () => True) (fun (u : Unit) (t : State) => match u with | () => va_P (dC, dI) vwCl [(a0, .inr (6, [.int x, .int y, .int z, .int u0]))] t.heap ∧ va_K (dC, dI) vwCl [] t ∧ va_D (va_A [(a0, .inr (6, [.int 0, .int 0, .int 0, .int 0]))] sz) [(a0, .inr (6, [.int x, .int y, .int z, .int u0]))]) (va_A [(a0, .inr (6, [.int 0, .int 0, .int 0, .int 0]))] sz)) 0 0 (va_A [(a0, .inr (6, [.int 0, .int 0, .int 0, .int 0]))] sz) := by
  refine met_ofQ (cc := cX3_init) (maxL := 5) (ret := none) (by decide) rfl ?_
  intro p e s m args below meth c s₁ Q B hml hv hQ
  obtain ⟨rfl, hsz, hP, hK, hD0⟩ := hv
  have hx := B.exec
  have hb := B.bytes
  have hr := B.returns
  have hts := atoms_spec (ws := wsX3_init) B.pre
  have hown : s.vm.findClass RX3 = some m.cls := findClass_of_methodNamed B.named
  have hlocks := B.notSynchronized
  have hin : meth.name = "<init>" := (name_of_methodNamed B.named B.method).1
  subst hsz
  have hD := hD0.self (sz := s.heap.size)
  generalize hAe : va_A [(a0, .inr (6, [.int 0, .int 0, .int 0, .int 0]))] s.heap.size = A at hD hQ ⊢
  have hA : ∀ q : Nat, s.heap.size ≤ q → A q := fun q h => by rw [← hAe]; exact Or.inr h
  have hS : va_S A s.heap s.heap [] := va_S.rf
  have hl := lv_entry [.ref a0, .int x, .int y, .int z, .int u0] (n := 5) (Nat.le_of_ble_eq_true rfl)
  rw [lg_entry_eq]
  generalize (lg_sl [.ref a0, .int x, .int y, .int z, .int u0] ++ List.replicate (5 - (lg_sl [.ref a0, .int x, .int y, .int z, .int u0]).length) Slot.unset).toArray = ls at hl ⊢
  generalize hag : ([.ref a0, .int x, .int y, .int z, .int u0] : List Value).toArray = args at hts hQ ⊢
  have hl : lv_has ls 5 [(0, .ref a0), (1, .int x), (2, .int y), (3, .int z), (4, .int u0)] := hl
  obtain ⟨H, hH⟩ : ∃ H : Heap, H = s.heap := ⟨_, rfl⟩
  rw [← hH] at hP
  rw [← hH]
  have hS : va_S A s.heap H [] := by rw [hH]; exact hS
  obtain ⟨locs, hlo⟩ : ∃ L : List Loc, L = [] := ⟨_, rfl⟩
  rw [← hlo] at hS
  rw [← hlo]
  clear hH hlo
  refine lv_aload_n hx hb dX3_init_0 rfl (lv_at hl 0 rfl) ?_
  refine W.objInit hx hb hown (hts (.methodLink RX3 3 objectInit) kc_h3_X4_0) (hts (.instanceMethod objectInit) kc_h3_X4_1) (hts (.code objectInit ⟨#[0xb1]⟩ 1 none) kc_h3_X4_2) rfl (by rw [hml]; exact hl.1) rfl dX3_init_1 (Nat.le_of_ble_eq_true rfl) (Nat.le_of_ble_eq_true rfl) ?_
  refine W.eq (g2 := F0 m 4 ls []) rfl ?_
  refine lv_aload_n hx hb dX3_init_4 rfl (lv_at hl 0 rfl) ?_
  refine lv_iload_n hx hb dX3_init_5 rfl (lv_at hl 1 rfl) ?_
  refine va_putF (D := (dC, dI)) (ci := 6) (v := .int x) (ty := .int) (C := RX4) (T := TX4) (N := 4) hx hb hts kc_h3_X4_3 tyX4 tyX4_ok nmX4 hown hK hP hD hS 0 rfl rfl 0 (by decide) (hts (.fieldLink RX3 9 "MistHeaps$Heap" "kind" "I") kc_h3_X4_4) (fun _ h9 => h9) rfl hin rfl (by decide +kernel) rfl rfl (Nat.le_of_ble_eq_true rfl) dX3_init_6 (fun H locs hP hD hS => ?_)
  have hP : va_P (dC, dI) vwCl [(a0, .inr (6, [.int x, .int 0, .int 0, .int 0]))] H := hP
  have hD : va_D A [(a0, .inr (6, [.int x, .int 0, .int 0, .int 0]))] := hD
  refine lv_aload_n hx hb dX3_init_9 rfl (lv_at hl 0 rfl) ?_
  refine lv_iload_n hx hb dX3_init_10 rfl (lv_at hl 2 rfl) ?_
  refine va_put (D := (dC, dI)) (ci := 6) (v := .int y) (ty := .int) (C := RX4) (T := TX4) (N := 4) hx hb hts kc_h3_X4_3 tyX4 tyX4_ok nmX4 hown hK hP hD hS 0 rfl rfl 1 (by decide) (hts (.fieldLink RX3 15 "MistHeaps$Heap" "number" "I") kc_h3_X4_5) (fun _ h9 => h9) rfl (by decide +kernel) rfl rfl (Nat.le_of_ble_eq_true rfl) dX3_init_11 (fun H locs hP hD hS => ?_)
  have hP : va_P (dC, dI) vwCl [(a0, .inr (6, [.int x, .int y, .int 0, .int 0]))] H := hP
  have hD : va_D A [(a0, .inr (6, [.int x, .int y, .int 0, .int 0]))] := hD
  refine lv_aload_n hx hb dX3_init_14 rfl (lv_at hl 0 rfl) ?_
  refine lv_iload_n hx hb dX3_init_15 rfl (lv_at hl 3 rfl) ?_
  refine va_putF (D := (dC, dI)) (ci := 6) (v := .int z) (ty := .int) (C := RX4) (T := TX4) (N := 4) hx hb hts kc_h3_X4_3 tyX4 tyX4_ok nmX4 hown hK hP hD hS 0 rfl rfl 2 (by decide) (hts (.fieldLink RX3 18 "MistHeaps$Heap" "v" "I") kc_h3_X4_6) (fun _ h9 => h9) rfl hin rfl (by decide +kernel) rfl rfl (Nat.le_of_ble_eq_true rfl) dX3_init_16 (fun H locs hP hD hS => ?_)
  have hP : va_P (dC, dI) vwCl [(a0, .inr (6, [.int x, .int y, .int z, .int 0]))] H := hP
  have hD : va_D A [(a0, .inr (6, [.int x, .int y, .int z, .int 0]))] := hD
  refine lv_aload_n hx hb dX3_init_19 rfl (lv_at hl 0 rfl) ?_
  refine lv_iload hx hb dX3_init_20 (lv_at hl 4 rfl) ?_
  refine va_put (D := (dC, dI)) (ci := 6) (v := .int u0) (ty := .int) (C := RX4) (T := TX4) (N := 4) hx hb hts kc_h3_X4_3 tyX4 tyX4_ok nmX4 hown hK hP hD hS 0 rfl rfl 3 (by decide) (hts (.fieldLink RX3 21 "MistHeaps$Heap" "cell" "I") kc_h3_X4_7) (fun _ h9 => h9) rfl (by decide +kernel) rfl rfl (Nat.le_of_ble_eq_true rfl) dX3_init_22 (fun H locs hP hD hS => ?_)
  have hP : va_P (dC, dI) vwCl [(a0, .inr (6, [.int x, .int y, .int z, .int u0]))] H := hP
  have hD : va_D A [(a0, .inr (6, [.int x, .int y, .int z, .int u0]))] := hD
  rw [hQ]
  have hP9 := hP.sub (ws' := [(a0, .inr (6, [.int x, .int y, .int z, .int u0]))]) [0] rfl
  have hD9 := hD.sub (ws' := [(a0, .inr (6, [.int x, .int y, .int z, .int u0]))]) [0] (by decide) rfl
  have hK9 := hK.sub (tys' := []) [] rfl
  exact W.vret hx hb hr (fun tQ htQ hWQ => ⟨⟨(), rfl, trivial, by rw [htQ]; exact hP9, va_K.moved hWQ.alike hK9, hD9⟩, hS.F htQ⟩) hS.2.2 dX3_init_25

theorem kc_h3_X6_0 : (.methodLink RX3 3 objectInit : Cond) ∈ wsX3_init := by decide +kernel
theorem kc_h3_X6_1 : (.instanceMethod objectInit : Cond) ∈ wsX3_init := by decide +kernel
theorem kc_h3_X6_2 : (.code objectInit ⟨#[0xb1]⟩ 1 none : Cond) ∈ wsX3_init := by decide +kernel
theorem kc_h3_X6_3 : ∀ w ∈ wsX60, w ∈ wsX3_init := by decide +kernel
theorem kc_h3_X6_4 : (.fieldLink RX3 9 "MistHeaps$Heap" "kind" "I" : Cond) ∈ wsX3_init := by decide +kernel
theorem kc_h3_X6_5 : (.fieldLink RX3 15 "MistHeaps$Heap" "number" "I" : Cond) ∈ wsX3_init := by decide +kernel
theorem kc_h3_X6_6 : (.fieldLink RX3 18 "MistHeaps$Heap" "v" "I" : Cond) ∈ wsX3_init := by decide +kernel
theorem kc_h3_X6_7 : (.fieldLink RX3 21 "MistHeaps$Heap" "cell" "I" : Cond) ∈ wsX3_init := by decide +kernel
set_option maxHeartbeats 4000000 in
set_option maxRecDepth 100000 in
theorem c_h3_X6 (l : Launch) (dC : Nat → ClassId) (dI : Nat → Nat → Nat) (a0 : Nat) (x y z u0 : Int32) (sz : Nat) : Met l yX3_init wsX3_init ({ frames := 1, cells := 0, slots := 0, locals := 12 } : Room) (va_Pc [.ref a0, .int x, .int y, .int z, .int u0] (fun U => U.heap.size = sz ∧ va_P (dC, dI) vwCl [(a0, .inr (8, [.int 0, .int 0, .int 0, .int 0]))] U.heap ∧ va_K (dC, dI) vwCl [] U ∧ va_D (fun _ => True) [(a0, .inr (8, [.int 0, .int 0, .int 0, .int 0]))])) (va_Qv (fun (u : Unit) => match u with | () => True) (fun (u : Unit) (t : State) => match u with | () => va_P (dC, dI) vwCl [(a0, .inr (8, [.int x, .int y, .int z, .int u0]))] t.heap ∧ va_K (dC, dI) vwCl [] t ∧ va_D (va_A [(a0, .inr (8, [.int 0, .int 0, .int 0, .int 0]))] sz) [(a0, .inr (8, [.int x, .int y, .int z, .int u0]))]) (va_A [(a0, .inr (8, [.int 0, .int 0, .int 0, .int 0]))] sz)) 0 0 (va_A [(a0, .inr (8, [.int 0, .int 0, .int 0, .int 0]))] sz) := by
  refine met_ofQ (cc := cX3_init) (maxL := 5) (ret := none) (by decide) rfl ?_
  intro p e s m args below meth c s₁ Q B hml hv hQ
  obtain ⟨rfl, hsz, hP, hK, hD0⟩ := hv
  have hx := B.exec
  have hb := B.bytes
  have hr := B.returns
  have hts := atoms_spec (ws := wsX3_init) B.pre
  have hown : s.vm.findClass RX3 = some m.cls := findClass_of_methodNamed B.named
  have hlocks := B.notSynchronized
  have hin : meth.name = "<init>" := (name_of_methodNamed B.named B.method).1
  subst hsz
  have hD := hD0.self (sz := s.heap.size)
  generalize hAe : va_A [(a0, .inr (8, [.int 0, .int 0, .int 0, .int 0]))] s.heap.size = A at hD hQ ⊢
  have hA : ∀ q : Nat, s.heap.size ≤ q → A q := fun q h => by rw [← hAe]; exact Or.inr h
  have hS : va_S A s.heap s.heap [] := va_S.rf
  have hl := lv_entry [.ref a0, .int x, .int y, .int z, .int u0] (n := 5) (Nat.le_of_ble_eq_true rfl)
  rw [lg_entry_eq]
  generalize (lg_sl [.ref a0, .int x, .int y, .int z, .int u0] ++ List.replicate (5 - (lg_sl [.ref a0, .int x, .int y, .int z, .int u0]).length) Slot.unset).toArray = ls at hl ⊢
  generalize hag : ([.ref a0, .int x, .int y, .int z, .int u0] : List Value).toArray = args at hts hQ ⊢
  have hl : lv_has ls 5 [(0, .ref a0), (1, .int x), (2, .int y), (3, .int z), (4, .int u0)] := hl
  obtain ⟨H, hH⟩ : ∃ H : Heap, H = s.heap := ⟨_, rfl⟩
  rw [← hH] at hP
  rw [← hH]
  have hS : va_S A s.heap H [] := by rw [hH]; exact hS
  obtain ⟨locs, hlo⟩ : ∃ L : List Loc, L = [] := ⟨_, rfl⟩
  rw [← hlo] at hS
  rw [← hlo]
  clear hH hlo
  refine lv_aload_n hx hb dX3_init_0 rfl (lv_at hl 0 rfl) ?_
  refine W.objInit hx hb hown (hts (.methodLink RX3 3 objectInit) kc_h3_X6_0) (hts (.instanceMethod objectInit) kc_h3_X6_1) (hts (.code objectInit ⟨#[0xb1]⟩ 1 none) kc_h3_X6_2) rfl (by rw [hml]; exact hl.1) rfl dX3_init_1 (Nat.le_of_ble_eq_true rfl) (Nat.le_of_ble_eq_true rfl) ?_
  refine W.eq (g2 := F0 m 4 ls []) rfl ?_
  refine lv_aload_n hx hb dX3_init_4 rfl (lv_at hl 0 rfl) ?_
  refine lv_iload_n hx hb dX3_init_5 rfl (lv_at hl 1 rfl) ?_
  refine va_putF (D := (dC, dI)) (ci := 8) (v := .int x) (ty := .int) (C := RX6) (T := TX6) (N := 4) hx hb hts kc_h3_X6_3 tyX6 tyX6_ok nmX6 hown hK hP hD hS 0 rfl rfl 0 (by decide) (hts (.fieldLink RX3 9 "MistHeaps$Heap" "kind" "I") kc_h3_X6_4) (fun _ h9 => h9) rfl hin rfl (by decide +kernel) rfl rfl (Nat.le_of_ble_eq_true rfl) dX3_init_6 (fun H locs hP hD hS => ?_)
  have hP : va_P (dC, dI) vwCl [(a0, .inr (8, [.int x, .int 0, .int 0, .int 0]))] H := hP
  have hD : va_D A [(a0, .inr (8, [.int x, .int 0, .int 0, .int 0]))] := hD
  refine lv_aload_n hx hb dX3_init_9 rfl (lv_at hl 0 rfl) ?_
  refine lv_iload_n hx hb dX3_init_10 rfl (lv_at hl 2 rfl) ?_
  refine va_put (D := (dC, dI)) (ci := 8) (v := .int y) (ty := .int) (C := RX6) (T := TX6) (N := 4) hx hb hts kc_h3_X6_3 tyX6 tyX6_ok nmX6 hown hK hP hD hS 0 rfl rfl 1 (by decide) (hts (.fieldLink RX3 15 "MistHeaps$Heap" "number" "I") kc_h3_X6_5) (fun _ h9 => h9) rfl (by decide +kernel) rfl rfl (Nat.le_of_ble_eq_true rfl) dX3_init_11 (fun H locs hP hD hS => ?_)
  have hP : va_P (dC, dI) vwCl [(a0, .inr (8, [.int x, .int y, .int 0, .int 0]))] H := hP
  have hD : va_D A [(a0, .inr (8, [.int x, .int y, .int 0, .int 0]))] := hD
  refine lv_aload_n hx hb dX3_init_14 rfl (lv_at hl 0 rfl) ?_
  refine lv_iload_n hx hb dX3_init_15 rfl (lv_at hl 3 rfl) ?_
  refine va_putF (D := (dC, dI)) (ci := 8) (v := .int z) (ty := .int) (C := RX6) (T := TX6) (N := 4) hx hb hts kc_h3_X6_3 tyX6 tyX6_ok nmX6 hown hK hP hD hS 0 rfl rfl 2 (by decide) (hts (.fieldLink RX3 18 "MistHeaps$Heap" "v" "I") kc_h3_X6_6) (fun _ h9 => h9) rfl hin rfl (by decide +kernel) rfl rfl (Nat.le_of_ble_eq_true rfl) dX3_init_16 (fun H locs hP hD hS => ?_)
  have hP : va_P (dC, dI) vwCl [(a0, .inr (8, [.int x, .int y, .int z, .int 0]))] H := hP
  have hD : va_D A [(a0, .inr (8, [.int x, .int y, .int z, .int 0]))] := hD
  refine lv_aload_n hx hb dX3_init_19 rfl (lv_at hl 0 rfl) ?_
  refine lv_iload hx hb dX3_init_20 (lv_at hl 4 rfl) ?_
  refine va_put (D := (dC, dI)) (ci := 8) (v := .int u0) (ty := .int) (C := RX6) (T := TX6) (N := 4) hx hb hts kc_h3_X6_3 tyX6 tyX6_ok nmX6 hown hK hP hD hS 0 rfl rfl 3 (by decide) (hts (.fieldLink RX3 21 "MistHeaps$Heap" "cell" "I") kc_h3_X6_7) (fun _ h9 => h9) rfl (by decide +kernel) rfl rfl (Nat.le_of_ble_eq_true rfl) dX3_init_22 (fun H locs hP hD hS => ?_)
  have hP : va_P (dC, dI) vwCl [(a0, .inr (8, [.int x, .int y, .int z, .int u0]))] H := hP
  have hD : va_D A [(a0, .inr (8, [.int x, .int y, .int z, .int u0]))] := hD
  rw [hQ]
  have hP9 := hP.sub (ws' := [(a0, .inr (8, [.int x, .int y, .int z, .int u0]))]) [0] rfl
  have hD9 := hD.sub (ws' := [(a0, .inr (8, [.int x, .int y, .int z, .int u0]))]) [0] (by decide) rfl
  have hK9 := hK.sub (tys' := []) [] rfl
  exact W.vret hx hb hr (fun tQ htQ hWQ => ⟨⟨(), rfl, trivial, by rw [htQ]; exact hP9, va_K.moved hWQ.alike hK9, hD9⟩, hS.F htQ⟩) hS.2.2 dX3_init_25

theorem kc_h3_X1_0 : (.methodLink RX3 3 objectInit : Cond) ∈ wsX3_init := by decide +kernel
theorem kc_h3_X1_1 : (.instanceMethod objectInit : Cond) ∈ wsX3_init := by decide +kernel
theorem kc_h3_X1_2 : (.code objectInit ⟨#[0xb1]⟩ 1 none : Cond) ∈ wsX3_init := by decide +kernel
theorem kc_h3_X1_3 : ∀ w ∈ wsX10, w ∈ wsX3_init := by decide +kernel
theorem kc_h3_X1_4 : (.fieldLink RX3 9 "MistHeaps$Heap" "kind" "I" : Cond) ∈ wsX3_init := by decide +kernel
theorem kc_h3_X1_5 : (.fieldLink RX3 15 "MistHeaps$Heap" "number" "I" : Cond) ∈ wsX3_init := by decide +kernel
theorem kc_h3_X1_6 : (.fieldLink RX3 18 "MistHeaps$Heap" "v" "I" : Cond) ∈ wsX3_init := by decide +kernel
theorem kc_h3_X1_7 : (.fieldLink RX3 21 "MistHeaps$Heap" "cell" "I" : Cond) ∈ wsX3_init := by decide +kernel
set_option maxHeartbeats 4000000 in
set_option maxRecDepth 100000 in
theorem c_h3_X1 (l : Launch) (dC : Nat → ClassId) (dI : Nat → Nat → Nat) (a0 : Nat) (x y z u0 : Int32) (sz : Nat) : Met l yX3_init wsX3_init ({ frames := 1, cells := 0, slots := 0, locals := 12 } : Room) (va_Pc [.ref a0, .int x, .int y, .int z, .int u0] (fun U => U.heap.size = sz ∧ va_P (dC, dI) vwCl [(a0, .inr (3, [.int 0, .int 0, .int 0, .int 0]))] U.heap ∧ va_K (dC, dI) vwCl [] U ∧ va_D (fun _ => True) [(a0, .inr (3, [.int 0, .int 0, .int 0, .int 0]))])) (va_Qv (fun (u : Unit) => match u with | () => True) (fun (u : Unit) (t : State) => match u with | () => va_P (dC, dI) vwCl [(a0, .inr (3, [.int x, .int y, .int z, .int u0]))] t.heap ∧ va_K (dC, dI) vwCl [] t ∧ va_D (va_A [(a0, .inr (3, [.int 0, .int 0, .int 0, .int 0]))] sz) [(a0, .inr (3, [.int x, .int y, .int z, .int u0]))]) (va_A [(a0, .inr (3, [.int 0, .int 0, .int 0, .int 0]))] sz)) 0 0 (va_A [(a0, .inr (3, [.int 0, .int 0, .int 0, .int 0]))] sz) := by
  refine met_ofQ (cc := cX3_init) (maxL := 5) (ret := none) (by decide) rfl ?_
  intro p e s m args below meth c s₁ Q B hml hv hQ
  obtain ⟨rfl, hsz, hP, hK, hD0⟩ := hv
  have hx := B.exec
  have hb := B.bytes
  have hr := B.returns
  have hts := atoms_spec (ws := wsX3_init) B.pre
  have hown : s.vm.findClass RX3 = some m.cls := findClass_of_methodNamed B.named
  have hlocks := B.notSynchronized
  have hin : meth.name = "<init>" := (name_of_methodNamed B.named B.method).1
  subst hsz
  have hD := hD0.self (sz := s.heap.size)
  generalize hAe : va_A [(a0, .inr (3, [.int 0, .int 0, .int 0, .int 0]))] s.heap.size = A at hD hQ ⊢
  have hA : ∀ q : Nat, s.heap.size ≤ q → A q := fun q h => by rw [← hAe]; exact Or.inr h
  have hS : va_S A s.heap s.heap [] := va_S.rf
  have hl := lv_entry [.ref a0, .int x, .int y, .int z, .int u0] (n := 5) (Nat.le_of_ble_eq_true rfl)
  rw [lg_entry_eq]
  generalize (lg_sl [.ref a0, .int x, .int y, .int z, .int u0] ++ List.replicate (5 - (lg_sl [.ref a0, .int x, .int y, .int z, .int u0]).length) Slot.unset).toArray = ls at hl ⊢
  generalize hag : ([.ref a0, .int x, .int y, .int z, .int u0] : List Value).toArray = args at hts hQ ⊢
  have hl : lv_has ls 5 [(0, .ref a0), (1, .int x), (2, .int y), (3, .int z), (4, .int u0)] := hl
  obtain ⟨H, hH⟩ : ∃ H : Heap, H = s.heap := ⟨_, rfl⟩
  rw [← hH] at hP
  rw [← hH]
  have hS : va_S A s.heap H [] := by rw [hH]; exact hS
  obtain ⟨locs, hlo⟩ : ∃ L : List Loc, L = [] := ⟨_, rfl⟩
  rw [← hlo] at hS
  rw [← hlo]
  clear hH hlo
  refine lv_aload_n hx hb dX3_init_0 rfl (lv_at hl 0 rfl) ?_
  refine W.objInit hx hb hown (hts (.methodLink RX3 3 objectInit) kc_h3_X1_0) (hts (.instanceMethod objectInit) kc_h3_X1_1) (hts (.code objectInit ⟨#[0xb1]⟩ 1 none) kc_h3_X1_2) rfl (by rw [hml]; exact hl.1) rfl dX3_init_1 (Nat.le_of_ble_eq_true rfl) (Nat.le_of_ble_eq_true rfl) ?_
  refine W.eq (g2 := F0 m 4 ls []) rfl ?_
  refine lv_aload_n hx hb dX3_init_4 rfl (lv_at hl 0 rfl) ?_
  refine lv_iload_n hx hb dX3_init_5 rfl (lv_at hl 1 rfl) ?_
  refine va_putF (D := (dC, dI)) (ci := 3) (v := .int x) (ty := .int) (C := RX1) (T := TX1) (N := 4) hx hb hts kc_h3_X1_3 tyX1 tyX1_ok nmX1 hown hK hP hD hS 0 rfl rfl 0 (by decide) (hts (.fieldLink RX3 9 "MistHeaps$Heap" "kind" "I") kc_h3_X1_4) (fun _ h9 => h9) rfl hin rfl (by decide +kernel) rfl rfl (Nat.le_of_ble_eq_true rfl) dX3_init_6 (fun H locs hP hD hS => ?_)
  have hP : va_P (dC, dI) vwCl [(a0, .inr (3, [.int x, .int 0, .int 0, .int 0]))] H := hP
  have hD : va_D A [(a0, .inr (3, [.int x, .int 0, .int 0, .int 0]))] := hD
  refine lv_aload_n hx hb dX3_init_9 rfl (lv_at hl 0 rfl) ?_
  refine lv_iload_n hx hb dX3_init_10 rfl (lv_at hl 2 rfl) ?_
  refine va_put (D := (dC, dI)) (ci := 3) (v := .int y) (ty := .int) (C := RX1) (T := TX1) (N := 4) hx hb hts kc_h3_X1_3 tyX1 tyX1_ok nmX1 hown hK hP hD hS 0 rfl rfl 1 (by decide) (hts (.fieldLink RX3 15 "MistHeaps$Heap" "number" "I") kc_h3_X1_5) (fun _ h9 => h9) rfl (by decide +kernel) rfl rfl (Nat.le_of_ble_eq_true rfl) dX3_init_11 (fun H locs hP hD hS => ?_)
  have hP : va_P (dC, dI) vwCl [(a0, .inr (3, [.int x, .int y, .int 0, .int 0]))] H := hP
  have hD : va_D A [(a0, .inr (3, [.int x, .int y, .int 0, .int 0]))] := hD
  refine lv_aload_n hx hb dX3_init_14 rfl (lv_at hl 0 rfl) ?_
  refine lv_iload_n hx hb dX3_init_15 rfl (lv_at hl 3 rfl) ?_
  refine va_putF (D := (dC, dI)) (ci := 3) (v := .int z) (ty := .int) (C := RX1) (T := TX1) (N := 4) hx hb hts kc_h3_X1_3 tyX1 tyX1_ok nmX1 hown hK hP hD hS 0 rfl rfl 2 (by decide) (hts (.fieldLink RX3 18 "MistHeaps$Heap" "v" "I") kc_h3_X1_6) (fun _ h9 => h9) rfl hin rfl (by decide +kernel) rfl rfl (Nat.le_of_ble_eq_true rfl) dX3_init_16 (fun H locs hP hD hS => ?_)
  have hP : va_P (dC, dI) vwCl [(a0, .inr (3, [.int x, .int y, .int z, .int 0]))] H := hP
  have hD : va_D A [(a0, .inr (3, [.int x, .int y, .int z, .int 0]))] := hD
  refine lv_aload_n hx hb dX3_init_19 rfl (lv_at hl 0 rfl) ?_
  refine lv_iload hx hb dX3_init_20 (lv_at hl 4 rfl) ?_
  refine va_put (D := (dC, dI)) (ci := 3) (v := .int u0) (ty := .int) (C := RX1) (T := TX1) (N := 4) hx hb hts kc_h3_X1_3 tyX1 tyX1_ok nmX1 hown hK hP hD hS 0 rfl rfl 3 (by decide) (hts (.fieldLink RX3 21 "MistHeaps$Heap" "cell" "I") kc_h3_X1_7) (fun _ h9 => h9) rfl (by decide +kernel) rfl rfl (Nat.le_of_ble_eq_true rfl) dX3_init_22 (fun H locs hP hD hS => ?_)
  have hP : va_P (dC, dI) vwCl [(a0, .inr (3, [.int x, .int y, .int z, .int u0]))] H := hP
  have hD : va_D A [(a0, .inr (3, [.int x, .int y, .int z, .int u0]))] := hD
  rw [hQ]
  have hP9 := hP.sub (ws' := [(a0, .inr (3, [.int x, .int y, .int z, .int u0]))]) [0] rfl
  have hD9 := hD.sub (ws' := [(a0, .inr (3, [.int x, .int y, .int z, .int u0]))]) [0] (by decide) rfl
  have hK9 := hK.sub (tys' := []) [] rfl
  exact W.vret hx hb hr (fun tQ htQ hWQ => ⟨⟨(), rfl, trivial, by rw [htQ]; exact hP9, va_K.moved hWQ.alike hK9, hD9⟩, hS.F htQ⟩) hS.2.2 dX3_init_25

theorem kc_h3_X10_0 : (.methodLink RX3 3 objectInit : Cond) ∈ wsX3_init := by decide +kernel
theorem kc_h3_X10_1 : (.instanceMethod objectInit : Cond) ∈ wsX3_init := by decide +kernel
theorem kc_h3_X10_2 : (.code objectInit ⟨#[0xb1]⟩ 1 none : Cond) ∈ wsX3_init := by decide +kernel
theorem kc_h3_X10_3 : ∀ w ∈ wsX100, w ∈ wsX3_init := by decide +kernel
theorem kc_h3_X10_4 : (.fieldLink RX3 9 "MistHeaps$Heap" "kind" "I" : Cond) ∈ wsX3_init := by decide +kernel
theorem kc_h3_X10_5 : (.fieldLink RX3 15 "MistHeaps$Heap" "number" "I" : Cond) ∈ wsX3_init := by decide +kernel
theorem kc_h3_X10_6 : (.fieldLink RX3 18 "MistHeaps$Heap" "v" "I" : Cond) ∈ wsX3_init := by decide +kernel
theorem kc_h3_X10_7 : (.fieldLink RX3 21 "MistHeaps$Heap" "cell" "I" : Cond) ∈ wsX3_init := by decide +kernel
set_option maxHeartbeats 4000000 in
set_option maxRecDepth 100000 in
theorem c_h3_X10 (l : Launch) (dC : Nat → ClassId) (dI : Nat → Nat → Nat) (a0 : Nat) (x y z u0 : Int32) (sz : Nat) : Met l yX3_init wsX3_init ({ frames := 1, cells := 0, slots := 0, locals := 12 } : Room) (va_Pc [.ref a0, .int x, .int y, .int z, .int u0] (fun U => U.heap.size = sz ∧ va_P (dC, dI) vwCl [(a0, .inr (12, [.int 0, .int 0, .int 0, .int 0]))] U.heap ∧ va_K (dC, dI) vwCl [] U ∧ va_D (fun _ => True) [(a0, .inr (12, [.int 0, .int 0, .int 0, .int 0]))])) (va_Qv (fun (u : Unit) => match u with | () => True) (fun (u : Unit) (t : State) => match u with | () => va_P (dC, dI) vwCl [(a0, .inr (12, [.int x, .int y, .int z, .int u0]))] t.heap ∧ va_K (dC, dI) vwCl [] t ∧ va_D (va_A [(a0, .inr (12, [.int 0, .int 0, .int 0, .int 0]))] sz) [(a0, .inr (12, [.int x, .int y, .int z, .int u0]))]) (va_A [(a0, .inr (12, [.int 0, .int 0, .int 0, .int 0]))] sz)) 0 0 (va_A [(a0, .inr (12, [.int 0, .int 0, .int 0, .int 0]))] sz) := by
  refine met_ofQ (cc := cX3_init) (maxL := 5) (ret := none) (by decide) rfl ?_
  intro p e s m args below meth c s₁ Q B hml hv hQ
  obtain ⟨rfl, hsz, hP, hK, hD0⟩ := hv
  have hx := B.exec
  have hb := B.bytes
  have hr := B.returns
  have hts := atoms_spec (ws := wsX3_init) B.pre
  have hown : s.vm.findClass RX3 = some m.cls := findClass_of_methodNamed B.named
  have hlocks := B.notSynchronized
  have hin : meth.name = "<init>" := (name_of_methodNamed B.named B.method).1
  subst hsz
  have hD := hD0.self (sz := s.heap.size)
  generalize hAe : va_A [(a0, .inr (12, [.int 0, .int 0, .int 0, .int 0]))] s.heap.size = A at hD hQ ⊢
  have hA : ∀ q : Nat, s.heap.size ≤ q → A q := fun q h => by rw [← hAe]; exact Or.inr h
  have hS : va_S A s.heap s.heap [] := va_S.rf
  have hl := lv_entry [.ref a0, .int x, .int y, .int z, .int u0] (n := 5) (Nat.le_of_ble_eq_true rfl)
  rw [lg_entry_eq]
  generalize (lg_sl [.ref a0, .int x, .int y, .int z, .int u0] ++ List.replicate (5 - (lg_sl [.ref a0, .int x, .int y, .int z, .int u0]).length) Slot.unset).toArray = ls at hl ⊢
  generalize hag : ([.ref a0, .int x, .int y, .int z, .int u0] : List Value).toArray = args at hts hQ ⊢
  have hl : lv_has ls 5 [(0, .ref a0), (1, .int x), (2, .int y), (3, .int z), (4, .int u0)] := hl
  obtain ⟨H, hH⟩ : ∃ H : Heap, H = s.heap := ⟨_, rfl⟩
  rw [← hH] at hP
  rw [← hH]
  have hS : va_S A s.heap H [] := by rw [hH]; exact hS
  obtain ⟨locs, hlo⟩ : ∃ L : List Loc, L = [] := ⟨_, rfl⟩
  rw [← hlo] at hS
  rw [← hlo]
  clear hH hlo
  refine lv_aload_n hx hb dX3_init_0 rfl (lv_at hl 0 rfl) ?_
  refine W.objInit hx hb hown (hts (.methodLink RX3 3 objectInit) kc_h3_X10_0) (hts (.instanceMethod objectInit) kc_h3_X10_1) (hts (.code objectInit ⟨#[0xb1]⟩ 1 none) kc_h3_X10_2) rfl (by rw [hml]; exact hl.1) rfl dX3_init_1 (Nat.le_of_ble_eq_true rfl) (Nat.le_of_ble_eq_true rfl) ?_
  refine W.eq (g2 := F0 m 4 ls []) rfl ?_
  refine lv_aload_n hx hb dX3_init_4 rfl (lv_at hl 0 rfl) ?_
  refine lv_iload_n hx hb dX3_init_5 rfl (lv_at hl 1 rfl) ?_
  refine va_putF (D := (dC, dI)) (ci := 12) (v := .int x) (ty := .int) (C := RX10) (T := TX10) (N := 4) hx hb hts kc_h3_X10_3 tyX10 tyX10_ok nmX10 hown hK hP hD hS 0 rfl rfl 0 (by decide) (hts (.fieldLink RX3 9 "MistHeaps$Heap" "kind" "I") kc_h3_X10_4) (fun _ h9 => h9) rfl hin rfl (by decide +kernel) rfl rfl (Nat.le_of_ble_eq_true rfl) dX3_init_6 (fun H locs hP hD hS => ?_)
  have hP : va_P (dC, dI) vwCl [(a0, .inr (12, [.int x, .int 0, .int 0, .int 0]))] H := hP
  have hD : va_D A [(a0, .inr (12, [.int x, .int 0, .int 0, .int 0]))] := hD
  refine lv_aload_n hx hb dX3_init_9 rfl (lv_at hl 0 rfl) ?_
  refine lv_iload_n hx hb dX3_init_10 rfl (lv_at hl 2 rfl) ?_
  refine va_put (D := (dC, dI)) (ci := 12) (v := .int y) (ty := .int) (C := RX10) (T := TX10) (N := 4) hx hb hts kc_h3_X10_3 tyX10 tyX10_ok nmX10 hown hK hP hD hS 0 rfl rfl 1 (by decide) (hts (.fieldLink RX3 15 "MistHeaps$Heap" "number" "I") kc_h3_X10_5) (fun _ h9 => h9) rfl (by decide +kernel) rfl rfl (Nat.le_of_ble_eq_true rfl) dX3_init_11 (fun H locs hP hD hS => ?_)
  have hP : va_P (dC, dI) vwCl [(a0, .inr (12, [.int x, .int y, .int 0, .int 0]))] H := hP
  have hD : va_D A [(a0, .inr (12, [.int x, .int y, .int 0, .int 0]))] := hD
  refine lv_aload_n hx hb dX3_init_14 rfl (lv_at hl 0 rfl) ?_
  refine lv_iload_n hx hb dX3_init_15 rfl (lv_at hl 3 rfl) ?_
  refine va_putF (D := (dC, dI)) (ci := 12) (v := .int z) (ty := .int) (C := RX10) (T := TX10) (N := 4) hx hb hts kc_h3_X10_3 tyX10 tyX10_ok nmX10 hown hK hP hD hS 0 rfl rfl 2 (by decide) (hts (.fieldLink RX3 18 "MistHeaps$Heap" "v" "I") kc_h3_X10_6) (fun _ h9 => h9) rfl hin rfl (by decide +kernel) rfl rfl (Nat.le_of_ble_eq_true rfl) dX3_init_16 (fun H locs hP hD hS => ?_)
  have hP : va_P (dC, dI) vwCl [(a0, .inr (12, [.int x, .int y, .int z, .int 0]))] H := hP
  have hD : va_D A [(a0, .inr (12, [.int x, .int y, .int z, .int 0]))] := hD
  refine lv_aload_n hx hb dX3_init_19 rfl (lv_at hl 0 rfl) ?_
  refine lv_iload hx hb dX3_init_20 (lv_at hl 4 rfl) ?_
  refine va_put (D := (dC, dI)) (ci := 12) (v := .int u0) (ty := .int) (C := RX10) (T := TX10) (N := 4) hx hb hts kc_h3_X10_3 tyX10 tyX10_ok nmX10 hown hK hP hD hS 0 rfl rfl 3 (by decide) (hts (.fieldLink RX3 21 "MistHeaps$Heap" "cell" "I") kc_h3_X10_7) (fun _ h9 => h9) rfl (by decide +kernel) rfl rfl (Nat.le_of_ble_eq_true rfl) dX3_init_22 (fun H locs hP hD hS => ?_)
  have hP : va_P (dC, dI) vwCl [(a0, .inr (12, [.int x, .int y, .int z, .int u0]))] H := hP
  have hD : va_D A [(a0, .inr (12, [.int x, .int y, .int z, .int u0]))] := hD
  rw [hQ]
  have hP9 := hP.sub (ws' := [(a0, .inr (12, [.int x, .int y, .int z, .int u0]))]) [0] rfl
  have hD9 := hD.sub (ws' := [(a0, .inr (12, [.int x, .int y, .int z, .int u0]))]) [0] (by decide) rfl
  have hK9 := hK.sub (tys' := []) [] rfl
  exact W.vret hx hb hr (fun tQ htQ hWQ => ⟨⟨(), rfl, trivial, by rw [htQ]; exact hP9, va_K.moved hWQ.alike hK9, hD9⟩, hS.F htQ⟩) hS.2.2 dX3_init_25

theorem kc_h3_X9_0 : (.methodLink RX3 3 objectInit : Cond) ∈ wsX3_init := by decide +kernel
theorem kc_h3_X9_1 : (.instanceMethod objectInit : Cond) ∈ wsX3_init := by decide +kernel
theorem kc_h3_X9_2 : (.code objectInit ⟨#[0xb1]⟩ 1 none : Cond) ∈ wsX3_init := by decide +kernel
theorem kc_h3_X9_3 : ∀ w ∈ wsX90, w ∈ wsX3_init := by decide +kernel
theorem kc_h3_X9_4 : (.fieldLink RX3 9 "MistHeaps$Heap" "kind" "I" : Cond) ∈ wsX3_init := by decide +kernel
theorem kc_h3_X9_5 : (.fieldLink RX3 15 "MistHeaps$Heap" "number" "I" : Cond) ∈ wsX3_init := by decide +kernel
theorem kc_h3_X9_6 : (.fieldLink RX3 18 "MistHeaps$Heap" "v" "I" : Cond) ∈ wsX3_init := by decide +kernel
theorem kc_h3_X9_7 : (.fieldLink RX3 21 "MistHeaps$Heap" "cell" "I" : Cond) ∈ wsX3_init := by decide +kernel
set_option maxHeartbeats 4000000 in
set_option maxRecDepth 100000 in
theorem c_h3_X9 (l : Launch) (dC : Nat → ClassId) (dI : Nat → Nat → Nat) (a0 : Nat) (x y z u0 : Int32) (sz : Nat) : Met l yX3_init wsX3_init ({ frames := 1, cells := 0, slots := 0, locals := 12 } : Room) (va_Pc [.ref a0, .int x, .int y, .int z, .int u0] (fun U => U.heap.size = sz ∧ va_P (dC, dI) vwCl [(a0, .inr (11, [.int 0, .int 0, .int 0, .int 0]))] U.heap ∧ va_K (dC, dI) vwCl [] U ∧ va_D (fun _ => True) [(a0, .inr (11, [.int 0, .int 0, .int 0, .int 0]))])) (va_Qv (fun (u : Unit) => match u with | () => True) (fun (u : Unit) (t : State) => match u with | () => va_P (dC, dI) vwCl [(a0, .inr (11, [.int x, .int y, .int z, .int u0]))] t.heap ∧ va_K (dC, dI) vwCl [] t ∧ va_D (va_A [(a0, .inr (11, [.int 0, .int 0, .int 0, .int 0]))] sz) [(a0, .inr (11, [.int x, .int y, .int z, .int u0]))]) (va_A [(a0, .inr (11, [.int 0, .int 0, .int 0, .int 0]))] sz)) 0 0 (va_A [(a0, .inr (11, [.int 0, .int 0, .int 0, .int 0]))] sz) := by
  refine met_ofQ (cc := cX3_init) (maxL := 5) (ret := none) (by decide) rfl ?_
  intro p e s m args below meth c s₁ Q B hml hv hQ
  obtain ⟨rfl, hsz, hP, hK, hD0⟩ := hv
  have hx := B.exec
  have hb := B.bytes
  have hr := B.returns
  have hts := atoms_spec (ws := wsX3_init) B.pre
  have hown : s.vm.findClass RX3 = some m.cls := findClass_of_methodNamed B.named
  have hlocks := B.notSynchronized
  have hin : meth.name = "<init>" := (name_of_methodNamed B.named B.method).1
  subst hsz
  have hD := hD0.self (sz := s.heap.size)
  generalize hAe : va_A [(a0, .inr (11, [.int 0, .int 0, .int 0, .int 0]))] s.heap.size = A at hD hQ ⊢
  have hA : ∀ q : Nat, s.heap.size ≤ q → A q := fun q h => by rw [← hAe]; exact Or.inr h
  have hS : va_S A s.heap s.heap [] := va_S.rf
  have hl := lv_entry [.ref a0, .int x, .int y, .int z, .int u0] (n := 5) (Nat.le_of_ble_eq_true rfl)
  rw [lg_entry_eq]
  generalize (lg_sl [.ref a0, .int x, .int y, .int z, .int u0] ++ List.replicate (5 - (lg_sl [.ref a0, .int x, .int y, .int z, .int u0]).length) Slot.unset).toArray = ls at hl ⊢
  generalize hag : ([.ref a0, .int x, .int y, .int z, .int u0] : List Value).toArray = args at hts hQ ⊢
  have hl : lv_has ls 5 [(0, .ref a0), (1, .int x), (2, .int y), (3, .int z), (4, .int u0)] := hl
  obtain ⟨H, hH⟩ : ∃ H : Heap, H = s.heap := ⟨_, rfl⟩
  rw [← hH] at hP
  rw [← hH]
  have hS : va_S A s.heap H [] := by rw [hH]; exact hS
  obtain ⟨locs, hlo⟩ : ∃ L : List Loc, L = [] := ⟨_, rfl⟩
  rw [← hlo] at hS
  rw [← hlo]
  clear hH hlo
  refine lv_aload_n hx hb dX3_init_0 rfl (lv_at hl 0 rfl) ?_
  refine W.objInit hx hb hown (hts (.methodLink RX3 3 objectInit) kc_h3_X9_0) (hts (.instanceMethod objectInit) kc_h3_X9_1) (hts (.code objectInit ⟨#[0xb1]⟩ 1 none) kc_h3_X9_2) rfl (by rw [hml]; exact hl.1) rfl dX3_init_1 (Nat.le_of_ble_eq_true rfl) (Nat.le_of_ble_eq_true rfl) ?_
  refine W.eq (g2 := F0 m 4 ls []) rfl ?_
  refine lv_aload_n hx hb dX3_init_4 rfl (lv_at hl 0 rfl) ?_
  refine lv_iload_n hx hb dX3_init_5 rfl (lv_at hl 1 rfl) ?_
  refine va_putF (D := (dC, dI)) (ci := 11) (v := .int x) (ty := .int) (C := RX9) (T := TX9) (N := 4) hx hb hts kc_h3_X9_3 tyX9 tyX9_ok nmX9 hown hK hP hD hS 0 rfl rfl 0 (by decide) (hts (.fieldLink RX3 9 "MistHeaps$Heap" "kind" "I") kc_h3_X9_4) (fun _ h9 => h9) rfl hin rfl (by decide +kernel) rfl rfl (Nat.le_of_ble_eq_true rfl) dX3_init_6 (fun H locs hP hD hS => ?_)
  have hP : va_P (dC, dI) vwCl [(a0, .inr (11, [.int x, .int 0, .int 0, .int 0]))] H := hP
  have hD : va_D A [(a0, .inr (11, [.int x, .int 0, .int 0, .int 0]))] := hD
  refine lv_aload_n hx hb dX3_init_9 rfl (lv_at hl 0 rfl) ?_
  refine lv_iload_n hx hb dX3_init_10 rfl (lv_at hl 2 rfl) ?_
  refine va_put (D := (dC, dI)) (ci := 11) (v := .int y) (ty := .int) (C := RX9) (T := TX9) (N := 4) hx hb hts kc_h3_X9_3 tyX9 tyX9_ok nmX9 hown hK hP hD hS 0 rfl rfl 1 (by decide) (hts (.fieldLink RX3 15 "MistHeaps$Heap" "number" "I") kc_h3_X9_5) (fun _ h9 => h9) rfl (by decide +kernel) rfl rfl (Nat.le_of_ble_eq_true rfl) dX3_init_11 (fun H locs hP hD hS => ?_)
  have hP : va_P (dC, dI) vwCl [(a0, .inr (11, [.int x, .int y, .int 0, .int 0]))] H := hP
  have hD : va_D A [(a0, .inr (11, [.int x, .int y, .int 0, .int 0]))] := hD
  refine lv_aload_n hx hb dX3_init_14 rfl (lv_at hl 0 rfl) ?_
  refine lv_iload_n hx hb dX3_init_15 rfl (lv_at hl 3 rfl) ?_
  refine va_putF (D := (dC, dI)) (ci := 11) (v := .int z) (ty := .int) (C := RX9) (T := TX9) (N := 4) hx hb hts kc_h3_X9_3 tyX9 tyX9_ok nmX9 hown hK hP hD hS 0 rfl rfl 2 (by decide) (hts (.fieldLink RX3 18 "MistHeaps$Heap" "v" "I") kc_h3_X9_6) (fun _ h9 => h9) rfl hin rfl (by decide +kernel) rfl rfl (Nat.le_of_ble_eq_true rfl) dX3_init_16 (fun H locs hP hD hS => ?_)
  have hP : va_P (dC, dI) vwCl [(a0, .inr (11, [.int x, .int y, .int z, .int 0]))] H := hP
  have hD : va_D A [(a0, .inr (11, [.int x, .int y, .int z, .int 0]))] := hD
  refine lv_aload_n hx hb dX3_init_19 rfl (lv_at hl 0 rfl) ?_
  refine lv_iload hx hb dX3_init_20 (lv_at hl 4 rfl) ?_
  refine va_put (D := (dC, dI)) (ci := 11) (v := .int u0) (ty := .int) (C := RX9) (T := TX9) (N := 4) hx hb hts kc_h3_X9_3 tyX9 tyX9_ok nmX9 hown hK hP hD hS 0 rfl rfl 3 (by decide) (hts (.fieldLink RX3 21 "MistHeaps$Heap" "cell" "I") kc_h3_X9_7) (fun _ h9 => h9) rfl (by decide +kernel) rfl rfl (Nat.le_of_ble_eq_true rfl) dX3_init_22 (fun H locs hP hD hS => ?_)
  have hP : va_P (dC, dI) vwCl [(a0, .inr (11, [.int x, .int y, .int z, .int u0]))] H := hP
  have hD : va_D A [(a0, .inr (11, [.int x, .int y, .int z, .int u0]))] := hD
  rw [hQ]
  have hP9 := hP.sub (ws' := [(a0, .inr (11, [.int x, .int y, .int z, .int u0]))]) [0] rfl
  have hD9 := hD.sub (ws' := [(a0, .inr (11, [.int x, .int y, .int z, .int u0]))]) [0] (by decide) rfl
  have hK9 := hK.sub (tys' := []) [] rfl
  exact W.vret hx hb hr (fun tQ htQ hWQ => ⟨⟨(), rfl, trivial, by rw [htQ]; exact hP9, va_K.moved hWQ.alike hK9, hD9⟩, hS.F htQ⟩) hS.2.2 dX3_init_25

theorem kc_h3_X7_0 : (.methodLink RX3 3 objectInit : Cond) ∈ wsX3_init := by decide +kernel
theorem kc_h3_X7_1 : (.instanceMethod objectInit : Cond) ∈ wsX3_init := by decide +kernel
theorem kc_h3_X7_2 : (.code objectInit ⟨#[0xb1]⟩ 1 none : Cond) ∈ wsX3_init := by decide +kernel
theorem kc_h3_X7_3 : ∀ w ∈ wsX70, w ∈ wsX3_init := by decide +kernel
theorem kc_h3_X7_4 : (.fieldLink RX3 9 "MistHeaps$Heap" "kind" "I" : Cond) ∈ wsX3_init := by decide +kernel
theorem kc_h3_X7_5 : (.fieldLink RX3 15 "MistHeaps$Heap" "number" "I" : Cond) ∈ wsX3_init := by decide +kernel
theorem kc_h3_X7_6 : (.fieldLink RX3 18 "MistHeaps$Heap" "v" "I" : Cond) ∈ wsX3_init := by decide +kernel
theorem kc_h3_X7_7 : (.fieldLink RX3 21 "MistHeaps$Heap" "cell" "I" : Cond) ∈ wsX3_init := by decide +kernel
set_option maxHeartbeats 4000000 in
set_option maxRecDepth 100000 in
theorem c_h3_X7 (l : Launch) (dC : Nat → ClassId) (dI : Nat → Nat → Nat) (a0 : Nat) (x y z u0 : Int32) (sz : Nat) : Met l yX3_init wsX3_init ({ frames := 1, cells := 0, slots := 0, locals := 12 } : Room) (va_Pc [.ref a0, .int x, .int y, .int z, .int u0] (fun U => U.heap.size = sz ∧ va_P (dC, dI) vwCl [(a0, .inr (9, [.int 0, .int 0, .int 0, .int 0]))] U.heap ∧ va_K (dC, dI) vwCl [] U ∧ va_D (fun _ => True) [(a0, .inr (9, [.int 0, .int 0, .int 0, .int 0]))])) (va_Qv (fun (u : Unit) => match u with | () => True) (fun (u : Unit) (t : State) => match u with | () => va_P (dC, dI) vwCl [(a0, .inr (9, [.int x, .int y, .int z, .int u0]))] t.heap ∧ va_K (dC, dI) vwCl [] t ∧ va_D (va_A [(a0, .inr (9, [.int 0, .int 0, .int 0, .int 0]))] sz) [(a0, .inr (9, [.int x, .int y, .int z, .int u0]))]) (va_A [(a0, .inr (9, [.int 0, .int 0, .int 0, .int 0]))] sz)) 0 0 (va_A [(a0, .inr (9, [.int 0, .int 0, .int 0, .int 0]))] sz) := by
  refine met_ofQ (cc := cX3_init) (maxL := 5) (ret := none) (by decide) rfl ?_
  intro p e s m args below meth c s₁ Q B hml hv hQ
  obtain ⟨rfl, hsz, hP, hK, hD0⟩ := hv
  have hx := B.exec
  have hb := B.bytes
  have hr := B.returns
  have hts := atoms_spec (ws := wsX3_init) B.pre
  have hown : s.vm.findClass RX3 = some m.cls := findClass_of_methodNamed B.named
  have hlocks := B.notSynchronized
  have hin : meth.name = "<init>" := (name_of_methodNamed B.named B.method).1
  subst hsz
  have hD := hD0.self (sz := s.heap.size)
  generalize hAe : va_A [(a0, .inr (9, [.int 0, .int 0, .int 0, .int 0]))] s.heap.size = A at hD hQ ⊢
  have hA : ∀ q : Nat, s.heap.size ≤ q → A q := fun q h => by rw [← hAe]; exact Or.inr h
  have hS : va_S A s.heap s.heap [] := va_S.rf
  have hl := lv_entry [.ref a0, .int x, .int y, .int z, .int u0] (n := 5) (Nat.le_of_ble_eq_true rfl)
  rw [lg_entry_eq]
  generalize (lg_sl [.ref a0, .int x, .int y, .int z, .int u0] ++ List.replicate (5 - (lg_sl [.ref a0, .int x, .int y, .int z, .int u0]).length) Slot.unset).toArray = ls at hl ⊢
  generalize hag : ([.ref a0, .int x, .int y, .int z, .int u0] : List Value).toArray = args at hts hQ ⊢
  have hl : lv_has ls 5 [(0, .ref a0), (1, .int x), (2, .int y), (3, .int z), (4, .int u0)] := hl
  obtain ⟨H, hH⟩ : ∃ H : Heap, H = s.heap := ⟨_, rfl⟩
  rw [← hH] at hP
  rw [← hH]
  have hS : va_S A s.heap H [] := by rw [hH]; exact hS
  obtain ⟨locs, hlo⟩ : ∃ L : List Loc, L = [] := ⟨_, rfl⟩
  rw [← hlo] at hS
  rw [← hlo]
  clear hH hlo
  refine lv_aload_n hx hb dX3_init_0 rfl (lv_at hl 0 rfl) ?_
  refine W.objInit hx hb hown (hts (.methodLink RX3 3 objectInit) kc_h3_X7_0) (hts (.instanceMethod objectInit) kc_h3_X7_1) (hts (.code objectInit ⟨#[0xb1]⟩ 1 none) kc_h3_X7_2) rfl (by rw [hml]; exact hl.1) rfl dX3_init_1 (Nat.le_of_ble_eq_true rfl) (Nat.le_of_ble_eq_true rfl) ?_
  refine W.eq (g2 := F0 m 4 ls []) rfl ?_
  refine lv_aload_n hx hb dX3_init_4 rfl (lv_at hl 0 rfl) ?_
  refine lv_iload_n hx hb dX3_init_5 rfl (lv_at hl 1 rfl) ?_
  refine va_putF (D := (dC, dI)) (ci := 9) (v := .int x) (ty := .int) (C := RX7) (T := TX7) (N := 4) hx hb hts kc_h3_X7_3 tyX7 tyX7_ok nmX7 hown hK hP hD hS 0 rfl rfl 0 (by decide) (hts (.fieldLink RX3 9 "MistHeaps$Heap" "kind" "I") kc_h3_X7_4) (fun _ h9 => h9) rfl hin rfl (by decide +kernel) rfl rfl (Nat.le_of_ble_eq_true rfl) dX3_init_6 (fun H locs hP hD hS => ?_)
  have hP : va_P (dC, dI) vwCl [(a0, .inr (9, [.int x, .int 0, .int 0, .int 0]))] H := hP
  have hD : va_D A [(a0, .inr (9, [.int x, .int 0, .int 0, .int 0]))] := hD
  refine lv_aload_n hx hb dX3_init_9 rfl (lv_at hl 0 rfl) ?_
  refine lv_iload_n hx hb dX3_init_10 rfl (lv_at hl 2 rfl) ?_
  refine va_put (D := (dC, dI)) (ci := 9) (v := .int y) (ty := .int) (C := RX7) (T := TX7) (N := 4) hx hb hts kc_h3_X7_3 tyX7 tyX7_ok nmX7 hown hK hP hD hS 0 rfl rfl 1 (by decide) (hts (.fieldLink RX3 15 "MistHeaps$Heap" "number" "I") kc_h3_X7_5) (fun _ h9 => h9) rfl (by decide +kernel) rfl rfl (Nat.le_of_ble_eq_true rfl) dX3_init_11 (fun H locs hP hD hS => ?_)
  have hP : va_P (dC, dI) vwCl [(a0, .inr (9, [.int x, .int y, .int 0, .int 0]))] H := hP
  have hD : va_D A [(a0, .inr (9, [.int x, .int y, .int 0, .int 0]))] := hD
  refine lv_aload_n hx hb dX3_init_14 rfl (lv_at hl 0 rfl) ?_
  refine lv_iload_n hx hb dX3_init_15 rfl (lv_at hl 3 rfl) ?_
  refine va_putF (D := (dC, dI)) (ci := 9) (v := .int z) (ty := .int) (C := RX7) (T := TX7) (N := 4) hx hb hts kc_h3_X7_3 tyX7 tyX7_ok nmX7 hown hK hP hD hS 0 rfl rfl 2 (by decide) (hts (.fieldLink RX3 18 "MistHeaps$Heap" "v" "I") kc_h3_X7_6) (fun _ h9 => h9) rfl hin rfl (by decide +kernel) rfl rfl (Nat.le_of_ble_eq_true rfl) dX3_init_16 (fun H locs hP hD hS => ?_)
  have hP : va_P (dC, dI) vwCl [(a0, .inr (9, [.int x, .int y, .int z, .int 0]))] H := hP
  have hD : va_D A [(a0, .inr (9, [.int x, .int y, .int z, .int 0]))] := hD
  refine lv_aload_n hx hb dX3_init_19 rfl (lv_at hl 0 rfl) ?_
  refine lv_iload hx hb dX3_init_20 (lv_at hl 4 rfl) ?_
  refine va_put (D := (dC, dI)) (ci := 9) (v := .int u0) (ty := .int) (C := RX7) (T := TX7) (N := 4) hx hb hts kc_h3_X7_3 tyX7 tyX7_ok nmX7 hown hK hP hD hS 0 rfl rfl 3 (by decide) (hts (.fieldLink RX3 21 "MistHeaps$Heap" "cell" "I") kc_h3_X7_7) (fun _ h9 => h9) rfl (by decide +kernel) rfl rfl (Nat.le_of_ble_eq_true rfl) dX3_init_22 (fun H locs hP hD hS => ?_)
  have hP : va_P (dC, dI) vwCl [(a0, .inr (9, [.int x, .int y, .int z, .int u0]))] H := hP
  have hD : va_D A [(a0, .inr (9, [.int x, .int y, .int z, .int u0]))] := hD
  rw [hQ]
  have hP9 := hP.sub (ws' := [(a0, .inr (9, [.int x, .int y, .int z, .int u0]))]) [0] rfl
  have hD9 := hD.sub (ws' := [(a0, .inr (9, [.int x, .int y, .int z, .int u0]))]) [0] (by decide) rfl
  have hK9 := hK.sub (tys' := []) [] rfl
  exact W.vret hx hb hr (fun tQ htQ hWQ => ⟨⟨(), rfl, trivial, by rw [htQ]; exact hP9, va_K.moved hWQ.alike hK9, hD9⟩, hS.F htQ⟩) hS.2.2 dX3_init_25

theorem kc_h4_X4_0 : (.initialized RX3 : Cond) ∈ wsX4_init := by decide +kernel
theorem kc_h4_X4_1 : (.methodLink RX4 1 yX3_init : Cond) ∈ wsX4_init := by decide +kernel
theorem kc_h4_X4_2 : (.instanceMethod yX3_init : Cond) ∈ wsX4_init := by decide +kernel
set_option maxHeartbeats 4000000 in
set_option maxRecDepth 100000 in
theorem c_h4_X4 (l : Launch) (dC : Nat → ClassId) (dI : Nat → Nat → Nat) (a0 : Nat) (x y z u0 : Int32) (sz : Nat) : Met l yX4_init wsX4_init ({ frames := 2, cells := 0, slots := 0, locals := 36 } : Room) (va_Pc [.ref a0, .int x, .int y, .int z, .int u0] (fun U => U.heap.size = sz ∧ va_P (dC, dI) vwCl [(a0, .inr (6, [.int 0, .int 0, .int 0, .int 0]))] U.heap ∧ va_K (dC, dI) vwCl [] U ∧ va_D (fun _ => True) [(a0, .inr (6, [.int 0, .int 0, .int 0, .int 0]))])) (va_Qv (fun (u : Unit) => match u with | () => True) (fun (u : Unit) (t : State) => match u with | () => va_P (dC, dI) vwCl [(a0, .inr (6, [.int x, .int y, .int z, .int u0]))] t.heap ∧ va_K (dC, dI) vwCl [] t ∧ va_D (va_A [(a0, .inr (6, [.int 0, .int 0, .int 0, .int 0]))] sz) [(a0, .inr (6, [.int x, .int y, .int z, .int u0]))]) (va_A [(a0, .inr (6, [.int 0, .int 0, .int 0, .int 0]))] sz)) 0 0 (va_A [(a0, .inr (6, [.int 0, .int 0, .int 0, .int 0]))] sz) := by
  refine met_ofQ (cc := cX4_init) (maxL := 5) (ret := none) (by decide) rfl ?_
  intro p e s m args below meth c s₁ Q B hml hv hQ
  obtain ⟨rfl, hsz, hP, hK, hD0⟩ := hv
  have hx := B.exec
  have hb := B.bytes
  have hr := B.returns
  have hts := atoms_spec (ws := wsX4_init) B.pre
  have hown : s.vm.findClass RX4 = some m.cls := findClass_of_methodNamed B.named
  have hlocks := B.notSynchronized
  have hin : meth.name = "<init>" := (name_of_methodNamed B.named B.method).1
  subst hsz
  have hD := hD0.self (sz := s.heap.size)
  generalize hAe : va_A [(a0, .inr (6, [.int 0, .int 0, .int 0, .int 0]))] s.heap.size = A at hD hQ ⊢
  have hA : ∀ q : Nat, s.heap.size ≤ q → A q := fun q h => by rw [← hAe]; exact Or.inr h
  have hS : va_S A s.heap s.heap [] := va_S.rf
  have hl := lv_entry [.ref a0, .int x, .int y, .int z, .int u0] (n := 5) (Nat.le_of_ble_eq_true rfl)
  rw [lg_entry_eq]
  generalize (lg_sl [.ref a0, .int x, .int y, .int z, .int u0] ++ List.replicate (5 - (lg_sl [.ref a0, .int x, .int y, .int z, .int u0]).length) Slot.unset).toArray = ls at hl ⊢
  generalize hag : ([.ref a0, .int x, .int y, .int z, .int u0] : List Value).toArray = args at hts hQ ⊢
  have hl : lv_has ls 5 [(0, .ref a0), (1, .int x), (2, .int y), (3, .int z), (4, .int u0)] := hl
  obtain ⟨H, hH⟩ : ∃ H : Heap, H = s.heap := ⟨_, rfl⟩
  rw [← hH] at hP
  rw [← hH]
  have hS : va_S A s.heap H [] := by rw [hH]; exact hS
  obtain ⟨locs, hlo⟩ : ∃ L : List Loc, L = [] := ⟨_, rfl⟩
  rw [← hlo] at hS
  rw [← hlo]
  clear hH hlo
  refine lv_aload_n hx hb dX4_init_0 rfl (lv_at hl 0 rfl) ?_
  refine lv_iload_n hx hb dX4_init_1 rfl (lv_at hl 1 rfl) ?_
  refine lv_iload_n hx hb dX4_init_2 rfl (lv_at hl 2 rfl) ?_
  refine lv_iload_n hx hb dX4_init_3 rfl (lv_at hl 3 rfl) ?_
  refine lv_iload hx hb dX4_init_4 (lv_at hl 4 rfl) ?_
  have hPc := hP.sub (ws' := [(a0, .inr (6, [.int 0, .int 0, .int 0, .int 0]))]) [0] rfl
  have hDc := hD.sub (ws' := [(a0, .inr (6, [.int 0, .int 0, .int 0, .int 0]))]) [0] (by decide) rfl
  have hKc := hK.sub (tys' := []) [] rfl
  have hFc := va_free (wc := [(a0, .inr (6, [.int 0, .int 0, .int 0, .int 0]))]) hD hS hA [0] rfl
  refine va_callv (va_runI (As := [.int x, .int y, .int z, .int u0]) (rest := []) ⟨hx, hb, hml, hown, hts⟩ (c_h3_X4 l dC dI a0 x y z u0 H.size) (cwI 4 hts ggX4_init_X3_init rfl rfl rfl (hts (.initialized RX3) kc_h4_X4_0) (hts (.methodLink RX4 1 yX3_init) kc_h4_X4_1) (hts (.instanceMethod yX3_init) kc_h4_X4_2) rfl (by decide +kernel) ⟨Nat.le_of_ble_eq_true rfl, Nat.le_of_ble_eq_true rfl⟩) ⟨fun a U g mk q => by obtain ⟨q0, q1, qP, qK, qD⟩ := q; exact ⟨q0, q1, qP, va_K.moved (u := U) (U := U.calling g mk a) (Vm.Alike.refl U.vm) qK, qD⟩, fun U hU hW => ⟨rfl, by rw [hU], by rw [hU]; exact hPc, va_K.moved hW.alike hKc, hDc.weaken (fun _ _ _ _ => trivial)⟩⟩ rfl rfl hl.1 rfl (lv_room (Nat.le_of_ble_eq_true rfl)) dX4_init_6 ⟨Nat.le_of_ble_eq_true rfl, Nat.le_of_ble_eq_true rfl⟩) hS (fun q _ h => hFc q h) hFc (fun u tC H1 locs htC hvm hw_2 hB hz1 hk1 hS => ?_)
  obtain ⟨⟩ := u
  try dsimp only at hw_2 hB
  obtain ⟨hP1, hK1, hD1⟩ := hB
  rw [htC] at hP1
  have hK1 := va_K.moved hvm.symm hK1
  obtain ⟨hP, hD⟩ := va_join (wr := []) (w1 := [(a0, .inr (6, [.int x, .int y, .int z, .int u0]))]) hP hD [0] [] rfl rfl (by decide) (by decide) hk1 hFc hP1 hD1
  have hK := (hK.sub (tys' := []) [] rfl).app hK1
  generalize H1 = H at hP hS ⊢
  have hP : va_P (dC, dI) vwCl [(a0, .inr (6, [.int x, .int y, .int z, .int u0]))] H := hP
  have hD : va_D A [(a0, .inr (6, [.int x, .int y, .int z, .int u0]))] := hD
  have hK : va_K (dC, dI) vwCl [] s := hK
  rw [hQ]
  have hP9 := hP.sub (ws' := [(a0, .inr (6, [.int x, .int y, .int z, .int u0]))]) [0] rfl
  have hD9 := hD.sub (ws' := [(a0, .inr (6, [.int x, .int y, .int z, .int u0]))]) [0] (by decide) rfl
  have hK9 := hK.sub (tys' := []) [] rfl
  exact W.vret hx hb hr (fun tQ htQ hWQ => ⟨⟨(), rfl, trivial, by rw [htQ]; exact hP9, va_K.moved hWQ.alike hK9, hD9⟩, hS.F htQ⟩) hS.2.2 dX4_init_9

theorem kc_h4_X10_0 : (.initialized RX3 : Cond) ∈ wsX4_init := by decide +kernel
theorem kc_h4_X10_1 : (.methodLink RX4 1 yX3_init : Cond) ∈ wsX4_init := by decide +kernel
theorem kc_h4_X10_2 : (.instanceMethod yX3_init : Cond) ∈ wsX4_init := by decide +kernel
set_option maxHeartbeats 4000000 in
set_option maxRecDepth 100000 in
theorem c_h4_X10 (l : Launch) (dC : Nat → ClassId) (dI : Nat → Nat → Nat) (a0 : Nat) (x y z u0 : Int32) (sz : Nat) : Met l yX4_init wsX4_init ({ frames := 2, cells := 0, slots := 0, locals := 36 } : Room) (va_Pc [.ref a0, .int x, .int y, .int z, .int u0] (fun U => U.heap.size = sz ∧ va_P (dC, dI) vwCl [(a0, .inr (12, [.int 0, .int 0, .int 0, .int 0]))] U.heap ∧ va_K (dC, dI) vwCl [] U ∧ va_D (fun _ => True) [(a0, .inr (12, [.int 0, .int 0, .int 0, .int 0]))])) (va_Qv (fun (u : Unit) => match u with | () => True) (fun (u : Unit) (t : State) => match u with | () => va_P (dC, dI) vwCl [(a0, .inr (12, [.int x, .int y, .int z, .int u0]))] t.heap ∧ va_K (dC, dI) vwCl [] t ∧ va_D (va_A [(a0, .inr (12, [.int 0, .int 0, .int 0, .int 0]))] sz) [(a0, .inr (12, [.int x, .int y, .int z, .int u0]))]) (va_A [(a0, .inr (12, [.int 0, .int 0, .int 0, .int 0]))] sz)) 0 0 (va_A [(a0, .inr (12, [.int 0, .int 0, .int 0, .int 0]))] sz) := by
  refine met_ofQ (cc := cX4_init) (maxL := 5) (ret := none) (by decide) rfl ?_
  intro p e s m args below meth c s₁ Q B hml hv hQ
  obtain ⟨rfl, hsz, hP, hK, hD0⟩ := hv
  have hx := B.exec
  have hb := B.bytes
  have hr := B.returns
  have hts := atoms_spec (ws := wsX4_init) B.pre
  have hown : s.vm.findClass RX4 = some m.cls := findClass_of_methodNamed B.named
  have hlocks := B.notSynchronized
  have hin : meth.name = "<init>" := (name_of_methodNamed B.named B.method).1
  subst hsz
  have hD := hD0.self (sz := s.heap.size)
  generalize hAe : va_A [(a0, .inr (12, [.int 0, .int 0, .int 0, .int 0]))] s.heap.size = A at hD hQ ⊢
  have hA : ∀ q : Nat, s.heap.size ≤ q → A q := fun q h => by rw [← hAe]; exact Or.inr h
  have hS : va_S A s.heap s.heap [] := va_S.rf
  have hl := lv_entry [.ref a0, .int x, .int y, .int z, .int u0] (n := 5) (Nat.le_of_ble_eq_true rfl)
  rw [lg_entry_eq]
  generalize (lg_sl [.ref a0, .int x, .int y, .int z, .int u0] ++ List.replicate (5 - (lg_sl [.ref a0, .int x, .int y, .int z, .int u0]).length) Slot.unset).toArray = ls at hl ⊢
  generalize hag : ([.ref a0, .int x, .int y, .int z, .int u0] : List Value).toArray = args at hts hQ ⊢
  have hl : lv_has ls 5 [(0, .ref a0), (1, .int x), (2, .int y), (3, .int z), (4, .int u0)] := hl
  obtain ⟨H, hH⟩ : ∃ H : Heap, H = s.heap := ⟨_, rfl⟩
  rw [← hH] at hP
  rw [← hH]
  have hS : va_S A s.heap H [] := by rw [hH]; exact hS
  obtain ⟨locs, hlo⟩ : ∃ L : List Loc, L = [] := ⟨_, rfl⟩
  rw [← hlo] at hS
  rw [← hlo]
  clear hH hlo
  refine lv_aload_n hx hb dX4_init_0 rfl (lv_at hl 0 rfl) ?_
  refine lv_iload_n hx hb dX4_init_1 rfl (lv_at hl 1 rfl) ?_
  refine lv_iload_n hx hb dX4_init_2 rfl (lv_at hl 2 rfl) ?_
  refine lv_iload_n hx hb dX4_init_3 rfl (lv_at hl 3 rfl) ?_
  refine lv_iload hx hb dX4_init_4 (lv_at hl 4 rfl) ?_
  have hPc := hP.sub (ws' := [(a0, .inr (12, [.int 0, .int 0, .int 0, .int 0]))]) [0] rfl
  have hDc := hD.sub (ws' := [(a0, .inr (12, [.int 0, .int 0, .int 0, .int 0]))]) [0] (by decide) rfl
  have hKc := hK.sub (tys' := []) [] rfl
  have hFc := va_free (wc := [(a0, .inr (12, [.int 0, .int 0, .int 0, .int 0]))]) hD hS hA [0] rfl
  refine va_callv (va_runI (As := [.int x, .int y, .int z, .int u0]) (rest := []) ⟨hx, hb, hml, hown, hts⟩ (c_h3_X10 l dC dI a0 x y z u0 H.size) (cwI 4 hts ggX4_init_X3_init rfl rfl rfl (hts (.initialized RX3) kc_h4_X10_0) (hts (.methodLink RX4 1 yX3_init) kc_h4_X10_1) (hts (.instanceMethod yX3_init) kc_h4_X10_2) rfl (by decide +kernel) ⟨Nat.le_of_ble_eq_true rfl, Nat.le_of_ble_eq_true rfl⟩) ⟨fun a U g mk q => by obtain ⟨q0, q1, qP, qK, qD⟩ := q; exact ⟨q0, q1, qP, va_K.moved (u := U) (U := U.calling g mk a) (Vm.Alike.refl U.vm) qK, qD⟩, fun U hU hW => ⟨rfl, by rw [hU], by rw [hU]; exact hPc, va_K.moved hW.alike hKc, hDc.weaken (fun _ _ _ _ => trivial)⟩⟩ rfl rfl hl.1 rfl (lv_room (Nat.le_of_ble_eq_true rfl)) dX4_init_6 ⟨Nat.le_of_ble_eq_true rfl, Nat.le_of_ble_eq_true rfl⟩) hS (fun q _ h => hFc q h) hFc (fun u tC H1 locs htC hvm hw_2 hB hz1 hk1 hS => ?_)
  obtain ⟨⟩ := u
  try dsimp only at hw_2 hB
  obtain ⟨hP1, hK1, hD1⟩ := hB
  rw [htC] at hP1
  have hK1 := va_K.moved hvm.symm hK1
  obtain ⟨hP, hD⟩ := va_join (wr := []) (w1 := [(a0, .inr (12, [.int x, .int y, .int z, .int u0]))]) hP hD [0] [] rfl rfl (by decide) (by decide) hk1 hFc hP1 hD1
  have hK := (hK.sub (tys' := []) [] rfl).app hK1
  generalize H1 = H at hP hS ⊢
  have hP : va_P (dC, dI) vwCl [(a0, .inr (12, [.int x, .int y, .int z, .int u0]))] H := hP
  have hD : va_D A [(a0, .inr (12, [.int x, .int y, .int z, .int u0]))] := hD
  have hK : va_K (dC, dI) vwCl [] s := hK
  rw [hQ]
  have hP9 := hP.sub (ws' := [(a0, .inr (12, [.int x, .int y, .int z, .int u0]))]) [0] rfl
  have hD9 := hD.sub (ws' := [(a0, .inr (12, [.int x, .int y, .int z, .int u0]))]) [0] (by decide) rfl
  have hK9 := hK.sub (tys' := []) [] rfl
  exact W.vret hx hb hr (fun tQ htQ hWQ => ⟨⟨(), rfl, trivial, by rw [htQ]; exact hP9, va_K.moved hWQ.alike hK9, hD9⟩, hS.F htQ⟩) hS.2.2 dX4_init_9

theorem kc_h6_X6_0 : (.initialized RX3 : Cond) ∈ wsX6_init := by decide +kernel
theorem kc_h6_X6_1 : (.methodLink RX6 1 yX3_init : Cond) ∈ wsX6_init := by decide +kernel
theorem kc_h6_X6_2 : (.instanceMethod yX3_init : Cond) ∈ wsX6_init := by decide +kernel
set_option maxHeartbeats 4000000 in
set_option maxRecDepth 100000 in
theorem c_h6_X6 (l : Launch) (dC : Nat → ClassId) (dI : Nat → Nat → Nat) (a0 : Nat) (x y z u0 : Int32) (sz : Nat) : Met l yX6_init wsX6_init ({ frames := 2, cells := 0, slots := 0, locals := 36 } : Room) (va_Pc [.ref a0, .int x, .int y, .int z, .int u0] (fun U => U.heap.size = sz ∧ va_P (dC, dI) vwCl [(a0, .inr (8, [.int 0, .int 0, .int 0, .int 0]))] U.heap ∧ va_K (dC, dI) vwCl [] U ∧ va_D (fun _ => True) [(a0, .inr (8, [.int 0, .int 0, .int 0, .int 0]))])) (va_Qv (fun (u : Unit) => match u with | () => True) (fun (u : Unit) (t : State) => match u with | () => va_P (dC, dI) vwCl [(a0, .inr (8, [.int x, .int y, .int z, .int u0]))] t.heap ∧ va_K (dC, dI) vwCl [] t ∧ va_D (va_A [(a0, .inr (8, [.int 0, .int 0, .int 0, .int 0]))] sz) [(a0, .inr (8, [.int x, .int y, .int z, .int u0]))]) (va_A [(a0, .inr (8, [.int 0, .int 0, .int 0, .int 0]))] sz)) 0 0 (va_A [(a0, .inr (8, [.int 0, .int 0, .int 0, .int 0]))] sz) := by
  refine met_ofQ (cc := cX6_init) (maxL := 5) (ret := none) (by decide) rfl ?_
  intro p e s m args below meth c s₁ Q B hml hv hQ
  obtain ⟨rfl, hsz, hP, hK, hD0⟩ := hv
  have hx := B.exec
  have hb := B.bytes
  have hr := B.returns
  have hts := atoms_spec (ws := wsX6_init) B.pre
  have hown : s.vm.findClass RX6 = some m.cls := findClass_of_methodNamed B.named
  have hlocks := B.notSynchronized
  have hin : meth.name = "<init>" := (name_of_methodNamed B.named B.method).1
  subst hsz
  have hD := hD0.self (sz := s.heap.size)
  generalize hAe : va_A [(a0, .inr (8, [.int 0, .int 0, .int 0, .int 0]))] s.heap.size = A at hD hQ ⊢
  have hA : ∀ q : Nat, s.heap.size ≤ q → A q := fun q h => by rw [← hAe]; exact Or.inr h
  have hS : va_S A s.heap s.heap [] := va_S.rf
  have hl := lv_entry [.ref a0, .int x, .int y, .int z, .int u0] (n := 5) (Nat.le_of_ble_eq_true rfl)
  rw [lg_entry_eq]
  generalize (lg_sl [.ref a0, .int x, .int y, .int z, .int u0] ++ List.replicate (5 - (lg_sl [.ref a0, .int x, .int y, .int z, .int u0]).length) Slot.unset).toArray = ls at hl ⊢
  generalize hag : ([.ref a0, .int x, .int y, .int z, .int u0] : List Value).toArray = args at hts hQ ⊢
  have hl : lv_has ls 5 [(0, .ref a0), (1, .int x), (2, .int y), (3, .int z), (4, .int u0)] := hl
  obtain ⟨H, hH⟩ : ∃ H : Heap, H = s.heap := ⟨_, rfl⟩
  rw [← hH] at hP
  rw [← hH]
  have hS : va_S A s.heap H [] := by rw [hH]; exact hS
  obtain ⟨locs, hlo⟩ : ∃ L : List Loc, L = [] := ⟨_, rfl⟩
  rw [← hlo] at hS
  rw [← hlo]
  clear hH hlo
  refine lv_aload_n hx hb dX6_init_0 rfl (lv_at hl 0 rfl) ?_
  refine lv_iload_n hx hb dX6_init_1 rfl (lv_at hl 1 rfl) ?_
  refine lv_iload_n hx hb dX6_init_2 rfl (lv_at hl 2 rfl) ?_
  refine lv_iload_n hx hb dX6_init_3 rfl (lv_at hl 3 rfl) ?_
  refine lv_iload hx hb dX6_init_4 (lv_at hl 4 rfl) ?_
  have hPc := hP.sub (ws' := [(a0, .inr (8, [.int 0, .int 0, .int 0, .int 0]))]) [0] rfl
  have hDc := hD.sub (ws' := [(a0, .inr (8, [.int 0, .int 0, .int 0, .int 0]))]) [0] (by decide) rfl
  have hKc := hK.sub (tys' := []) [] rfl
  have hFc := va_free (wc := [(a0, .inr (8, [.int 0, .int 0, .int 0, .int 0]))]) hD hS hA [0] rfl
  refine va_callv (va_runI (As := [.int x, .int y, .int z, .int u0]) (rest := []) ⟨hx, hb, hml, hown, hts⟩ (c_h3_X6 l dC dI a0 x y z u0 H.size) (cwI 4 hts ggX6_init_X3_init rfl rfl rfl (hts (.initialized RX3) kc_h6_X6_0) (hts (.methodLink RX6 1 yX3_init) kc_h6_X6_1) (hts (.instanceMethod yX3_init) kc_h6_X6_2) rfl (by decide +kernel) ⟨Nat.le_of_ble_eq_true rfl, Nat.le_of_ble_eq_true rfl⟩) ⟨fun a U g mk q => by obtain ⟨q0, q1, qP, qK, qD⟩ := q; exact ⟨q0, q1, qP, va_K.moved (u := U) (U := U.calling g mk a) (Vm.Alike.refl U.vm) qK, qD⟩, fun U hU hW => ⟨rfl, by rw [hU], by rw [hU]; exact hPc, va_K.moved hW.alike hKc, hDc.weaken (fun _ _ _ _ => trivial)⟩⟩ rfl rfl hl.1 rfl (lv_room (Nat.le_of_ble_eq_true rfl)) dX6_init_6 ⟨Nat.le_of_ble_eq_true rfl, Nat.le_of_ble_eq_true rfl⟩) hS (fun q _ h => hFc q h) hFc (fun u tC H1 locs htC hvm hw_2 hB hz1 hk1 hS => ?_)
  obtain ⟨⟩ := u
  try dsimp only at hw_2 hB
  obtain ⟨hP1, hK1, hD1⟩ := hB
  rw [htC] at hP1
  have hK1 := va_K.moved hvm.symm hK1
  obtain ⟨hP, hD⟩ := va_join (wr := []) (w1 := [(a0, .inr (8, [.int x, .int y, .int z, .int u0]))]) hP hD [0] [] rfl rfl (by decide) (by decide) hk1 hFc hP1 hD1
  have hK := (hK.sub (tys' := []) [] rfl).app hK1
  generalize H1 = H at hP hS ⊢
  have hP : va_P (dC, dI) vwCl [(a0, .inr (8, [.int x, .int y, .int z, .int u0]))] H := hP
  have hD : va_D A [(a0, .inr (8, [.int x, .int y, .int z, .int u0]))] := hD
  have hK : va_K (dC, dI) vwCl [] s := hK
  rw [hQ]
  have hP9 := hP.sub (ws' := [(a0, .inr (8, [.int x, .int y, .int z, .int u0]))]) [0] rfl
  have hD9 := hD.sub (ws' := [(a0, .inr (8, [.int x, .int y, .int z, .int u0]))]) [0] (by decide) rfl
  have hK9 := hK.sub (tys' := []) [] rfl
  exact W.vret hx hb hr (fun tQ htQ hWQ => ⟨⟨(), rfl, trivial, by rw [htQ]; exact hP9, va_K.moved hWQ.alike hK9, hD9⟩, hS.F htQ⟩) hS.2.2 dX6_init_9

theorem kc_h6_X9_0 : (.initialized RX3 : Cond) ∈ wsX6_init := by decide +kernel
theorem kc_h6_X9_1 : (.methodLink RX6 1 yX3_init : Cond) ∈ wsX6_init := by decide +kernel
theorem kc_h6_X9_2 : (.instanceMethod yX3_init : Cond) ∈ wsX6_init := by decide +kernel
set_option maxHeartbeats 4000000 in
set_option maxRecDepth 100000 in
theorem c_h6_X9 (l : Launch) (dC : Nat → ClassId) (dI : Nat → Nat → Nat) (a0 : Nat) (x y z u0 : Int32) (sz : Nat) : Met l yX6_init wsX6_init ({ frames := 2, cells := 0, slots := 0, locals := 36 } : Room) (va_Pc [.ref a0, .int x, .int y, .int z, .int u0] (fun U => U.heap.size = sz ∧ va_P (dC, dI) vwCl [(a0, .inr (11, [.int 0, .int 0, .int 0, .int 0]))] U.heap ∧ va_K (dC, dI) vwCl [] U ∧ va_D (fun _ => True) [(a0, .inr (11, [.int 0, .int 0, .int 0, .int 0]))])) (va_Qv (fun (u : Unit) => match u with | () => True) (fun (u : Unit) (t : State) => match u with | () => va_P (dC, dI) vwCl [(a0, .inr (11, [.int x, .int y, .int z, .int u0]))] t.heap ∧ va_K (dC, dI) vwCl [] t ∧ va_D (va_A [(a0, .inr (11, [.int 0, .int 0, .int 0, .int 0]))] sz) [(a0, .inr (11, [.int x, .int y, .int z, .int u0]))]) (va_A [(a0, .inr (11, [.int 0, .int 0, .int 0, .int 0]))] sz)) 0 0 (va_A [(a0, .inr (11, [.int 0, .int 0, .int 0, .int 0]))] sz) := by
  refine met_ofQ (cc := cX6_init) (maxL := 5) (ret := none) (by decide) rfl ?_
  intro p e s m args below meth c s₁ Q B hml hv hQ
  obtain ⟨rfl, hsz, hP, hK, hD0⟩ := hv
  have hx := B.exec
  have hb := B.bytes
  have hr := B.returns
  have hts := atoms_spec (ws := wsX6_init) B.pre
  have hown : s.vm.findClass RX6 = some m.cls := findClass_of_methodNamed B.named
  have hlocks := B.notSynchronized
  have hin : meth.name = "<init>" := (name_of_methodNamed B.named B.method).1
  subst hsz
  have hD := hD0.self (sz := s.heap.size)
  generalize hAe : va_A [(a0, .inr (11, [.int 0, .int 0, .int 0, .int 0]))] s.heap.size = A at hD hQ ⊢
  have hA : ∀ q : Nat, s.heap.size ≤ q → A q := fun q h => by rw [← hAe]; exact Or.inr h
  have hS : va_S A s.heap s.heap [] := va_S.rf
  have hl := lv_entry [.ref a0, .int x, .int y, .int z, .int u0] (n := 5) (Nat.le_of_ble_eq_true rfl)
  rw [lg_entry_eq]
  generalize (lg_sl [.ref a0, .int x, .int y, .int z, .int u0] ++ List.replicate (5 - (lg_sl [.ref a0, .int x, .int y, .int z, .int u0]).length) Slot.unset).toArray = ls at hl ⊢
  generalize hag : ([.ref a0, .int x, .int y, .int z, .int u0] : List Value).toArray = args at hts hQ ⊢
  have hl : lv_has ls 5 [(0, .ref a0), (1, .int x), (2, .int y), (3, .int z), (4, .int u0)] := hl
  obtain ⟨H, hH⟩ : ∃ H : Heap, H = s.heap := ⟨_, rfl⟩
  rw [← hH] at hP
  rw [← hH]
  have hS : va_S A s.heap H [] := by rw [hH]; exact hS
  obtain ⟨locs, hlo⟩ : ∃ L : List Loc, L = [] := ⟨_, rfl⟩
  rw [← hlo] at hS
  rw [← hlo]
  clear hH hlo
  refine lv_aload_n hx hb dX6_init_0 rfl (lv_at hl 0 rfl) ?_
  refine lv_iload_n hx hb dX6_init_1 rfl (lv_at hl 1 rfl) ?_
  refine lv_iload_n hx hb dX6_init_2 rfl (lv_at hl 2 rfl) ?_
  refine lv_iload_n hx hb dX6_init_3 rfl (lv_at hl 3 rfl) ?_
  refine lv_iload hx hb dX6_init_4 (lv_at hl 4 rfl) ?_
  have hPc := hP.sub (ws' := [(a0, .inr (11, [.int 0, .int 0, .int 0, .int 0]))]) [0] rfl
  have hDc := hD.sub (ws' := [(a0, .inr (11, [.int 0, .int 0, .int 0, .int 0]))]) [0] (by decide) rfl
  have hKc := hK.sub (tys' := []) [] rfl
  have hFc := va_free (wc := [(a0, .inr (11, [.int 0, .int 0, .int 0, .int 0]))]) hD hS hA [0] rfl
  refine va_callv (va_runI (As := [.int x, .int y, .int z, .int u0]) (rest := []) ⟨hx, hb, hml, hown, hts⟩ (c_h3_X9 l dC dI a0 x y z u0 H.size) (cwI 4 hts ggX6_init_X3_init rfl rfl rfl (hts (.initialized RX3) kc_h6_X9_0) (hts (.methodLink RX6 1 yX3_init) kc_h6_X9_1) (hts (.instanceMethod yX3_init) kc_h6_X9_2) rfl (by decide +kernel) ⟨Nat.le_of_ble_eq_true rfl, Nat.le_of_ble_eq_true rfl⟩) ⟨fun a U g mk q => by obtain ⟨q0, q1, qP, qK, qD⟩ := q; exact ⟨q0, q1, qP, va_K.moved (u := U) (U := U.calling g mk a) (Vm.Alike.refl U.vm) qK, qD⟩, fun U hU hW => ⟨rfl, by rw [hU], by rw [hU]; exact hPc, va_K.moved hW.alike hKc, hDc.weaken (fun _ _ _ _ => trivial)⟩⟩ rfl rfl hl.1 rfl (lv_room (Nat.le_of_ble_eq_true rfl)) dX6_init_6 ⟨Nat.le_of_ble_eq_true rfl, Nat.le_of_ble_eq_true rfl⟩) hS (fun q _ h => hFc q h) hFc (fun u tC H1 locs htC hvm hw_2 hB hz1 hk1 hS => ?_)
  obtain ⟨⟩ := u
  try dsimp only at hw_2 hB
  obtain ⟨hP1, hK1, hD1⟩ := hB
  rw [htC] at hP1
  have hK1 := va_K.moved hvm.symm hK1
  obtain ⟨hP, hD⟩ := va_join (wr := []) (w1 := [(a0, .inr (11, [.int x, .int y, .int z, .int u0]))]) hP hD [0] [] rfl rfl (by decide) (by decide) hk1 hFc hP1 hD1
  have hK := (hK.sub (tys' := []) [] rfl).app hK1
  generalize H1 = H at hP hS ⊢
  have hP : va_P (dC, dI) vwCl [(a0, .inr (11, [.int x, .int y, .int z, .int u0]))] H := hP
  have hD : va_D A [(a0, .inr (11, [.int x, .int y, .int z, .int u0]))] := hD
  have hK : va_K (dC, dI) vwCl [] s := hK
  rw [hQ]
  have hP9 := hP.sub (ws' := [(a0, .inr (11, [.int x, .int y, .int z, .int u0]))]) [0] rfl
  have hD9 := hD.sub (ws' := [(a0, .inr (11, [.int x, .int y, .int z, .int u0]))]) [0] (by decide) rfl
  have hK9 := hK.sub (tys' := []) [] rfl
  exact W.vret hx hb hr (fun tQ htQ hWQ => ⟨⟨(), rfl, trivial, by rw [htQ]; exact hP9, va_K.moved hWQ.alike hK9, hD9⟩, hS.F htQ⟩) hS.2.2 dX6_init_9

theorem kc_h1_X1_0 : (.initialized RX3 : Cond) ∈ wsX1_init := by decide +kernel
theorem kc_h1_X1_1 : (.methodLink RX1 1 yX3_init : Cond) ∈ wsX1_init := by decide +kernel
theorem kc_h1_X1_2 : (.instanceMethod yX3_init : Cond) ∈ wsX1_init := by decide +kernel
set_option maxHeartbeats 4000000 in
set_option maxRecDepth 100000 in
theorem c_h1_X1 (l : Launch) (dC : Nat → ClassId) (dI : Nat → Nat → Nat) (a0 : Nat) (x y z u0 : Int32) (sz : Nat) : Met l yX1_init wsX1_init ({ frames := 2, cells := 0, slots := 0, locals := 36 } : Room) (va_Pc [.ref a0, .int x, .int y, .int z, .int u0] (fun U => U.heap.size = sz ∧ va_P (dC, dI) vwCl [(a0, .inr (3, [.int 0, .int 0, .int 0, .int 0]))] U.heap ∧ va_K (dC, dI) vwCl [] U ∧ va_D (fun _ => True) [(a0, .inr (3, [.int 0, .int 0, .int 0, .int 0]))])) (va_Qv (fun (u : Unit) => match u with | () => True) (fun (u : Unit) (t : State) => match u with | () => va_P (dC, dI) vwCl [(a0, .inr (3, [.int x, .int y, .int z, .int u0]))] t.heap ∧ va_K (dC, dI) vwCl [] t ∧ va_D (va_A [(a0, .inr (3, [.int 0, .int 0, .int 0, .int 0]))] sz) [(a0, .inr (3, [.int x, .int y, .int z, .int u0]))]) (va_A [(a0, .inr (3, [.int 0, .int 0, .int 0, .int 0]))] sz)) 0 0 (va_A [(a0, .inr (3, [.int 0, .int 0, .int 0, .int 0]))] sz) := by
  refine met_ofQ (cc := cX1_init) (maxL := 5) (ret := none) (by decide) rfl ?_
  intro p e s m args below meth c s₁ Q B hml hv hQ
  obtain ⟨rfl, hsz, hP, hK, hD0⟩ := hv
  have hx := B.exec
  have hb := B.bytes
  have hr := B.returns
  have hts := atoms_spec (ws := wsX1_init) B.pre
  have hown : s.vm.findClass RX1 = some m.cls := findClass_of_methodNamed B.named
  have hlocks := B.notSynchronized
  have hin : meth.name = "<init>" := (name_of_methodNamed B.named B.method).1
  subst hsz
  have hD := hD0.self (sz := s.heap.size)
  generalize hAe : va_A [(a0, .inr (3, [.int 0, .int 0, .int 0, .int 0]))] s.heap.size = A at hD hQ ⊢
  have hA : ∀ q : Nat, s.heap.size ≤ q → A q := fun q h => by rw [← hAe]; exact Or.inr h
  have hS : va_S A s.heap s.heap [] := va_S.rf
  have hl := lv_entry [.ref a0, .int x, .int y, .int z, .int u0] (n := 5) (Nat.le_of_ble_eq_true rfl)
  rw [lg_entry_eq]
  generalize (lg_sl [.ref a0, .int x, .int y, .int z, .int u0] ++ List.replicate (5 - (lg_sl [.ref a0, .int x, .int y, .int z, .int u0]).length) Slot.unset).toArray = ls at hl ⊢
  generalize hag : ([.ref a0, .int x, .int y, .int z, .int u0] : List Value).toArray = args at hts hQ ⊢
  have hl : lv_has ls 5 [(0, .ref a0), (1, .int x), (2, .int y), (3, .int z), (4, .int u0)] := hl
  obtain ⟨H, hH⟩ : ∃ H : Heap, H = s.heap := ⟨_, rfl⟩
  rw [← hH] at hP
  rw [← hH]
  have hS : va_S A s.heap H [] := by rw [hH]; exact hS
  obtain ⟨locs, hlo⟩ : ∃ L : List Loc, L = [] := ⟨_, rfl⟩
  rw [← hlo] at hS
  rw [← hlo]
  clear hH hlo
  refine lv_aload_n hx hb dX1_init_0 rfl (lv_at hl 0 rfl) ?_
  refine lv_iload_n hx hb dX1_init_1 rfl (lv_at hl 1 rfl) ?_
  refine lv_iload_n hx hb dX1_init_2 rfl (lv_at hl 2 rfl) ?_
  refine lv_iload_n hx hb dX1_init_3 rfl (lv_at hl 3 rfl) ?_
  refine lv_iload hx hb dX1_init_4 (lv_at hl 4 rfl) ?_
  have hPc := hP.sub (ws' := [(a0, .inr (3, [.int 0, .int 0, .int 0, .int 0]))]) [0] rfl
  have hDc := hD.sub (ws' := [(a0, .inr (3, [.int 0, .int 0, .int 0, .int 0]))]) [0] (by decide) rfl
  have hKc := hK.sub (tys' := []) [] rfl
  have hFc := va_free (wc := [(a0, .inr (3, [.int 0, .int 0, .int 0, .int 0]))]) hD hS hA [0] rfl
  refine va_callv (va_runI (As := [.int x, .int y, .int z, .int u0]) (rest := []) ⟨hx, hb, hml, hown, hts⟩ (c_h3_X1 l dC dI a0 x y z u0 H.size) (cwI 4 hts ggX1_init_X3_init rfl rfl rfl (hts (.initialized RX3) kc_h1_X1_0) (hts (.methodLink RX1 1 yX3_init) kc_h1_X1_1) (hts (.instanceMethod yX3_init) kc_h1_X1_2) rfl (by decide +kernel) ⟨Nat.le_of_ble_eq_true rfl, Nat.le_of_ble_eq_true rfl⟩) ⟨fun a U g mk q => by obtain ⟨q0, q1, qP, qK, qD⟩ := q; exact ⟨q0, q1, qP, va_K.moved (u := U) (U := U.calling g mk a) (Vm.Alike.refl U.vm) qK, qD⟩, fun U hU hW => ⟨rfl, by rw [hU], by rw [hU]; exact hPc, va_K.moved hW.alike hKc, hDc.weaken (fun _ _ _ _ => trivial)⟩⟩ rfl rfl hl.1 rfl (lv_room (Nat.le_of_ble_eq_true rfl)) dX1_init_6 ⟨Nat.le_of_ble_eq_true rfl, Nat.le_of_ble_eq_true rfl⟩) hS (fun q _ h => hFc q h) hFc (fun u tC H1 locs htC hvm hw_2 hB hz1 hk1 hS => ?_)
  obtain ⟨⟩ := u
  try dsimp only at hw_2 hB
  obtain ⟨hP1, hK1, hD1⟩ := hB
  rw [htC] at hP1
  have hK1 := va_K.moved hvm.symm hK1
  obtain ⟨hP, hD⟩ := va_join (wr := []) (w1 := [(a0, .inr (3, [.int x, .int y, .int z, .int u0]))]) hP hD [0] [] rfl rfl (by decide) (by decide) hk1 hFc hP1 hD1
  have hK := (hK.sub (tys' := []) [] rfl).app hK1
  generalize H1 = H at hP hS ⊢
  have hP : va_P (dC, dI) vwCl [(a0, .inr (3, [.int x, .int y, .int z, .int u0]))] H := hP
  have hD : va_D A [(a0, .inr (3, [.int x, .int y, .int z, .int u0]))] := hD
  have hK : va_K (dC, dI) vwCl [] s := hK
  rw [hQ]
  have hP9 := hP.sub (ws' := [(a0, .inr (3, [.int x, .int y, .int z, .int u0]))]) [0] rfl
  have hD9 := hD.sub (ws' := [(a0, .inr (3, [.int x, .int y, .int z, .int u0]))]) [0] (by decide) rfl
  have hK9 := hK.sub (tys' := []) [] rfl
  exact W.vret hx hb hr (fun tQ htQ hWQ => ⟨⟨(), rfl, trivial, by rw [htQ]; exact hP9, va_K.moved hWQ.alike hK9, hD9⟩, hS.F htQ⟩) hS.2.2 dX1_init_9

theorem kc_h1_X7_0 : (.initialized RX3 : Cond) ∈ wsX1_init := by decide +kernel
theorem kc_h1_X7_1 : (.methodLink RX1 1 yX3_init : Cond) ∈ wsX1_init := by decide +kernel
theorem kc_h1_X7_2 : (.instanceMethod yX3_init : Cond) ∈ wsX1_init := by decide +kernel
set_option maxHeartbeats 4000000 in
set_option maxRecDepth 100000 in
theorem c_h1_X7 (l : Launch) (dC : Nat → ClassId) (dI : Nat → Nat → Nat) (a0 : Nat) (x y z u0 : Int32) (sz : Nat) : Met l yX1_init wsX1_init ({ frames := 2, cells := 0, slots := 0, locals := 36 } : Room) (va_Pc [.ref a0, .int x, .int y, .int z, .int u0] (fun U => U.heap.size = sz ∧ va_P (dC, dI) vwCl [(a0, .inr (9, [.int 0, .int 0, .int 0, .int 0]))] U.heap ∧ va_K (dC, dI) vwCl [] U ∧ va_D (fun _ => True) [(a0, .inr (9, [.int 0, .int 0, .int 0, .int 0]))])) (va_Qv (fun (u : Unit) => match u with | () => True) (fun (u : Unit) (t : State) => match u with | () => va_P (dC, dI) vwCl [(a0, .inr (9, [.int x, .int y, .int z, .int u0]))] t.heap ∧ va_K (dC, dI) vwCl [] t ∧ va_D (va_A [(a0, .inr (9, [.int 0, .int 0, .int 0, .int 0]))] sz) [(a0, .inr (9, [.int x, .int y, .int z, .int u0]))]) (va_A [(a0, .inr (9, [.int 0, .int 0, .int 0, .int 0]))] sz)) 0 0 (va_A [(a0, .inr (9, [.int 0, .int 0, .int 0, .int 0]))] sz) := by
  refine met_ofQ (cc := cX1_init) (maxL := 5) (ret := none) (by decide) rfl ?_
  intro p e s m args below meth c s₁ Q B hml hv hQ
  obtain ⟨rfl, hsz, hP, hK, hD0⟩ := hv
  have hx := B.exec
  have hb := B.bytes
  have hr := B.returns
  have hts := atoms_spec (ws := wsX1_init) B.pre
  have hown : s.vm.findClass RX1 = some m.cls := findClass_of_methodNamed B.named
  have hlocks := B.notSynchronized
  have hin : meth.name = "<init>" := (name_of_methodNamed B.named B.method).1
  subst hsz
  have hD := hD0.self (sz := s.heap.size)
  generalize hAe : va_A [(a0, .inr (9, [.int 0, .int 0, .int 0, .int 0]))] s.heap.size = A at hD hQ ⊢
  have hA : ∀ q : Nat, s.heap.size ≤ q → A q := fun q h => by rw [← hAe]; exact Or.inr h
  have hS : va_S A s.heap s.heap [] := va_S.rf
  have hl := lv_entry [.ref a0, .int x, .int y, .int z, .int u0] (n := 5) (Nat.le_of_ble_eq_true rfl)
  rw [lg_entry_eq]
  generalize (lg_sl [.ref a0, .int x, .int y, .int z, .int u0] ++ List.replicate (5 - (lg_sl [.ref a0, .int x, .int y, .int z, .int u0]).length) Slot.unset).toArray = ls at hl ⊢
  generalize hag : ([.ref a0, .int x, .int y, .int z, .int u0] : List Value).toArray = args at hts hQ ⊢
  have hl : lv_has ls 5 [(0, .ref a0), (1, .int x), (2, .int y), (3, .int z), (4, .int u0)] := hl
  obtain ⟨H, hH⟩ : ∃ H : Heap, H = s.heap := ⟨_, rfl⟩
  rw [← hH] at hP
  rw [← hH]
  have hS : va_S A s.heap H [] := by rw [hH]; exact hS
  obtain ⟨locs, hlo⟩ : ∃ L : List Loc, L = [] := ⟨_, rfl⟩
  rw [← hlo] at hS
  rw [← hlo]
  clear hH hlo
  refine lv_aload_n hx hb dX1_init_0 rfl (lv_at hl 0 rfl) ?_
  refine lv_iload_n hx hb dX1_init_1 rfl (lv_at hl 1 rfl) ?_
  refine lv_iload_n hx hb dX1_init_2 rfl (lv_at hl 2 rfl) ?_
  refine lv_iload_n hx hb dX1_init_3 rfl (lv_at hl 3 rfl) ?_
  refine lv_iload hx hb dX1_init_4 (lv_at hl 4 rfl) ?_
  have hPc := hP.sub (ws' := [(a0, .inr (9, [.int 0, .int 0, .int 0, .int 0]))]) [0] rfl
  have hDc := hD.sub (ws' := [(a0, .inr (9, [.int 0, .int 0, .int 0, .int 0]))]) [0] (by decide) rfl
  have hKc := hK.sub (tys' := []) [] rfl
  have hFc := va_free (wc := [(a0, .inr (9, [.int 0, .int 0, .int 0, .int 0]))]) hD hS hA [0] rfl
  refine va_callv (va_runI (As := [.int x, .int y, .int z, .int u0]) (rest := []) ⟨hx, hb, hml, hown, hts⟩ (c_h3_X7 l dC dI a0 x y z u0 H.size) (cwI 4 hts ggX1_init_X3_init rfl rfl rfl (hts (.initialized RX3) kc_h1_X7_0) (hts (.methodLink RX1 1 yX3_init) kc_h1_X7_1) (hts (.instanceMethod yX3_init) kc_h1_X7_2) rfl (by decide +kernel) ⟨Nat.le_of_ble_eq_true rfl, Nat.le_of_ble_eq_true rfl⟩) ⟨fun a U g mk q => by obtain ⟨q0, q1, qP, qK, qD⟩ := q; exact ⟨q0, q1, qP, va_K.moved (u := U) (U := U.calling g mk a) (Vm.Alike.refl U.vm) qK, qD⟩, fun U hU hW => ⟨rfl, by rw [hU], by rw [hU]; exact hPc, va_K.moved hW.alike hKc, hDc.weaken (fun _ _ _ _ => trivial)⟩⟩ rfl rfl hl.1 rfl (lv_room (Nat.le_of_ble_eq_true rfl)) dX1_init_6 ⟨Nat.le_of_ble_eq_true rfl, Nat.le_of_ble_eq_true rfl⟩) hS (fun q _ h => hFc q h) hFc (fun u tC H1 locs htC hvm hw_2 hB hz1 hk1 hS => ?_)
  obtain ⟨⟩ := u
  try dsimp only at hw_2 hB
  obtain ⟨hP1, hK1, hD1⟩ := hB
  rw [htC] at hP1
  have hK1 := va_K.moved hvm.symm hK1
  obtain ⟨hP, hD⟩ := va_join (wr := []) (w1 := [(a0, .inr (9, [.int x, .int y, .int z, .int u0]))]) hP hD [0] [] rfl rfl (by decide) (by decide) hk1 hFc hP1 hD1
  have hK := (hK.sub (tys' := []) [] rfl).app hK1
  generalize H1 = H at hP hS ⊢
  have hP : va_P (dC, dI) vwCl [(a0, .inr (9, [.int x, .int y, .int z, .int u0]))] H := hP
  have hD : va_D A [(a0, .inr (9, [.int x, .int y, .int z, .int u0]))] := hD
  have hK : va_K (dC, dI) vwCl [] s := hK
  rw [hQ]
  have hP9 := hP.sub (ws' := [(a0, .inr (9, [.int x, .int y, .int z, .int u0]))]) [0] rfl
  have hD9 := hD.sub (ws' := [(a0, .inr (9, [.int x, .int y, .int z, .int u0]))]) [0] (by decide) rfl
  have hK9 := hK.sub (tys' := []) [] rfl
  exact W.vret hx hb hr (fun tQ htQ hWQ => ⟨⟨(), rfl, trivial, by rw [htQ]; exact hP9, va_K.moved hWQ.alike hK9, hD9⟩, hS.F htQ⟩) hS.2.2 dX1_init_9

theorem kc_h10_X10_0 : (.initialized RX4 : Cond) ∈ wsX10_init := by decide +kernel
theorem kc_h10_X10_1 : (.methodLink RX10 3 yX4_init : Cond) ∈ wsX10_init := by decide +kernel
theorem kc_h10_X10_2 : (.instanceMethod yX4_init : Cond) ∈ wsX10_init := by decide +kernel
set_option maxHeartbeats 4000000 in
set_option maxRecDepth 100000 in
theorem c_h10_X10 (l : Launch) (dC : Nat → ClassId) (dI : Nat → Nat → Nat) (a0 : Nat) (x y z u0 : Int32) (sz : Nat) : Met l yX10_init wsX10_init ({ frames := 3, cells := 0, slots := 0, locals := 60 } : Room) (va_Pc [.ref a0, .int x, .int y, .int z, .int u0] (fun U => U.heap.size = sz ∧ va_P (dC, dI) vwCl [(a0, .inr (12, [.int 0, .int 0, .int 0, .int 0]))] U.heap ∧ va_K (dC, dI) vwCl [] U ∧ va_D (fun _ => True) [(a0, .inr (12, [.int 0, .int 0, .int 0, .int 0]))])) (va_Qv (fun (u : Unit) => match u with | () => True) (fun (u : Unit) (t : State) => match u with | () => va_P (dC, dI) vwCl [(a0, .inr (12, [.int x, .int y, .int z, .int u0]))] t.heap ∧ va_K (dC, dI) vwCl [] t ∧ va_D (va_A [(a0, .inr (12, [.int 0, .int 0, .int 0, .int 0]))] sz) [(a0, .inr (12, [.int x, .int y, .int z, .int u0]))]) (va_A [(a0, .inr (12, [.int 0, .int 0, .int 0, .int 0]))] sz)) 0 0 (va_A [(a0, .inr (12, [.int 0, .int 0, .int 0, .int 0]))] sz) := by
  refine met_ofQ (cc := cX10_init) (maxL := 5) (ret := none) (by decide) rfl ?_
  intro p e s m args below meth c s₁ Q B hml hv hQ
  obtain ⟨rfl, hsz, hP, hK, hD0⟩ := hv
  have hx := B.exec
  have hb := B.bytes
  have hr := B.returns
  have hts := atoms_spec (ws := wsX10_init) B.pre
  have hown : s.vm.findClass RX10 = some m.cls := findClass_of_methodNamed B.named
  have hlocks := B.notSynchronized
  have hin : meth.name = "<init>" := (name_of_methodNamed B.named B.method).1
  subst hsz
  have hD := hD0.self (sz := s.heap.size)
  generalize hAe : va_A [(a0, .inr (12, [.int 0, .int 0, .int 0, .int 0]))] s.heap.size = A at hD hQ ⊢
  have hA : ∀ q : Nat, s.heap.size ≤ q → A q := fun q h => by rw [← hAe]; exact Or.inr h
  have hS : va_S A s.heap s.heap [] := va_S.rf
  have hl := lv_entry [.ref a0, .int x, .int y, .int z, .int u0] (n := 5) (Nat.le_of_ble_eq_true rfl)
  rw [lg_entry_eq]
  generalize (lg_sl [.ref a0, .int x, .int y, .int z, .int u0] ++ List.replicate (5 - (lg_sl [.ref a0, .int x, .int y, .int z, .int u0]).length) Slot.unset).toArray = ls at hl ⊢
  generalize hag : ([.ref a0, .int x, .int y, .int z, .int u0] : List Value).toArray = args at hts hQ ⊢
  have hl : lv_has ls 5 [(0, .ref a0), (1, .int x), (2, .int y), (3, .int z), (4, .int u0)] := hl
  obtain ⟨H, hH⟩ : ∃ H : Heap, H = s.heap := ⟨_, rfl⟩
  rw [← hH] at hP
  rw [← hH]
  have hS : va_S A s.heap H [] := by rw [hH]; exact hS
  obtain ⟨locs, hlo⟩ : ∃ L : List Loc, L = [] := ⟨_, rfl⟩
  rw [← hlo] at hS
  rw [← hlo]
  clear hH hlo
  refine lv_aload_n hx hb dX10_init_0 rfl (lv_at hl 0 rfl) ?_
  refine lv_iload_n hx hb dX10_init_1 rfl (lv_at hl 1 rfl) ?_
  refine lv_iload_n hx hb dX10_init_2 rfl (lv_at hl 2 rfl) ?_
  refine lv_iload_n hx hb dX10_init_3 rfl (lv_at hl 3 rfl) ?_
  refine lv_iload hx hb dX10_init_4 (lv_at hl 4 rfl) ?_
  have hPc := hP.sub (ws' := [(a0, .inr (12, [.int 0, .int 0, .int 0, .int 0]))]) [0] rfl
  have hDc := hD.sub (ws' := [(a0, .inr (12, [.int 0, .int 0, .int 0, .int 0]))]) [0] (by decide) rfl
  have hKc := hK.sub (tys' := []) [] rfl
  have hFc := va_free (wc := [(a0, .inr (12, [.int 0, .int 0, .int 0, .int 0]))]) hD hS hA [0] rfl
  refine va_callv (va_runI (As := [.int x, .int y, .int z, .int u0]) (rest := []) ⟨hx, hb, hml, hown, hts⟩ (c_h4_X10 l dC dI a0 x y z u0 H.size) (cwI 4 hts ggX10_init_X4_init rfl rfl rfl (hts (.initialized RX4) kc_h10_X10_0) (hts (.methodLink RX10 3 yX4_init) kc_h10_X10_1) (hts (.instanceMethod yX4_init) kc_h10_X10_2) rfl (by decide +kernel) ⟨Nat.le_of_ble_eq_true rfl, Nat.le_of_ble_eq_true rfl⟩) ⟨fun a U g mk q => by obtain ⟨q0, q1, qP, qK, qD⟩ := q; exact ⟨q0, q1, qP, va_K.moved (u := U) (U := U.calling g mk a) (Vm.Alike.refl U.vm) qK, qD⟩, fun U hU hW => ⟨rfl, by rw [hU], by rw [hU]; exact hPc, va_K.moved hW.alike hKc, hDc.weaken (fun _ _ _ _ => trivial)⟩⟩ rfl rfl hl.1 rfl (lv_room (Nat.le_of_ble_eq_true rfl)) dX10_init_6 ⟨Nat.le_of_ble_eq_true rfl, Nat.le_of_ble_eq_true rfl⟩) hS (fun q _ h => hFc q h) hFc (fun u tC H1 locs htC hvm hw_2 hB hz1 hk1 hS => ?_)
  obtain ⟨⟩ := u
  try dsimp only at hw_2 hB
  obtain ⟨hP1, hK1, hD1⟩ := hB
  rw [htC] at hP1
  have hK1 := va_K.moved hvm.symm hK1
  obtain ⟨hP, hD⟩ := va_join (wr := []) (w1 := [(a0, .inr (12, [.int x, .int y, .int z, .int u0]))]) hP hD [0] [] rfl rfl (by decide) (by decide) hk1 hFc hP1 hD1
  have hK := (hK.sub (tys' := []) [] rfl).app hK1
  generalize H1 = H at hP hS ⊢
  have hP : va_P (dC, dI) vwCl [(a0, .inr (12, [.int x, .int y, .int z, .int u0]))] H := hP
  have hD : va_D A [(a0, .inr (12, [.int x, .int y, .int z, .int u0]))] := hD
  have hK : va_K (dC, dI) vwCl [] s := hK
  rw [hQ]
  have hP9 := hP.sub (ws' := [(a0, .inr (12, [.int x, .int y, .int z, .int u0]))]) [0] rfl
  have hD9 := hD.sub (ws' := [(a0, .inr (12, [.int x, .int y, .int z, .int u0]))]) [0] (by decide) rfl
  have hK9 := hK.sub (tys' := []) [] rfl
  exact W.vret hx hb hr (fun tQ htQ hWQ => ⟨⟨(), rfl, trivial, by rw [htQ]; exact hP9, va_K.moved hWQ.alike hK9, hD9⟩, hS.F htQ⟩) hS.2.2 dX10_init_9

theorem kc_h9_X9_0 : (.initialized RX6 : Cond) ∈ wsX9_init := by decide +kernel
theorem kc_h9_X9_1 : (.methodLink RX9 1 yX6_init : Cond) ∈ wsX9_init := by decide +kernel
theorem kc_h9_X9_2 : (.instanceMethod yX6_init : Cond) ∈ wsX9_init := by decide +kernel
set_option maxHeartbeats 4000000 in
set_option maxRecDepth 100000 in
theorem c_h9_X9 (l : Launch) (dC : Nat → ClassId) (dI : Nat → Nat → Nat) (a0 : Nat) (x y z u0 : Int32) (sz : Nat) : Met l yX9_init wsX9_init ({ frames := 3, cells := 0, slots := 0, locals := 60 } : Room) (va_Pc [.ref a0, .int x, .int y, .int z, .int u0] (fun U => U.heap.size = sz ∧ va_P (dC, dI) vwCl [(a0, .inr (11, [.int 0, .int 0, .int 0, .int 0]))] U.heap ∧ va_K (dC, dI) vwCl [] U ∧ va_D (fun _ => True) [(a0, .inr (11, [.int 0, .int 0, .int 0, .int 0]))])) (va_Qv (fun (u : Unit) => match u with | () => True) (fun (u : Unit) (t : State) => match u with | () => va_P (dC, dI) vwCl [(a0, .inr (11, [.int x, .int y, .int z, .int u0]))] t.heap ∧ va_K (dC, dI) vwCl [] t ∧ va_D (va_A [(a0, .inr (11, [.int 0, .int 0, .int 0, .int 0]))] sz) [(a0, .inr (11, [.int x, .int y, .int z, .int u0]))]) (va_A [(a0, .inr (11, [.int 0, .int 0, .int 0, .int 0]))] sz)) 0 0 (va_A [(a0, .inr (11, [.int 0, .int 0, .int 0, .int 0]))] sz) := by
  refine met_ofQ (cc := cX9_init) (maxL := 5) (ret := none) (by decide) rfl ?_
  intro p e s m args below meth c s₁ Q B hml hv hQ
  obtain ⟨rfl, hsz, hP, hK, hD0⟩ := hv
  have hx := B.exec
  have hb := B.bytes
  have hr := B.returns
  have hts := atoms_spec (ws := wsX9_init) B.pre
  have hown : s.vm.findClass RX9 = some m.cls := findClass_of_methodNamed B.named
  have hlocks := B.notSynchronized
  have hin : meth.name = "<init>" := (name_of_methodNamed B.named B.method).1
  subst hsz
  have hD := hD0.self (sz := s.heap.size)
  generalize hAe : va_A [(a0, .inr (11, [.int 0, .int 0, .int 0, .int 0]))] s.heap.size = A at hD hQ ⊢
  have hA : ∀ q : Nat, s.heap.size ≤ q → A q := fun q h => by rw [← hAe]; exact Or.inr h
  have hS : va_S A s.heap s.heap [] := va_S.rf
  have hl := lv_entry [.ref a0, .int x, .int y, .int z, .int u0] (n := 5) (Nat.le_of_ble_eq_true rfl)
  rw [lg_entry_eq]
  generalize (lg_sl [.ref a0, .int x, .int y, .int z, .int u0] ++ List.replicate (5 - (lg_sl [.ref a0, .int x, .int y, .int z, .int u0]).length) Slot.unset).toArray = ls at hl ⊢
  generalize hag : ([.ref a0, .int x, .int y, .int z, .int u0] : List Value).toArray = args at hts hQ ⊢
  have hl : lv_has ls 5 [(0, .ref a0), (1, .int x), (2, .int y), (3, .int z), (4, .int u0)] := hl
  obtain ⟨H, hH⟩ : ∃ H : Heap, H = s.heap := ⟨_, rfl⟩
  rw [← hH] at hP
  rw [← hH]
  have hS : va_S A s.heap H [] := by rw [hH]; exact hS
  obtain ⟨locs, hlo⟩ : ∃ L : List Loc, L = [] := ⟨_, rfl⟩
  rw [← hlo] at hS
  rw [← hlo]
  clear hH hlo
  refine lv_aload_n hx hb dX9_init_0 rfl (lv_at hl 0 rfl) ?_
  refine lv_iload_n hx hb dX9_init_1 rfl (lv_at hl 1 rfl) ?_
  refine lv_iload_n hx hb dX9_init_2 rfl (lv_at hl 2 rfl) ?_
  refine lv_iload_n hx hb dX9_init_3 rfl (lv_at hl 3 rfl) ?_
  refine lv_iload hx hb dX9_init_4 (lv_at hl 4 rfl) ?_
  have hPc := hP.sub (ws' := [(a0, .inr (11, [.int 0, .int 0, .int 0, .int 0]))]) [0] rfl
  have hDc := hD.sub (ws' := [(a0, .inr (11, [.int 0, .int 0, .int 0, .int 0]))]) [0] (by decide) rfl
  have hKc := hK.sub (tys' := []) [] rfl
  have hFc := va_free (wc := [(a0, .inr (11, [.int 0, .int 0, .int 0, .int 0]))]) hD hS hA [0] rfl
  refine va_callv (va_runI (As := [.int x, .int y, .int z, .int u0]) (rest := []) ⟨hx, hb, hml, hown, hts⟩ (c_h6_X9 l dC dI a0 x y z u0 H.size) (cwI 4 hts ggX9_init_X6_init rfl rfl rfl (hts (.initialized RX6) kc_h9_X9_0) (hts (.methodLink RX9 1 yX6_init) kc_h9_X9_1) (hts (.instanceMethod yX6_init) kc_h9_X9_2) rfl (by decide +kernel) ⟨Nat.le_of_ble_eq_true rfl, Nat.le_of_ble_eq_true rfl⟩) ⟨fun a U g mk q => by obtain ⟨q0, q1, qP, qK, qD⟩ := q; exact ⟨q0, q1, qP, va_K.moved (u := U) (U := U.calling g mk a) (Vm.Alike.refl U.vm) qK, qD⟩, fun U hU hW => ⟨rfl, by rw [hU], by rw [hU]; exact hPc, va_K.moved hW.alike hKc, hDc.weaken (fun _ _ _ _ => trivial)⟩⟩ rfl rfl hl.1 rfl (lv_room (Nat.le_of_ble_eq_true rfl)) dX9_init_6 ⟨Nat.le_of_ble_eq_true rfl, Nat.le_of_ble_eq_true rfl⟩) hS (fun q _ h => hFc q h) hFc (fun u tC H1 locs htC hvm hw_2 hB hz1 hk1 hS => ?_)
  obtain ⟨⟩ := u
  try dsimp only at hw_2 hB
  obtain ⟨hP1, hK1, hD1⟩ := hB
  rw [htC] at hP1
  have hK1 := va_K.moved hvm.symm hK1
  obtain ⟨hP, hD⟩ := va_join (wr := []) (w1 := [(a0, .inr (11, [.int x, .int y, .int z, .int u0]))]) hP hD [0] [] rfl rfl (by decide) (by decide) hk1 hFc hP1 hD1
  have hK := (hK.sub (tys' := []) [] rfl).app hK1
  generalize H1 = H at hP hS ⊢
  have hP : va_P (dC, dI) vwCl [(a0, .inr (11, [.int x, .int y, .int z, .int u0]))] H := hP
  have hD : va_D A [(a0, .inr (11, [.int x, .int y, .int z, .int u0]))] := hD
  have hK : va_K (dC, dI) vwCl [] s := hK
  rw [hQ]
  have hP9 := hP.sub (ws' := [(a0, .inr (11, [.int x, .int y, .int z, .int u0]))]) [0] rfl
  have hD9 := hD.sub (ws' := [(a0, .inr (11, [.int x, .int y, .int z, .int u0]))]) [0] (by decide) rfl
  have hK9 := hK.sub (tys' := []) [] rfl
  exact W.vret hx hb hr (fun tQ htQ hWQ => ⟨⟨(), rfl, trivial, by rw [htQ]; exact hP9, va_K.moved hWQ.alike hK9, hD9⟩, hS.F htQ⟩) hS.2.2 dX9_init_9

theorem kc_h7_X7_0 : (.initialized RX1 : Cond) ∈ wsX7_init := by decide +kernel
theorem kc_h7_X7_1 : (.methodLink RX7 1 yX1_init : Cond) ∈ wsX7_init := by decide +kernel
theorem kc_h7_X7_2 : (.instanceMethod yX1_init : Cond) ∈ wsX7_init := by decide +kernel
set_option maxHeartbeats 4000000 in
set_option maxRecDepth 100000 in
theorem c_h7_X7 (l : Launch) (dC : Nat → ClassId) (dI : Nat → Nat → Nat) (a0 : Nat) (x y z u0 : Int32) (sz : Nat) : Met l yX7_init wsX7_init ({ frames := 3, cells := 0, slots := 0, locals := 60 } : Room) (va_Pc [.ref a0, .int x, .int y, .int z, .int u0] (fun U => U.heap.size = sz ∧ va_P (dC, dI) vwCl [(a0, .inr (9, [.int 0, .int 0, .int 0, .int 0]))] U.heap ∧ va_K (dC, dI) vwCl [] U ∧ va_D (fun _ => True) [(a0, .inr (9, [.int 0, .int 0, .int 0, .int 0]))])) (va_Qv (fun (u : Unit) => match u with | () => True) (fun (u : Unit) (t : State) => match u with | () => va_P (dC, dI) vwCl [(a0, .inr (9, [.int x, .int y, .int z, .int u0]))] t.heap ∧ va_K (dC, dI) vwCl [] t ∧ va_D (va_A [(a0, .inr (9, [.int 0, .int 0, .int 0, .int 0]))] sz) [(a0, .inr (9, [.int x, .int y, .int z, .int u0]))]) (va_A [(a0, .inr (9, [.int 0, .int 0, .int 0, .int 0]))] sz)) 0 0 (va_A [(a0, .inr (9, [.int 0, .int 0, .int 0, .int 0]))] sz) := by
  refine met_ofQ (cc := cX7_init) (maxL := 5) (ret := none) (by decide) rfl ?_
  intro p e s m args below meth c s₁ Q B hml hv hQ
  obtain ⟨rfl, hsz, hP, hK, hD0⟩ := hv
  have hx := B.exec
  have hb := B.bytes
  have hr := B.returns
  have hts := atoms_spec (ws := wsX7_init) B.pre
  have hown : s.vm.findClass RX7 = some m.cls := findClass_of_methodNamed B.named
  have hlocks := B.notSynchronized
  have hin : meth.name = "<init>" := (name_of_methodNamed B.named B.method).1
  subst hsz
  have hD := hD0.self (sz := s.heap.size)
  generalize hAe : va_A [(a0, .inr (9, [.int 0, .int 0, .int 0, .int 0]))] s.heap.size = A at hD hQ ⊢
  have hA : ∀ q : Nat, s.heap.size ≤ q → A q := fun q h => by rw [← hAe]; exact Or.inr h
  have hS : va_S A s.heap s.heap [] := va_S.rf
  have hl := lv_entry [.ref a0, .int x, .int y, .int z, .int u0] (n := 5) (Nat.le_of_ble_eq_true rfl)
  rw [lg_entry_eq]
  generalize (lg_sl [.ref a0, .int x, .int y, .int z, .int u0] ++ List.replicate (5 - (lg_sl [.ref a0, .int x, .int y, .int z, .int u0]).length) Slot.unset).toArray = ls at hl ⊢
  generalize hag : ([.ref a0, .int x, .int y, .int z, .int u0] : List Value).toArray = args at hts hQ ⊢
  have hl : lv_has ls 5 [(0, .ref a0), (1, .int x), (2, .int y), (3, .int z), (4, .int u0)] := hl
  obtain ⟨H, hH⟩ : ∃ H : Heap, H = s.heap := ⟨_, rfl⟩
  rw [← hH] at hP
  rw [← hH]
  have hS : va_S A s.heap H [] := by rw [hH]; exact hS
  obtain ⟨locs, hlo⟩ : ∃ L : List Loc, L = [] := ⟨_, rfl⟩
  rw [← hlo] at hS
  rw [← hlo]
  clear hH hlo
  refine lv_aload_n hx hb dX7_init_0 rfl (lv_at hl 0 rfl) ?_
  refine lv_iload_n hx hb dX7_init_1 rfl (lv_at hl 1 rfl) ?_
  refine lv_iload_n hx hb dX7_init_2 rfl (lv_at hl 2 rfl) ?_
  refine lv_iload_n hx hb dX7_init_3 rfl (lv_at hl 3 rfl) ?_
  refine lv_iload hx hb dX7_init_4 (lv_at hl 4 rfl) ?_
  have hPc := hP.sub (ws' := [(a0, .inr (9, [.int 0, .int 0, .int 0, .int 0]))]) [0] rfl
  have hDc := hD.sub (ws' := [(a0, .inr (9, [.int 0, .int 0, .int 0, .int 0]))]) [0] (by decide) rfl
  have hKc := hK.sub (tys' := []) [] rfl
  have hFc := va_free (wc := [(a0, .inr (9, [.int 0, .int 0, .int 0, .int 0]))]) hD hS hA [0] rfl
  refine va_callv (va_runI (As := [.int x, .int y, .int z, .int u0]) (rest := []) ⟨hx, hb, hml, hown, hts⟩ (c_h1_X7 l dC dI a0 x y z u0 H.size) (cwI 4 hts ggX7_init_X1_init rfl rfl rfl (hts (.initialized RX1) kc_h7_X7_0) (hts (.methodLink RX7 1 yX1_init) kc_h7_X7_1) (hts (.instanceMethod yX1_init) kc_h7_X7_2) rfl (by decide +kernel) ⟨Nat.le_of_ble_eq_true rfl, Nat.le_of_ble_eq_true rfl⟩) ⟨fun a U g mk q => by obtain ⟨q0, q1, qP, qK, qD⟩ := q; exact ⟨q0, q1, qP, va_K.moved (u := U) (U := U.calling g mk a) (Vm.Alike.refl U.vm) qK, qD⟩, fun U hU hW => ⟨rfl, by rw [hU], by rw [hU]; exact hPc, va_K.moved hW.alike hKc, hDc.weaken (fun _ _ _ _ => trivial)⟩⟩ rfl rfl hl.1 rfl (lv_room (Nat.le_of_ble_eq_true rfl)) dX7_init_6 ⟨Nat.le_of_ble_eq_true rfl, Nat.le_of_ble_eq_true rfl⟩) hS (fun q _ h => hFc q h) hFc (fun u tC H1 locs htC hvm hw_2 hB hz1 hk1 hS => ?_)
  obtain ⟨⟩ := u
  try dsimp only at hw_2 hB
  obtain ⟨hP1, hK1, hD1⟩ := hB
  rw [htC] at hP1
  have hK1 := va_K.moved hvm.symm hK1
  obtain ⟨hP, hD⟩ := va_join (wr := []) (w1 := [(a0, .inr (9, [.int x, .int y, .int z, .int u0]))]) hP hD [0] [] rfl rfl (by decide) (by decide) hk1 hFc hP1 hD1
  have hK := (hK.sub (tys' := []) [] rfl).app hK1
  generalize H1 = H at hP hS ⊢
  have hP : va_P (dC, dI) vwCl [(a0, .inr (9, [.int x, .int y, .int z, .int u0]))] H := hP
  have hD : va_D A [(a0, .inr (9, [.int x, .int y, .int z, .int u0]))] := hD
  have hK : va_K (dC, dI) vwCl [] s := hK
  rw [hQ]
  have hP9 := hP.sub (ws' := [(a0, .inr (9, [.int x, .int y, .int z, .int u0]))]) [0] rfl
  have hD9 := hD.sub (ws' := [(a0, .inr (9, [.int x, .int y, .int z, .int u0]))]) [0] (by decide) rfl
  have hK9 := hK.sub (tys' := []) [] rfl
  exact W.vret hx hb hr (fun tQ htQ hWQ => ⟨⟨(), rfl, trivial, by rw [htQ]; exact hP9, va_K.moved hWQ.alike hK9, hD9⟩, hS.F htQ⟩) hS.2.2 dX7_init_9
