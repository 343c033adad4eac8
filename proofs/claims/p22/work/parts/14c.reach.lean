theorem ggX4_reachBy_X3_reachBy : GoodIn wsX4_reachBy wsX3_reachBy := gga_of 683 rfl rfl rfl
theorem gX4_reachBy_X3_reachBy_s13 : GoodIn wsX4_reachBy (va_wsSU RX4 13 yX3_reachBy wsX3_reachBy) := goodIn_app (ggh_of [666, 661, 567, 659, 67] rfl rfl rfl) ggX4_reachBy_X3_reachBy
theorem ggX6_reachBy_X3_reachBy : GoodIn wsX6_reachBy wsX3_reachBy := gga_of 683 rfl rfl rfl
theorem gX6_reachBy_X3_reachBy_s7 : GoodIn wsX6_reachBy (va_wsSU RX6 7 yX3_reachBy wsX3_reachBy) := goodIn_app (ggh_of [670, 661, 578, 659, 67] rfl rfl rfl) ggX6_reachBy_X3_reachBy
theorem ggX9_reachBy_X6_reachBy : GoodIn wsX9_reachBy wsX6_reachBy := gga_of 669 rfl rfl rfl
theorem gX9_reachBy_X6_reachBy_s13 : GoodIn wsX9_reachBy (va_wsSU RX9 13 yX6_reachBy wsX6_reachBy) := goodIn_app (ggh_of [681, 1542, 611, 668, 82] rfl rfl rfl) ggX9_reachBy_X6_reachBy
noncomputable def dk14creach_cX3_reachBy_0 : List (Nat × Instr × Nat) := [(0, .iconst 0, 1), (1, .iload_n 1, 1), (2, .invokestatic 28, 3), (5, .ireturn, 1)]
set_option maxRecDepth 100000 in
theorem dk14creach_cX3_reachBy_0_a : dkA cX3_reachBy dk14creach_cX3_reachBy_0 = true := by decide +kernel
theorem dX3_reachBy_0 : decode cX3_reachBy 0 = .ok (.iconst 0, 1) := dkAt dk14creach_cX3_reachBy_0_a 0 rfl
theorem dX3_reachBy_1 : decode cX3_reachBy 1 = .ok (.iload_n 1, 1) := dkAt dk14creach_cX3_reachBy_0_a 1 rfl
theorem dX3_reachBy_2 : decode cX3_reachBy 2 = .ok (.invokestatic 28, 3) := dkAt dk14creach_cX3_reachBy_0_a 2 rfl
theorem dX3_reachBy_5 : decode cX3_reachBy 5 = .ok (.ireturn, 1) := dkAt dk14creach_cX3_reachBy_0_a 3 rfl
noncomputable def dk14creach_cX4_reachBy_0 : List (Nat × Instr × Nat) := [(0, .aload_n 0, 1), (1, .iload_n 1, 1), (2, .aload_n 0, 1), (3, .getfield 7, 3), (6, .iconst 3, 1), (7, .idiv, 1), (8, .iadd, 1), (9, .iload_n 2, 1), (10, .invokespecial 13, 3), (13, .ireturn, 1)]
set_option maxRecDepth 100000 in
theorem dk14creach_cX4_reachBy_0_a : dkA cX4_reachBy dk14creach_cX4_reachBy_0 = true := by decide +kernel
theorem dX4_reachBy_0 : decode cX4_reachBy 0 = .ok (.aload_n 0, 1) := dkAt dk14creach_cX4_reachBy_0_a 0 rfl
theorem dX4_reachBy_1 : decode cX4_reachBy 1 = .ok (.iload_n 1, 1) := dkAt dk14creach_cX4_reachBy_0_a 1 rfl
theorem dX4_reachBy_2 : decode cX4_reachBy 2 = .ok (.aload_n 0, 1) := dkAt dk14creach_cX4_reachBy_0_a 2 rfl
theorem dX4_reachBy_3 : decode cX4_reachBy 3 = .ok (.getfield 7, 3) := dkAt dk14creach_cX4_reachBy_0_a 3 rfl
theorem dX4_reachBy_6 : decode cX4_reachBy 6 = .ok (.iconst 3, 1) := dkAt dk14creach_cX4_reachBy_0_a 4 rfl
theorem dX4_reachBy_7 : decode cX4_reachBy 7 = .ok (.idiv, 1) := dkAt dk14creach_cX4_reachBy_0_a 5 rfl
theorem dX4_reachBy_8 : decode cX4_reachBy 8 = .ok (.iadd, 1) := dkAt dk14creach_cX4_reachBy_0_a 6 rfl
theorem dX4_reachBy_9 : decode cX4_reachBy 9 = .ok (.iload_n 2, 1) := dkAt dk14creach_cX4_reachBy_0_a 7 rfl
theorem dX4_reachBy_10 : decode cX4_reachBy 10 = .ok (.invokespecial 13, 3) := dkAt dk14creach_cX4_reachBy_0_a 8 rfl
theorem dX4_reachBy_13 : decode cX4_reachBy 13 = .ok (.ireturn, 1) := dkAt dk14creach_cX4_reachBy_0_a 9 rfl
noncomputable def dk14creach_cX6_reachBy_0 : List (Nat × Instr × Nat) := [(0, .aload_n 0, 1), (1, .iload_n 1, 1), (2, .iconst 1, 1), (3, .isub, 1), (4, .iload_n 2, 1), (5, .invokespecial 7, 3), (8, .ireturn, 1)]
set_option maxRecDepth 100000 in
theorem dk14creach_cX6_reachBy_0_a : dkA cX6_reachBy dk14creach_cX6_reachBy_0 = true := by decide +kernel
theorem dX6_reachBy_0 : decode cX6_reachBy 0 = .ok (.aload_n 0, 1) := dkAt dk14creach_cX6_reachBy_0_a 0 rfl
theorem dX6_reachBy_1 : decode cX6_reachBy 1 = .ok (.iload_n 1, 1) := dkAt dk14creach_cX6_reachBy_0_a 1 rfl
theorem dX6_reachBy_2 : decode cX6_reachBy 2 = .ok (.iconst 1, 1) := dkAt dk14creach_cX6_reachBy_0_a 2 rfl
theorem dX6_reachBy_3 : decode cX6_reachBy 3 = .ok (.isub, 1) := dkAt dk14creach_cX6_reachBy_0_a 3 rfl
theorem dX6_reachBy_4 : decode cX6_reachBy 4 = .ok (.iload_n 2, 1) := dkAt dk14creach_cX6_reachBy_0_a 4 rfl
theorem dX6_reachBy_5 : decode cX6_reachBy 5 = .ok (.invokespecial 7, 3) := dkAt dk14creach_cX6_reachBy_0_a 5 rfl
theorem dX6_reachBy_8 : decode cX6_reachBy 8 = .ok (.ireturn, 1) := dkAt dk14creach_cX6_reachBy_0_a 6 rfl
noncomputable def dk14creach_cX9_reachBy_0 : List (Nat × Instr × Nat) := [(0, .iload_n 2, 1), (1, .aload_n 0, 1), (2, .getfield 7, 3), (5, .if_icmp .le 7, 3), (12, .aload_n 0, 1), (13, .iload_n 1, 1), (14, .iload_n 2, 1), (15, .invokespecial 13, 3), (18, .ireturn, 1), (8, .iconst 0, 1), (9, .goto 9, 3)]
set_option maxRecDepth 100000 in
theorem dk14creach_cX9_reachBy_0_a : dkA cX9_reachBy dk14creach_cX9_reachBy_0 = true := by decide +kernel
theorem dX9_reachBy_0 : decode cX9_reachBy 0 = .ok (.iload_n 2, 1) := dkAt dk14creach_cX9_reachBy_0_a 0 rfl
theorem dX9_reachBy_1 : decode cX9_reachBy 1 = .ok (.aload_n 0, 1) := dkAt dk14creach_cX9_reachBy_0_a 1 rfl
theorem dX9_reachBy_2 : decode cX9_reachBy 2 = .ok (.getfield 7, 3) := dkAt dk14creach_cX9_reachBy_0_a 2 rfl
theorem dX9_reachBy_5 : decode cX9_reachBy 5 = .ok (.if_icmp .le 7, 3) := dkAt dk14creach_cX9_reachBy_0_a 3 rfl
theorem dX9_reachBy_12 : decode cX9_reachBy 12 = .ok (.aload_n 0, 1) := dkAt dk14creach_cX9_reachBy_0_a 4 rfl
theorem dX9_reachBy_13 : decode cX9_reachBy 13 = .ok (.iload_n 1, 1) := dkAt dk14creach_cX9_reachBy_0_a 5 rfl
theorem dX9_reachBy_14 : decode cX9_reachBy 14 = .ok (.iload_n 2, 1) := dkAt dk14creach_cX9_reachBy_0_a 6 rfl
theorem dX9_reachBy_15 : decode cX9_reachBy 15 = .ok (.invokespecial 13, 3) := dkAt dk14creach_cX9_reachBy_0_a 7 rfl
theorem dX9_reachBy_18 : decode cX9_reachBy 18 = .ok (.ireturn, 1) := dkAt dk14creach_cX9_reachBy_0_a 8 rfl
theorem dX9_reachBy_8 : decode cX9_reachBy 8 = .ok (.iconst 0, 1) := dkAt dk14creach_cX9_reachBy_0_a 9 rfl
theorem dX9_reachBy_9 : decode cX9_reachBy 9 = .ok (.goto 9, 3) := dkAt dk14creach_cX9_reachBy_0_a 10 rfl
theorem kc_reach3_X1_0 : (.methodLink RX3 28 Lib.Math.max.name : Cond) ∈ wsX3_reachBy := kc_of 684 rfl rfl rfl
theorem kc_reach3_X1_1 : (.static Lib.Math.max.name : Cond) ∈ wsX3_reachBy := kc_of 426 rfl rfl rfl
theorem kc_reach3_X1_2 : (.initialized "java/lang/Math" : Cond) ∈ wsX3_reachBy := kc_of 77 rfl rfl rfl
theorem kc_reach3_X1_3 : (.code Lib.Math.max.name Lib.Math.max.code 2 (some .int) : Cond) ∈ wsX3_reachBy := kc_of 427 rfl rfl rfl
set_option maxHeartbeats 4000000 in
set_option maxRecDepth 100000 in
theorem c_reach3_X1 (l : Launch) (dC : Nat → ClassId) (dI : Nat → Nat → Nat)  (i0 : Nat) (sk : Int32) (sv : Int32) (scl : Int32) (x : Int32) (y : Int32) (a0 : Nat) : Met l yX3_reachBy wsX3_reachBy ({ frames := 1, cells := 0, slots := 0, locals := 13 } : Room) (va_Pc [.ref a0, .int x, .int y] (fun U => Fz dC dI [(zo3iiii a0 sk (nI i0) sv scl)] [] (fun _ => False) U)) (vp_Si (fun r => r = mx0 x)) 0 0 (fun _ => False) := by
  refine met_ofQ (cc := cX3_reachBy) (maxL := 3) (ret := (some .int)) (by decide) rfl ?_
  intro p e s m args below meth c s₁ Q B hml hv hQ
  obtain ⟨rfl, hZ⟩ := hv
  have hx := B.exec
  have hb := B.bytes
  have hr := B.returns
  have hts := atoms_spec (ws := wsX3_reachBy) B.pre
  have hown : s.vm.findClass RX3 = some m.cls := findClass_of_methodNamed B.named
  have hlocks := B.notSynchronized
  obtain ⟨A, hAe⟩ : ∃ A : Nat → Prop, A = fun _ => False := ⟨_, rfl⟩
  rw [← hAe] at hQ hZ
  have hS : va_S A s.heap s.heap [] := va_S.rf
  have hl := lv_entry [.ref a0, .int x, .int y] (n := 3) (Nat.le_of_ble_eq_true rfl)
  rw [lg_entry_eq]
  generalize (lg_sl [.ref a0, .int x, .int y] ++ List.replicate (3 - (lg_sl [.ref a0, .int x, .int y]).length) Slot.unset).toArray = ls at hl ⊢
  generalize hag : ([.ref a0, .int x, .int y] : List Value).toArray = args at hts hQ ⊢
  have hl : lv_has ls 3 [(0, .ref a0), (1, .int x), (2, .int y)] := hl
  refine lv_iconst (v := 0) hx hb dX3_reachBy_0 (by decide) ?_
  refine lv_iload_n hx hb dX3_reachBy_1 rfl (lv_at hl 1 rfl) ?_
  refine va_mmax hx hb (by rw [hml]; exact hl.1.symm) hown (hts (.methodLink RX3 28 Lib.Math.max.name) kc_reach3_X1_0) (hts (.static Lib.Math.max.name) kc_reach3_X1_1) (hts (.initialized "java/lang/Math") kc_reach3_X1_2) (hts (.code Lib.Math.max.name Lib.Math.max.code 2 (some .int)) kc_reach3_X1_3) (Nat.le_of_ble_eq_true rfl) (Nat.le_of_ble_eq_true rfl) (Nat.le_of_ble_eq_true rfl) (Nat.le_of_ble_eq_true rfl) dX3_reachBy_2 ?_
  rw [hQ]
  exact W.iret (v := (if 0 < x then x else 0)) hx hb hr (fun tQ htQ hWQ => ⟨(if 0 < x then x else 0), rfl, rfl, by rw [htQ]⟩) (fun q hq => absurd hq List.not_mem_nil) dX3_reachBy_5

theorem kc_reach3_X3_0 : (.methodLink RX3 28 Lib.Math.max.name : Cond) ∈ wsX3_reachBy := kc_of 684 rfl rfl rfl
theorem kc_reach3_X3_1 : (.static Lib.Math.max.name : Cond) ∈ wsX3_reachBy := kc_of 426 rfl rfl rfl
theorem kc_reach3_X3_2 : (.initialized "java/lang/Math" : Cond) ∈ wsX3_reachBy := kc_of 77 rfl rfl rfl
theorem kc_reach3_X3_3 : (.code Lib.Math.max.name Lib.Math.max.code 2 (some .int) : Cond) ∈ wsX3_reachBy := kc_of 427 rfl rfl rfl
set_option maxHeartbeats 4000000 in
set_option maxRecDepth 100000 in
theorem c_reach3_X3 (l : Launch) (dC : Nat → ClassId) (dI : Nat → Nat → Nat)  (i0 : Nat) (sk : Int32) (sv : Int32) (scl : Int32) (x : Int32) (y : Int32) (a0 : Nat) : Met l yX3_reachBy wsX3_reachBy ({ frames := 1, cells := 0, slots := 0, locals := 13 } : Room) (va_Pc [.ref a0, .int x, .int y] (fun U => Fz dC dI [(zo5iiii a0 sk (nI i0) sv scl)] [] (fun _ => False) U)) (vp_Si (fun r => r = mx0 x)) 0 0 (fun _ => False) := by
  refine met_ofQ (cc := cX3_reachBy) (maxL := 3) (ret := (some .int)) (by decide) rfl ?_
  intro p e s m args below meth c s₁ Q B hml hv hQ
  obtain ⟨rfl, hZ⟩ := hv
  have hx := B.exec
  have hb := B.bytes
  have hr := B.returns
  have hts := atoms_spec (ws := wsX3_reachBy) B.pre
  have hown : s.vm.findClass RX3 = some m.cls := findClass_of_methodNamed B.named
  have hlocks := B.notSynchronized
  obtain ⟨A, hAe⟩ : ∃ A : Nat → Prop, A = fun _ => False := ⟨_, rfl⟩
  rw [← hAe] at hQ hZ
  have hS : va_S A s.heap s.heap [] := va_S.rf
  have hl := lv_entry [.ref a0, .int x, .int y] (n := 3) (Nat.le_of_ble_eq_true rfl)
  rw [lg_entry_eq]
  generalize (lg_sl [.ref a0, .int x, .int y] ++ List.replicate (3 - (lg_sl [.ref a0, .int x, .int y]).length) Slot.unset).toArray = ls at hl ⊢
  generalize hag : ([.ref a0, .int x, .int y] : List Value).toArray = args at hts hQ ⊢
  have hl : lv_has ls 3 [(0, .ref a0), (1, .int x), (2, .int y)] := hl
  refine lv_iconst (v := 0) hx hb dX3_reachBy_0 (by decide) ?_
  refine lv_iload_n hx hb dX3_reachBy_1 rfl (lv_at hl 1 rfl) ?_
  refine va_mmax hx hb (by rw [hml]; exact hl.1.symm) hown (hts (.methodLink RX3 28 Lib.Math.max.name) kc_reach3_X3_0) (hts (.static Lib.Math.max.name) kc_reach3_X3_1) (hts (.initialized "java/lang/Math") kc_reach3_X3_2) (hts (.code Lib.Math.max.name Lib.Math.max.code 2 (some .int)) kc_reach3_X3_3) (Nat.le_of_ble_eq_true rfl) (Nat.le_of_ble_eq_true rfl) (Nat.le_of_ble_eq_true rfl) (Nat.le_of_ble_eq_true rfl) dX3_reachBy_2 ?_
  rw [hQ]
  exact W.iret (v := (if 0 < x then x else 0)) hx hb hr (fun tQ htQ hWQ => ⟨(if 0 < x then x else 0), rfl, rfl, by rw [htQ]⟩) (fun q hq => absurd hq List.not_mem_nil) dX3_reachBy_5

theorem kc_reach3_X4_0 : (.methodLink RX3 28 Lib.Math.max.name : Cond) ∈ wsX3_reachBy := kc_of 684 rfl rfl rfl
theorem kc_reach3_X4_1 : (.static Lib.Math.max.name : Cond) ∈ wsX3_reachBy := kc_of 426 rfl rfl rfl
theorem kc_reach3_X4_2 : (.initialized "java/lang/Math" : Cond) ∈ wsX3_reachBy := kc_of 77 rfl rfl rfl
theorem kc_reach3_X4_3 : (.code Lib.Math.max.name Lib.Math.max.code 2 (some .int) : Cond) ∈ wsX3_reachBy := kc_of 427 rfl rfl rfl
set_option maxHeartbeats 4000000 in
set_option maxRecDepth 100000 in
theorem c_reach3_X4 (l : Launch) (dC : Nat → ClassId) (dI : Nat → Nat → Nat)  (i0 : Nat) (sk : Int32) (sv : Int32) (scl : Int32) (x : Int32) (y : Int32) (a0 : Nat) : Met l yX3_reachBy wsX3_reachBy ({ frames := 1, cells := 0, slots := 0, locals := 13 } : Room) (va_Pc [.ref a0, .int x, .int y] (fun U => Fz dC dI [(zo6iiii a0 sk (nI i0) sv scl)] [] (fun _ => False) U)) (vp_Si (fun r => r = mx0 x)) 0 0 (fun _ => False) := by
  refine met_ofQ (cc := cX3_reachBy) (maxL := 3) (ret := (some .int)) (by decide) rfl ?_
  intro p e s m args below meth c s₁ Q B hml hv hQ
  obtain ⟨rfl, hZ⟩ := hv
  have hx := B.exec
  have hb := B.bytes
  have hr := B.returns
  have hts := atoms_spec (ws := wsX3_reachBy) B.pre
  have hown : s.vm.findClass RX3 = some m.cls := findClass_of_methodNamed B.named
  have hlocks := B.notSynchronized
  obtain ⟨A, hAe⟩ : ∃ A : Nat → Prop, A = fun _ => False := ⟨_, rfl⟩
  rw [← hAe] at hQ hZ
  have hS : va_S A s.heap s.heap [] := va_S.rf
  have hl := lv_entry [.ref a0, .int x, .int y] (n := 3) (Nat.le_of_ble_eq_true rfl)
  rw [lg_entry_eq]
  generalize (lg_sl [.ref a0, .int x, .int y] ++ List.replicate (3 - (lg_sl [.ref a0, .int x, .int y]).length) Slot.unset).toArray = ls at hl ⊢
  generalize hag : ([.ref a0, .int x, .int y] : List Value).toArray = args at hts hQ ⊢
  have hl : lv_has ls 3 [(0, .ref a0), (1, .int x), (2, .int y)] := hl
  refine lv_iconst (v := 0) hx hb dX3_reachBy_0 (by decide) ?_
  refine lv_iload_n hx hb dX3_reachBy_1 rfl (lv_at hl 1 rfl) ?_
  refine va_mmax hx hb (by rw [hml]; exact hl.1.symm) hown (hts (.methodLink RX3 28 Lib.Math.max.name) kc_reach3_X4_0) (hts (.static Lib.Math.max.name) kc_reach3_X4_1) (hts (.initialized "java/lang/Math") kc_reach3_X4_2) (hts (.code Lib.Math.max.name Lib.Math.max.code 2 (some .int)) kc_reach3_X4_3) (Nat.le_of_ble_eq_true rfl) (Nat.le_of_ble_eq_true rfl) (Nat.le_of_ble_eq_true rfl) (Nat.le_of_ble_eq_true rfl) dX3_reachBy_2 ?_
  rw [hQ]
  exact W.iret (v := (if 0 < x then x else 0)) hx hb hr (fun tQ htQ hWQ => ⟨(if 0 < x then x else 0), rfl, rfl, by rw [htQ]⟩) (fun q hq => absurd hq List.not_mem_nil) dX3_reachBy_5

theorem kc_reach3_X6_0 : (.methodLink RX3 28 Lib.Math.max.name : Cond) ∈ wsX3_reachBy := kc_of 684 rfl rfl rfl
theorem kc_reach3_X6_1 : (.static Lib.Math.max.name : Cond) ∈ wsX3_reachBy := kc_of 426 rfl rfl rfl
theorem kc_reach3_X6_2 : (.initialized "java/lang/Math" : Cond) ∈ wsX3_reachBy := kc_of 77 rfl rfl rfl
theorem kc_reach3_X6_3 : (.code Lib.Math.max.name Lib.Math.max.code 2 (some .int) : Cond) ∈ wsX3_reachBy := kc_of 427 rfl rfl rfl
set_option maxHeartbeats 4000000 in
set_option maxRecDepth 100000 in
theorem c_reach3_X6 (l : Launch) (dC : Nat → ClassId) (dI : Nat → Nat → Nat)  (i0 : Nat) (sk : Int32) (sv : Int32) (scl : Int32) (x : Int32) (y : Int32) (a0 : Nat) : Met l yX3_reachBy wsX3_reachBy ({ frames := 1, cells := 0, slots := 0, locals := 13 } : Room) (va_Pc [.ref a0, .int x, .int y] (fun U => Fz dC dI [(zo8iiii a0 sk (nI i0) sv scl)] [] (fun _ => False) U)) (vp_Si (fun r => r = mx0 x)) 0 0 (fun _ => False) := by
  refine met_ofQ (cc := cX3_reachBy) (maxL := 3) (ret := (some .int)) (by decide) rfl ?_
  intro p e s m args below meth c s₁ Q B hml hv hQ
  obtain ⟨rfl, hZ⟩ := hv
  have hx := B.exec
  have hb := B.bytes
  have hr := B.returns
  have hts := atoms_spec (ws := wsX3_reachBy) B.pre
  have hown : s.vm.findClass RX3 = some m.cls := findClass_of_methodNamed B.named
  have hlocks := B.notSynchronized
  obtain ⟨A, hAe⟩ : ∃ A : Nat → Prop, A = fun _ => False := ⟨_, rfl⟩
  rw [← hAe] at hQ hZ
  have hS : va_S A s.heap s.heap [] := va_S.rf
  have hl := lv_entry [.ref a0, .int x, .int y] (n := 3) (Nat.le_of_ble_eq_true rfl)
  rw [lg_entry_eq]
  generalize (lg_sl [.ref a0, .int x, .int y] ++ List.replicate (3 - (lg_sl [.ref a0, .int x, .int y]).length) Slot.unset).toArray = ls at hl ⊢
  generalize hag : ([.ref a0, .int x, .int y] : List Value).toArray = args at hts hQ ⊢
  have hl : lv_has ls 3 [(0, .ref a0), (1, .int x), (2, .int y)] := hl
  refine lv_iconst (v := 0) hx hb dX3_reachBy_0 (by decide) ?_
  refine lv_iload_n hx hb dX3_reachBy_1 rfl (lv_at hl 1 rfl) ?_
  refine va_mmax hx hb (by rw [hml]; exact hl.1.symm) hown (hts (.methodLink RX3 28 Lib.Math.max.name) kc_reach3_X6_0) (hts (.static Lib.Math.max.name) kc_reach3_X6_1) (hts (.initialized "java/lang/Math") kc_reach3_X6_2) (hts (.code Lib.Math.max.name Lib.Math.max.code 2 (some .int)) kc_reach3_X6_3) (Nat.le_of_ble_eq_true rfl) (Nat.le_of_ble_eq_true rfl) (Nat.le_of_ble_eq_true rfl) (Nat.le_of_ble_eq_true rfl) dX3_reachBy_2 ?_
  rw [hQ]
  exact W.iret (v := (if 0 < x then x else 0)) hx hb hr (fun tQ htQ hWQ => ⟨(if 0 < x then x else 0), rfl, rfl, by rw [htQ]⟩) (fun q hq => absurd hq List.not_mem_nil) dX3_reachBy_5

theorem kc_reach3_X9_0 : (.methodLink RX3 28 Lib.Math.max.name : Cond) ∈ wsX3_reachBy := kc_of 684 rfl rfl rfl
theorem kc_reach3_X9_1 : (.static Lib.Math.max.name : Cond) ∈ wsX3_reachBy := kc_of 426 rfl rfl rfl
theorem kc_reach3_X9_2 : (.initialized "java/lang/Math" : Cond) ∈ wsX3_reachBy := kc_of 77 rfl rfl rfl
theorem kc_reach3_X9_3 : (.code Lib.Math.max.name Lib.Math.max.code 2 (some .int) : Cond) ∈ wsX3_reachBy := kc_of 427 rfl rfl rfl
set_option maxHeartbeats 4000000 in
set_option maxRecDepth 100000 in
theorem c_reach3_X9 (l : Launch) (dC : Nat → ClassId) (dI : Nat → Nat → Nat)  (i0 : Nat) (sk : Int32) (sv : Int32) (scl : Int32) (x : Int32) (y : Int32) (a0 : Nat) : Met l yX3_reachBy wsX3_reachBy ({ frames := 1, cells := 0, slots := 0, locals := 13 } : Room) (va_Pc [.ref a0, .int x, .int y] (fun U => Fz dC dI [(zo11iiii a0 sk (nI i0) sv scl)] [] (fun _ => False) U)) (vp_Si (fun r => r = mx0 x)) 0 0 (fun _ => False) := by
  refine met_ofQ (cc := cX3_reachBy) (maxL := 3) (ret := (some .int)) (by decide) rfl ?_
  intro p e s m args below meth c s₁ Q B hml hv hQ
  obtain ⟨rfl, hZ⟩ := hv
  have hx := B.exec
  have hb := B.bytes
  have hr := B.returns
  have hts := atoms_spec (ws := wsX3_reachBy) B.pre
  have hown : s.vm.findClass RX3 = some m.cls := findClass_of_methodNamed B.named
  have hlocks := B.notSynchronized
  obtain ⟨A, hAe⟩ : ∃ A : Nat → Prop, A = fun _ => False := ⟨_, rfl⟩
  rw [← hAe] at hQ hZ
  have hS : va_S A s.heap s.heap [] := va_S.rf
  have hl := lv_entry [.ref a0, .int x, .int y] (n := 3) (Nat.le_of_ble_eq_true rfl)
  rw [lg_entry_eq]
  generalize (lg_sl [.ref a0, .int x, .int y] ++ List.replicate (3 - (lg_sl [.ref a0, .int x, .int y]).length) Slot.unset).toArray = ls at hl ⊢
  generalize hag : ([.ref a0, .int x, .int y] : List Value).toArray = args at hts hQ ⊢
  have hl : lv_has ls 3 [(0, .ref a0), (1, .int x), (2, .int y)] := hl
  refine lv_iconst (v := 0) hx hb dX3_reachBy_0 (by decide) ?_
  refine lv_iload_n hx hb dX3_reachBy_1 rfl (lv_at hl 1 rfl) ?_
  refine va_mmax hx hb (by rw [hml]; exact hl.1.symm) hown (hts (.methodLink RX3 28 Lib.Math.max.name) kc_reach3_X9_0) (hts (.static Lib.Math.max.name) kc_reach3_X9_1) (hts (.initialized "java/lang/Math") kc_reach3_X9_2) (hts (.code Lib.Math.max.name Lib.Math.max.code 2 (some .int)) kc_reach3_X9_3) (Nat.le_of_ble_eq_true rfl) (Nat.le_of_ble_eq_true rfl) (Nat.le_of_ble_eq_true rfl) (Nat.le_of_ble_eq_true rfl) dX3_reachBy_2 ?_
  rw [hQ]
  exact W.iret (v := (if 0 < x then x else 0)) hx hb hr (fun tQ htQ hWQ => ⟨(if 0 < x then x else 0), rfl, rfl, by rw [htQ]⟩) (fun q hq => absurd hq List.not_mem_nil) dX3_reachBy_5

theorem kc_reach3_X10_0 : (.methodLink RX3 28 Lib.Math.max.name : Cond) ∈ wsX3_reachBy := kc_of 684 rfl rfl rfl
theorem kc_reach3_X10_1 : (.static Lib.Math.max.name : Cond) ∈ wsX3_reachBy := kc_of 426 rfl rfl rfl
theorem kc_reach3_X10_2 : (.initialized "java/lang/Math" : Cond) ∈ wsX3_reachBy := kc_of 77 rfl rfl rfl
theorem kc_reach3_X10_3 : (.code Lib.Math.max.name Lib.Math.max.code 2 (some .int) : Cond) ∈ wsX3_reachBy := kc_of 427 rfl rfl rfl
set_option maxHeartbeats 4000000 in
set_option maxRecDepth 100000 in
theorem c_reach3_X10 (l : Launch) (dC : Nat → ClassId) (dI : Nat → Nat → Nat)  (i0 : Nat) (sk : Int32) (sv : Int32) (scl : Int32) (x : Int32) (y : Int32) (a0 : Nat) : Met l yX3_reachBy wsX3_reachBy ({ frames := 1, cells := 0, slots := 0, locals := 13 } : Room) (va_Pc [.ref a0, .int x, .int y] (fun U => Fz dC dI [(zo12iiii a0 sk (nI i0) sv scl)] [] (fun _ => False) U)) (vp_Si (fun r => r = mx0 x)) 0 0 (fun _ => False) := by
  refine met_ofQ (cc := cX3_reachBy) (maxL := 3) (ret := (some .int)) (by decide) rfl ?_
  intro p e s m args below meth c s₁ Q B hml hv hQ
  obtain ⟨rfl, hZ⟩ := hv
  have hx := B.exec
  have hb := B.bytes
  have hr := B.returns
  have hts := atoms_spec (ws := wsX3_reachBy) B.pre
  have hown : s.vm.findClass RX3 = some m.cls := findClass_of_methodNamed B.named
  have hlocks := B.notSynchronized
  obtain ⟨A, hAe⟩ : ∃ A : Nat → Prop, A = fun _ => False := ⟨_, rfl⟩
  rw [← hAe] at hQ hZ
  have hS : va_S A s.heap s.heap [] := va_S.rf
  have hl := lv_entry [.ref a0, .int x, .int y] (n := 3) (Nat.le_of_ble_eq_true rfl)
  rw [lg_entry_eq]
  generalize (lg_sl [.ref a0, .int x, .int y] ++ List.replicate (3 - (lg_sl [.ref a0, .int x, .int y]).length) Slot.unset).toArray = ls at hl ⊢
  generalize hag : ([.ref a0, .int x, .int y] : List Value).toArray = args at hts hQ ⊢
  have hl : lv_has ls 3 [(0, .ref a0), (1, .int x), (2, .int y)] := hl
  refine lv_iconst (v := 0) hx hb dX3_reachBy_0 (by decide) ?_
  refine lv_iload_n hx hb dX3_reachBy_1 rfl (lv_at hl 1 rfl) ?_
  refine va_mmax hx hb (by rw [hml]; exact hl.1.symm) hown (hts (.methodLink RX3 28 Lib.Math.max.name) kc_reach3_X10_0) (hts (.static Lib.Math.max.name) kc_reach3_X10_1) (hts (.initialized "java/lang/Math") kc_reach3_X10_2) (hts (.code Lib.Math.max.name Lib.Math.max.code 2 (some .int)) kc_reach3_X10_3) (Nat.le_of_ble_eq_true rfl) (Nat.le_of_ble_eq_true rfl) (Nat.le_of_ble_eq_true rfl) (Nat.le_of_ble_eq_true rfl) dX3_reachBy_2 ?_
  rw [hQ]
  exact W.iret (v := (if 0 < x then x else 0)) hx hb hr (fun tQ htQ hWQ => ⟨(if 0 < x then x else 0), rfl, rfl, by rw [htQ]⟩) (fun q hq => absurd hq List.not_mem_nil) dX3_reachBy_5

theorem kc_reach4_X4_0 : (.fieldLink RX4 7 "MistHeaps$High" "v" "I" : Cond) ∈ wsX4_reachBy := kc_of 241 rfl rfl rfl
theorem kc_reach4_X4_1 : ∀ w ∈ wsX40, w ∈ wsX4_reachBy := fun w h => List.mem_cons_of_mem _ (gin_wsX40 w h)
theorem kc_reach4_X4_2 : (.sameField "MistHeaps$High" "MistHeaps$Heap" "v" "I" : Cond) ∈ wsX4_reachBy := kc_of 242 rfl rfl rfl
set_option maxHeartbeats 4000000 in
set_option maxRecDepth 100000 in
theorem c_reach4_X4 (l : Launch) (dC : Nat → ClassId) (dI : Nat → Nat → Nat)  (i0 : Nat) (sk : Int32) (sv : Int32) (scl : Int32) (x : Int32) (y : Int32) (a0 : Nat) : Met l yX4_reachBy wsX4_reachBy ({ frames := 2, cells := 0, slots := 0, locals := 35 } : Room) (va_Pc [.ref a0, .int x, .int y] (fun U => Fz dC dI [(zo6iiii a0 sk (nI i0) sv scl)] [] (fun _ => False) U)) (vp_Si (fun r => r = mx0 (x + sv / 3))) 0 0 (fun _ => False) := by
  refine met_ofQ (cc := cX4_reachBy) (maxL := 3) (ret := (some .int)) (by decide) rfl ?_
  intro p e s m args below meth c s₁ Q B hml hv hQ
  obtain ⟨rfl, hZ⟩ := hv
  have hx := B.exec
  have hb := B.bytes
  have hr := B.returns
  have hts := atoms_spec (ws := wsX4_reachBy) B.pre
  have hown : s.vm.findClass RX4 = some m.cls := findClass_of_methodNamed B.named
  have hlocks := B.notSynchronized
  obtain ⟨A, hAe⟩ : ∃ A : Nat → Prop, A = fun _ => False := ⟨_, rfl⟩
  rw [← hAe] at hQ hZ
  have hS : va_S A s.heap s.heap [] := va_S.rf
  have hl := lv_entry [.ref a0, .int x, .int y] (n := 3) (Nat.le_of_ble_eq_true rfl)
  rw [lg_entry_eq]
  generalize (lg_sl [.ref a0, .int x, .int y] ++ List.replicate (3 - (lg_sl [.ref a0, .int x, .int y]).length) Slot.unset).toArray = ls at hl ⊢
  generalize hag : ([.ref a0, .int x, .int y] : List Value).toArray = args at hts hQ ⊢
  have hl : lv_has ls 3 [(0, .ref a0), (1, .int x), (2, .int y)] := hl
  refine lv_aload_n hx hb dX4_reachBy_0 rfl (lv_at hl 0 rfl) ?_
  refine lv_iload_n hx hb dX4_reachBy_1 rfl (lv_at hl 1 rfl) ?_
  refine lv_aload_n hx hb dX4_reachBy_2 rfl (lv_at hl 0 rfl) ?_
  refine va_get (D := (dC, dI)) (ci := 6) (v := .int sv) (C := RX4) (T := TX4) (N := 4) hx hb hts kc_reach4_X4_1 hown hZ.2.1 (hZ.P hS) 0 rfl rfl 2 (by decide) (hts (.fieldLink RX4 7 "MistHeaps$High" "v" "I") kc_reach4_X4_0) (fun x h => u_same (hts (.sameField "MistHeaps$High" "MistHeaps$Heap" "v" "I") kc_reach4_X4_2) x h) rfl dX4_reachBy_3 ?_
  refine lv_iconst (v := 3) hx hb dX4_reachBy_6 (by decide) ?_
  refine lv_idiv hx hb dX4_reachBy_7 (by decide) ?_
  refine lv_iadd hx hb dX4_reachBy_8 ?_
  refine lv_iload_n hx hb dX4_reachBy_9 rfl (lv_at hl 2 rfl) ?_
  refine vp_callSi (va_runSU (hZ.2.1.1 6 (RX4, TX4, 4) rfl).2 (As := [.int (x + (sv / 3)), .int y]) (rest := []) ⟨hx, hb, hml, hown, hts⟩ (c_reach3_X4 l dC dI  i0 sk sv scl (x + (sv / 3)) y a0) (va_cwSU 2 hts gX4_reachBy_X3_reachBy_s13 rfl rfl rfl (by decide +kernel) ⟨Nat.le_of_ble_eq_true rfl, Nat.le_of_ble_eq_true rfl⟩) ⟨fun a U g mk q => by obtain ⟨q0, qhZ⟩ := q; exact ⟨q0, qhZ.same rfl rfl⟩, va_recv hZ.2.1 (hZ.P hS) (ci := 6) (q := (RX4, TX4, 4)) (q0 := 0) rfl rfl, fun U hU hW => ⟨rfl, (hZ.sub [0] [] rfl rfl).callF hS hU hW⟩⟩ rfl rfl hl.1 rfl (lv_room (Nat.le_of_ble_eq_true rfl)) dX4_reachBy_10 ⟨Nat.le_of_ble_eq_true rfl, Nat.le_of_ble_eq_true rfl⟩).run (fun r_1 hw_2 => ?_)
  obtain rfl := hw_2
  rw [hQ]
  exact W.iret (v := mx0 (x + sv / 3)) hx hb hr (fun tQ htQ hWQ => ⟨mx0 (x + sv / 3), rfl, rfl, by rw [htQ]⟩) (fun q hq => absurd hq List.not_mem_nil) dX4_reachBy_13

theorem kc_reach4_X10_0 : (.fieldLink RX4 7 "MistHeaps$High" "v" "I" : Cond) ∈ wsX4_reachBy := kc_of 241 rfl rfl rfl
theorem kc_reach4_X10_1 : ∀ w ∈ wsX100, w ∈ wsX4_reachBy := fun w h => List.mem_cons_of_mem _ (gin_wsX100 w h)
theorem kc_reach4_X10_2 : (.sameField "MistHeaps$High" "MistHeaps$Heap" "v" "I" : Cond) ∈ wsX4_reachBy := kc_of 242 rfl rfl rfl
set_option maxHeartbeats 4000000 in
set_option maxRecDepth 100000 in
theorem c_reach4_X10 (l : Launch) (dC : Nat → ClassId) (dI : Nat → Nat → Nat)  (i0 : Nat) (sk : Int32) (sv : Int32) (scl : Int32) (x : Int32) (y : Int32) (a0 : Nat) : Met l yX4_reachBy wsX4_reachBy ({ frames := 2, cells := 0, slots := 0, locals := 35 } : Room) (va_Pc [.ref a0, .int x, .int y] (fun U => Fz dC dI [(zo12iiii a0 sk (nI i0) sv scl)] [] (fun _ => False) U)) (vp_Si (fun r => r = mx0 (x + sv / 3))) 0 0 (fun _ => False) := by
  refine met_ofQ (cc := cX4_reachBy) (maxL := 3) (ret := (some .int)) (by decide) rfl ?_
  intro p e s m args below meth c s₁ Q B hml hv hQ
  obtain ⟨rfl, hZ⟩ := hv
  have hx := B.exec
  have hb := B.bytes
  have hr := B.returns
  have hts := atoms_spec (ws := wsX4_reachBy) B.pre
  have hown : s.vm.findClass RX4 = some m.cls := findClass_of_methodNamed B.named
  have hlocks := B.notSynchronized
  obtain ⟨A, hAe⟩ : ∃ A : Nat → Prop, A = fun _ => False := ⟨_, rfl⟩
  rw [← hAe] at hQ hZ
  have hS : va_S A s.heap s.heap [] := va_S.rf
  have hl := lv_entry [.ref a0, .int x, .int y] (n := 3) (Nat.le_of_ble_eq_true rfl)
  rw [lg_entry_eq]
  generalize (lg_sl [.ref a0, .int x, .int y] ++ List.replicate (3 - (lg_sl [.ref a0, .int x, .int y]).length) Slot.unset).toArray = ls at hl ⊢
  generalize hag : ([.ref a0, .int x, .int y] : List Value).toArray = args at hts hQ ⊢
  have hl : lv_has ls 3 [(0, .ref a0), (1, .int x), (2, .int y)] := hl
  refine lv_aload_n hx hb dX4_reachBy_0 rfl (lv_at hl 0 rfl) ?_
  refine lv_iload_n hx hb dX4_reachBy_1 rfl (lv_at hl 1 rfl) ?_
  refine lv_aload_n hx hb dX4_reachBy_2 rfl (lv_at hl 0 rfl) ?_
  refine va_get (D := (dC, dI)) (ci := 12) (v := .int sv) (C := RX10) (T := TX10) (N := 4) hx hb hts kc_reach4_X10_1 hown hZ.2.1 (hZ.P hS) 0 rfl rfl 2 (by decide) (hts (.fieldLink RX4 7 "MistHeaps$High" "v" "I") kc_reach4_X10_0) (fun x h => u_same (hts (.sameField "MistHeaps$High" "MistHeaps$Heap" "v" "I") kc_reach4_X10_2) x h) rfl dX4_reachBy_3 ?_
  refine lv_iconst (v := 3) hx hb dX4_reachBy_6 (by decide) ?_
  refine lv_idiv hx hb dX4_reachBy_7 (by decide) ?_
  refine lv_iadd hx hb dX4_reachBy_8 ?_
  refine lv_iload_n hx hb dX4_reachBy_9 rfl (lv_at hl 2 rfl) ?_
  refine vp_callSi (va_runSU (hZ.2.1.1 12 (RX10, TX10, 4) rfl).2 (As := [.int (x + (sv / 3)), .int y]) (rest := []) ⟨hx, hb, hml, hown, hts⟩ (c_reach3_X10 l dC dI  i0 sk sv scl (x + (sv / 3)) y a0) (va_cwSU 2 hts gX4_reachBy_X3_reachBy_s13 rfl rfl rfl (by decide +kernel) ⟨Nat.le_of_ble_eq_true rfl, Nat.le_of_ble_eq_true rfl⟩) ⟨fun a U g mk q => by obtain ⟨q0, qhZ⟩ := q; exact ⟨q0, qhZ.same rfl rfl⟩, va_recv hZ.2.1 (hZ.P hS) (ci := 12) (q := (RX10, TX10, 4)) (q0 := 0) rfl rfl, fun U hU hW => ⟨rfl, (hZ.sub [0] [] rfl rfl).callF hS hU hW⟩⟩ rfl rfl hl.1 rfl (lv_room (Nat.le_of_ble_eq_true rfl)) dX4_reachBy_10 ⟨Nat.le_of_ble_eq_true rfl, Nat.le_of_ble_eq_true rfl⟩).run (fun r_1 hw_2 => ?_)
  obtain rfl := hw_2
  rw [hQ]
  exact W.iret (v := mx0 (x + sv / 3)) hx hb hr (fun tQ htQ hWQ => ⟨mx0 (x + sv / 3), rfl, rfl, by rw [htQ]⟩) (fun q hq => absurd hq List.not_mem_nil) dX4_reachBy_13

set_option maxHeartbeats 4000000 in
set_option maxRecDepth 100000 in
theorem c_reach6_X6 (l : Launch) (dC : Nat → ClassId) (dI : Nat → Nat → Nat)  (i0 : Nat) (sk : Int32) (sv : Int32) (scl : Int32) (x : Int32) (y : Int32) (a0 : Nat) : Met l yX6_reachBy wsX6_reachBy ({ frames := 2, cells := 0, slots := 0, locals := 35 } : Room) (va_Pc [.ref a0, .int x, .int y] (fun U => Fz dC dI [(zo8iiii a0 sk (nI i0) sv scl)] [] (fun _ => False) U)) (vp_Si (fun r => r = mx0 (x - 1))) 0 0 (fun _ => False) := by
  refine met_ofQ (cc := cX6_reachBy) (maxL := 3) (ret := (some .int)) (by decide) rfl ?_
  intro p e s m args below meth c s₁ Q B hml hv hQ
  obtain ⟨rfl, hZ⟩ := hv
  have hx := B.exec
  have hb := B.bytes
  have hr := B.returns
  have hts := atoms_spec (ws := wsX6_reachBy) B.pre
  have hown : s.vm.findClass RX6 = some m.cls := findClass_of_methodNamed B.named
  have hlocks := B.notSynchronized
  obtain ⟨A, hAe⟩ : ∃ A : Nat → Prop, A = fun _ => False := ⟨_, rfl⟩
  rw [← hAe] at hQ hZ
  have hS : va_S A s.heap s.heap [] := va_S.rf
  have hl := lv_entry [.ref a0, .int x, .int y] (n := 3) (Nat.le_of_ble_eq_true rfl)
  rw [lg_entry_eq]
  generalize (lg_sl [.ref a0, .int x, .int y] ++ List.replicate (3 - (lg_sl [.ref a0, .int x, .int y]).length) Slot.unset).toArray = ls at hl ⊢
  generalize hag : ([.ref a0, .int x, .int y] : List Value).toArray = args at hts hQ ⊢
  have hl : lv_has ls 3 [(0, .ref a0), (1, .int x), (2, .int y)] := hl
  refine lv_aload_n hx hb dX6_reachBy_0 rfl (lv_at hl 0 rfl) ?_
  refine lv_iload_n hx hb dX6_reachBy_1 rfl (lv_at hl 1 rfl) ?_
  refine lv_iconst (v := 1) hx hb dX6_reachBy_2 (by decide) ?_
  refine lv_isub hx hb dX6_reachBy_3 ?_
  refine lv_iload_n hx hb dX6_reachBy_4 rfl (lv_at hl 2 rfl) ?_
  refine vp_callSi (va_runSU (hZ.2.1.1 8 (RX6, TX6, 4) rfl).2 (As := [.int (x - 1), .int y]) (rest := []) ⟨hx, hb, hml, hown, hts⟩ (c_reach3_X6 l dC dI  i0 sk sv scl (x - 1) y a0) (va_cwSU 2 hts gX6_reachBy_X3_reachBy_s7 rfl rfl rfl (by decide +kernel) ⟨Nat.le_of_ble_eq_true rfl, Nat.le_of_ble_eq_true rfl⟩) ⟨fun a U g mk q => by obtain ⟨q0, qhZ⟩ := q; exact ⟨q0, qhZ.same rfl rfl⟩, va_recv hZ.2.1 (hZ.P hS) (ci := 8) (q := (RX6, TX6, 4)) (q0 := 0) rfl rfl, fun U hU hW => ⟨rfl, (hZ.sub [0] [] rfl rfl).callF hS hU hW⟩⟩ rfl rfl hl.1 rfl (lv_room (Nat.le_of_ble_eq_true rfl)) dX6_reachBy_5 ⟨Nat.le_of_ble_eq_true rfl, Nat.le_of_ble_eq_true rfl⟩).run (fun r_1 hw_2 => ?_)
  obtain rfl := hw_2
  rw [hQ]
  exact W.iret (v := mx0 (x - 1)) hx hb hr (fun tQ htQ hWQ => ⟨mx0 (x - 1), rfl, rfl, by rw [htQ]⟩) (fun q hq => absurd hq List.not_mem_nil) dX6_reachBy_8

set_option maxHeartbeats 4000000 in
set_option maxRecDepth 100000 in
theorem c_reach6_X9 (l : Launch) (dC : Nat → ClassId) (dI : Nat → Nat → Nat)  (i0 : Nat) (sk : Int32) (sv : Int32) (scl : Int32) (x : Int32) (y : Int32) (a0 : Nat) : Met l yX6_reachBy wsX6_reachBy ({ frames := 2, cells := 0, slots := 0, locals := 35 } : Room) (va_Pc [.ref a0, .int x, .int y] (fun U => Fz dC dI [(zo11iiii a0 sk (nI i0) sv scl)] [] (fun _ => False) U)) (vp_Si (fun r => r = mx0 (x - 1))) 0 0 (fun _ => False) := by
  refine met_ofQ (cc := cX6_reachBy) (maxL := 3) (ret := (some .int)) (by decide) rfl ?_
  intro p e s m args below meth c s₁ Q B hml hv hQ
  obtain ⟨rfl, hZ⟩ := hv
  have hx := B.exec
  have hb := B.bytes
  have hr := B.returns
  have hts := atoms_spec (ws := wsX6_reachBy) B.pre
  have hown : s.vm.findClass RX6 = some m.cls := findClass_of_methodNamed B.named
  have hlocks := B.notSynchronized
  obtain ⟨A, hAe⟩ : ∃ A : Nat → Prop, A = fun _ => False := ⟨_, rfl⟩
  rw [← hAe] at hQ hZ
  have hS : va_S A s.heap s.heap [] := va_S.rf
  have hl := lv_entry [.ref a0, .int x, .int y] (n := 3) (Nat.le_of_ble_eq_true rfl)
  rw [lg_entry_eq]
  generalize (lg_sl [.ref a0, .int x, .int y] ++ List.replicate (3 - (lg_sl [.ref a0, .int x, .int y]).length) Slot.unset).toArray = ls at hl ⊢
  generalize hag : ([.ref a0, .int x, .int y] : List Value).toArray = args at hts hQ ⊢
  have hl : lv_has ls 3 [(0, .ref a0), (1, .int x), (2, .int y)] := hl
  refine lv_aload_n hx hb dX6_reachBy_0 rfl (lv_at hl 0 rfl) ?_
  refine lv_iload_n hx hb dX6_reachBy_1 rfl (lv_at hl 1 rfl) ?_
  refine lv_iconst (v := 1) hx hb dX6_reachBy_2 (by decide) ?_
  refine lv_isub hx hb dX6_reachBy_3 ?_
  refine lv_iload_n hx hb dX6_reachBy_4 rfl (lv_at hl 2 rfl) ?_
  refine vp_callSi (va_runSU (hZ.2.1.1 11 (RX9, TX9, 4) rfl).2 (As := [.int (x - 1), .int y]) (rest := []) ⟨hx, hb, hml, hown, hts⟩ (c_reach3_X9 l dC dI  i0 sk sv scl (x - 1) y a0) (va_cwSU 2 hts gX6_reachBy_X3_reachBy_s7 rfl rfl rfl (by decide +kernel) ⟨Nat.le_of_ble_eq_true rfl, Nat.le_of_ble_eq_true rfl⟩) ⟨fun a U g mk q => by obtain ⟨q0, qhZ⟩ := q; exact ⟨q0, qhZ.same rfl rfl⟩, va_recv hZ.2.1 (hZ.P hS) (ci := 11) (q := (RX9, TX9, 4)) (q0 := 0) rfl rfl, fun U hU hW => ⟨rfl, (hZ.sub [0] [] rfl rfl).callF hS hU hW⟩⟩ rfl rfl hl.1 rfl (lv_room (Nat.le_of_ble_eq_true rfl)) dX6_reachBy_5 ⟨Nat.le_of_ble_eq_true rfl, Nat.le_of_ble_eq_true rfl⟩).run (fun r_1 hw_2 => ?_)
  obtain rfl := hw_2
  rw [hQ]
  exact W.iret (v := mx0 (x - 1)) hx hb hr (fun tQ htQ hWQ => ⟨mx0 (x - 1), rfl, rfl, by rw [htQ]⟩) (fun q hq => absurd hq List.not_mem_nil) dX6_reachBy_8

theorem kc_reach9_0 : (.fieldLink RX9 7 "MistHeaps$Snowed" "v" "I" : Cond) ∈ wsX9_reachBy := kc_of 239 rfl rfl rfl
theorem kc_reach9_1 : ∀ w ∈ wsX90, w ∈ wsX9_reachBy := fun w h => List.mem_cons_of_mem _ (gin_wsX90 w h)
theorem kc_reach9_2 : (.sameField "MistHeaps$Snowed" "MistHeaps$Heap" "v" "I" : Cond) ∈ wsX9_reachBy := kc_of 240 rfl rfl rfl
set_option maxHeartbeats 4000000 in
set_option maxRecDepth 100000 in
theorem c_reach9 (l : Launch) (dC : Nat → ClassId) (dI : Nat → Nat → Nat)  (i0 : Nat) (sk : Int32) (sv : Int32) (scl : Int32) (x : Int32) (y : Int32) (a0 : Nat) : Met l yX9_reachBy wsX9_reachBy ({ frames := 3, cells := 0, slots := 0, locals := 57 } : Room) (va_Pc [.ref a0, .int x, .int y] (fun U => Fz dC dI [(zo11iiii a0 sk (nI i0) sv scl)] [] (fun _ => False) U)) (vp_Si (fun r => r = if y ≤ sv then mx0 (x - 1) else 0)) 0 0 (fun _ => False) := by
  refine met_ofQ (cc := cX9_reachBy) (maxL := 3) (ret := (some .int)) (by decide) rfl ?_
  intro p e s m args below meth c s₁ Q B hml hv hQ
  obtain ⟨rfl, hZ⟩ := hv
  have hx := B.exec
  have hb := B.bytes
  have hr := B.returns
  have hts := atoms_spec (ws := wsX9_reachBy) B.pre
  have hown : s.vm.findClass RX9 = some m.cls := findClass_of_methodNamed B.named
  have hlocks := B.notSynchronized
  obtain ⟨A, hAe⟩ : ∃ A : Nat → Prop, A = fun _ => False := ⟨_, rfl⟩
  rw [← hAe] at hQ hZ
  have hS : va_S A s.heap s.heap [] := va_S.rf
  have hl := lv_entry [.ref a0, .int x, .int y] (n := 3) (Nat.le_of_ble_eq_true rfl)
  rw [lg_entry_eq]
  generalize (lg_sl [.ref a0, .int x, .int y] ++ List.replicate (3 - (lg_sl [.ref a0, .int x, .int y]).length) Slot.unset).toArray = ls at hl ⊢
  generalize hag : ([.ref a0, .int x, .int y] : List Value).toArray = args at hts hQ ⊢
  have hl : lv_has ls 3 [(0, .ref a0), (1, .int x), (2, .int y)] := hl
  refine lv_iload_n hx hb dX9_reachBy_0 rfl (lv_at hl 2 rfl) ?_
  refine lv_aload_n hx hb dX9_reachBy_1 rfl (lv_at hl 0 rfl) ?_
  refine va_get (D := (dC, dI)) (ci := 11) (v := .int sv) (C := RX9) (T := TX9) (N := 4) hx hb hts kc_reach9_1 hown hZ.2.1 (hZ.P hS) 0 rfl rfl 2 (by decide) (hts (.fieldLink RX9 7 "MistHeaps$Snowed" "v" "I") kc_reach9_0) (fun x h => u_same (hts (.sameField "MistHeaps$Snowed" "MistHeaps$Heap" "v" "I") kc_reach9_2) x h) rfl dX9_reachBy_2 ?_
  refine lv_icmp_le (tgt := 12) hx hb dX9_reachBy_5 (by decide) (fun c_1 => ?_) (fun c_1 => ?_)
  · skip
    refine lv_aload_n hx hb dX9_reachBy_12 rfl (lv_at hl 0 rfl) ?_
    refine lv_iload_n hx hb dX9_reachBy_13 rfl (lv_at hl 1 rfl) ?_
    refine lv_iload_n hx hb dX9_reachBy_14 rfl (lv_at hl 2 rfl) ?_
    refine vp_callSi (va_runSU (hZ.2.1.1 11 (RX9, TX9, 4) rfl).2 (As := [.int x, .int y]) (rest := []) ⟨hx, hb, hml, hown, hts⟩ (c_reach6_X9 l dC dI  i0 sk sv scl x y a0) (va_cwSU 2 hts gX9_reachBy_X6_reachBy_s13 rfl rfl rfl (by decide +kernel) ⟨Nat.le_of_ble_eq_true rfl, Nat.le_of_ble_eq_true rfl⟩) ⟨fun a U g mk q => by obtain ⟨q0, qhZ⟩ := q; exact ⟨q0, qhZ.same rfl rfl⟩, va_recv hZ.2.1 (hZ.P hS) (ci := 11) (q := (RX9, TX9, 4)) (q0 := 0) rfl rfl, fun U hU hW => ⟨rfl, (hZ.sub [0] [] rfl rfl).callF hS hU hW⟩⟩ rfl rfl hl.1 rfl (lv_room (Nat.le_of_ble_eq_true rfl)) dX9_reachBy_15 ⟨Nat.le_of_ble_eq_true rfl, Nat.le_of_ble_eq_true rfl⟩).run (fun r_2 hw_3 => ?_)
    obtain rfl := hw_3
    rw [hQ]
    exact W.iret (v := mx0 (x - 1)) hx hb hr (fun tQ htQ hWQ => ⟨mx0 (x - 1), rfl, by first | exact (if_pos (by assumption)).symm | exact (if_neg (by assumption)).symm, by rw [htQ]⟩) (fun q hq => absurd hq List.not_mem_nil) dX9_reachBy_18
  · skip
    refine lv_iconst (v := 0) hx hb dX9_reachBy_8 (by decide) ?_
    refine lv_goto (tgt := 18) hx hb dX9_reachBy_9 (by decide) ?_
    rw [hQ]
    exact W.iret (v := 0) hx hb hr (fun tQ htQ hWQ => ⟨0, rfl, by first | exact (if_pos (by assumption)).symm | exact (if_neg (by assumption)).symm, by rw [htQ]⟩) (fun q hq => absurd hq List.not_mem_nil) dX9_reachBy_18
