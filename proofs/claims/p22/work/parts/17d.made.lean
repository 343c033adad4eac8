theorem ggX11_heapOfKind_X3_init : GoodIn wsX11_heapOfKind wsX3_init := gga_of 226 rfl rfl rfl
theorem ggX11_heapOfKind_X4_init : GoodIn wsX11_heapOfKind wsX4_init := gga_of 561 rfl rfl rfl
theorem ggX11_heapOfKind_X6_init : GoodIn wsX11_heapOfKind wsX6_init := gga_of 572 rfl rfl rfl
theorem ggX11_heapOfKind_X1_init : GoodIn wsX11_heapOfKind wsX1_init := gga_of 583 rfl rfl rfl
theorem ggX11_heapOfKind_X10_init : GoodIn wsX11_heapOfKind wsX10_init := gga_of 594 rfl rfl rfl
theorem ggX11_heapOfKind_X9_init : GoodIn wsX11_heapOfKind wsX9_init := gga_of 605 rfl rfl rfl
theorem ggX11_heapOfKind_X7_init : GoodIn wsX11_heapOfKind wsX7_init := gga_of 616 rfl rfl rfl
noncomputable def dk17dmade_cX11_heapOfKind_0 : List (Nat × Instr × Nat) := [(0, .iload_n 0, 1), (1, .tableswitch 111 1 6 #[39, 51, 63, 75, 87, 99], 39), (112, .new 117, 3), (115, .dup, 1), (116, .iload_n 0, 1), (117, .iload_n 1, 1), (118, .iload_n 2, 1), (119, .iload_n 3, 1), (120, .invokespecial 296, 3), (123, .areturn, 1), (40, .new 276, 3), (43, .dup, 1), (44, .iload_n 0, 1), (45, .iload_n 1, 1), (46, .iload_n 2, 1), (47, .iload_n 3, 1), (48, .invokespecial 278, 3), (51, .areturn, 1), (52, .new 281, 3), (55, .dup, 1), (56, .iload_n 0, 1), (57, .iload_n 1, 1), (58, .iload_n 2, 1), (59, .iload_n 3, 1), (60, .invokespecial 283, 3), (63, .areturn, 1), (64, .new 284, 3), (67, .dup, 1), (68, .iload_n 0, 1), (69, .iload_n 1, 1), (70, .iload_n 2, 1), (71, .iload_n 3, 1), (72, .invokespecial 286, 3), (75, .areturn, 1), (76, .new 287, 3), (79, .dup, 1), (80, .iload_n 0, 1), (81, .iload_n 1, 1), (82, .iload_n 2, 1), (83, .iload_n 3, 1)]
set_option maxRecDepth 100000 in
theorem dk17dmade_cX11_heapOfKind_0_a : dkA cX11_heapOfKind dk17dmade_cX11_heapOfKind_0 = true := by decide +kernel
theorem dX11_heapOfKind_0 : decode cX11_heapOfKind 0 = .ok (.iload_n 0, 1) := dkAt dk17dmade_cX11_heapOfKind_0_a 0 rfl
theorem dX11_heapOfKind_1 : decode cX11_heapOfKind 1 = .ok (.tableswitch 111 1 6 #[39, 51, 63, 75, 87, 99], 39) := dkAt dk17dmade_cX11_heapOfKind_0_a 1 rfl
theorem dX11_heapOfKind_112 : decode cX11_heapOfKind 112 = .ok (.new 117, 3) := dkAt dk17dmade_cX11_heapOfKind_0_a 2 rfl
theorem dX11_heapOfKind_115 : decode cX11_heapOfKind 115 = .ok (.dup, 1) := dkAt dk17dmade_cX11_heapOfKind_0_a 3 rfl
theorem dX11_heapOfKind_116 : decode cX11_heapOfKind 116 = .ok (.iload_n 0, 1) := dkAt dk17dmade_cX11_heapOfKind_0_a 4 rfl
theorem dX11_heapOfKind_117 : decode cX11_heapOfKind 117 = .ok (.iload_n 1, 1) := dkAt dk17dmade_cX11_heapOfKind_0_a 5 rfl
theorem dX11_heapOfKind_118 : decode cX11_heapOfKind 118 = .ok (.iload_n 2, 1) := dkAt dk17dmade_cX11_heapOfKind_0_a 6 rfl
theorem dX11_heapOfKind_119 : decode cX11_heapOfKind 119 = .ok (.iload_n 3, 1) := dkAt dk17dmade_cX11_heapOfKind_0_a 7 rfl
theorem dX11_heapOfKind_120 : decode cX11_heapOfKind 120 = .ok (.invokespecial 296, 3) := dkAt dk17dmade_cX11_heapOfKind_0_a 8 rfl
theorem dX11_heapOfKind_123 : decode cX11_heapOfKind 123 = .ok (.areturn, 1) := dkAt dk17dmade_cX11_heapOfKind_0_a 9 rfl
theorem dX11_heapOfKind_40 : decode cX11_heapOfKind 40 = .ok (.new 276, 3) := dkAt dk17dmade_cX11_heapOfKind_0_a 10 rfl
theorem dX11_heapOfKind_43 : decode cX11_heapOfKind 43 = .ok (.dup, 1) := dkAt dk17dmade_cX11_heapOfKind_0_a 11 rfl
theorem dX11_heapOfKind_44 : decode cX11_heapOfKind 44 = .ok (.iload_n 0, 1) := dkAt dk17dmade_cX11_heapOfKind_0_a 12 rfl
theorem dX11_heapOfKind_45 : decode cX11_heapOfKind 45 = .ok (.iload_n 1, 1) := dkAt dk17dmade_cX11_heapOfKind_0_a 13 rfl
theorem dX11_heapOfKind_46 : decode cX11_heapOfKind 46 = .ok (.iload_n 2, 1) := dkAt dk17dmade_cX11_heapOfKind_0_a 14 rfl
theorem dX11_heapOfKind_47 : decode cX11_heapOfKind 47 = .ok (.iload_n 3, 1) := dkAt dk17dmade_cX11_heapOfKind_0_a 15 rfl
theorem dX11_heapOfKind_48 : decode cX11_heapOfKind 48 = .ok (.invokespecial 278, 3) := dkAt dk17dmade_cX11_heapOfKind_0_a 16 rfl
theorem dX11_heapOfKind_51 : decode cX11_heapOfKind 51 = .ok (.areturn, 1) := dkAt dk17dmade_cX11_heapOfKind_0_a 17 rfl
theorem dX11_heapOfKind_52 : decode cX11_heapOfKind 52 = .ok (.new 281, 3) := dkAt dk17dmade_cX11_heapOfKind_0_a 18 rfl
theorem dX11_heapOfKind_55 : decode cX11_heapOfKind 55 = .ok (.dup, 1) := dkAt dk17dmade_cX11_heapOfKind_0_a 19 rfl
theorem dX11_heapOfKind_56 : decode cX11_heapOfKind 56 = .ok (.iload_n 0, 1) := dkAt dk17dmade_cX11_heapOfKind_0_a 20 rfl
theorem dX11_heapOfKind_57 : decode cX11_heapOfKind 57 = .ok (.iload_n 1, 1) := dkAt dk17dmade_cX11_heapOfKind_0_a 21 rfl
theorem dX11_heapOfKind_58 : decode cX11_heapOfKind 58 = .ok (.iload_n 2, 1) := dkAt dk17dmade_cX11_heapOfKind_0_a 22 rfl
theorem dX11_heapOfKind_59 : decode cX11_heapOfKind 59 = .ok (.iload_n 3, 1) := dkAt dk17dmade_cX11_heapOfKind_0_a 23 rfl
theorem dX11_heapOfKind_60 : decode cX11_heapOfKind 60 = .ok (.invokespecial 283, 3) := dkAt dk17dmade_cX11_heapOfKind_0_a 24 rfl
theorem dX11_heapOfKind_63 : decode cX11_heapOfKind 63 = .ok (.areturn, 1) := dkAt dk17dmade_cX11_heapOfKind_0_a 25 rfl
theorem dX11_heapOfKind_64 : decode cX11_heapOfKind 64 = .ok (.new 284, 3) := dkAt dk17dmade_cX11_heapOfKind_0_a 26 rfl
theorem dX11_heapOfKind_67 : decode cX11_heapOfKind 67 = .ok (.dup, 1) := dkAt dk17dmade_cX11_heapOfKind_0_a 27 rfl
theorem dX11_heapOfKind_68 : decode cX11_heapOfKind 68 = .ok (.iload_n 0, 1) := dkAt dk17dmade_cX11_heapOfKind_0_a 28 rfl
theorem dX11_heapOfKind_69 : decode cX11_heapOfKind 69 = .ok (.iload_n 1, 1) := dkAt dk17dmade_cX11_heapOfKind_0_a 29 rfl
theorem dX11_heapOfKind_70 : decode cX11_heapOfKind 70 = .ok (.iload_n 2, 1) := dkAt dk17dmade_cX11_heapOfKind_0_a 30 rfl
theorem dX11_heapOfKind_71 : decode cX11_heapOfKind 71 = .ok (.iload_n 3, 1) := dkAt dk17dmade_cX11_heapOfKind_0_a 31 rfl
theorem dX11_heapOfKind_72 : decode cX11_heapOfKind 72 = .ok (.invokespecial 286, 3) := dkAt dk17dmade_cX11_heapOfKind_0_a 32 rfl
theorem dX11_heapOfKind_75 : decode cX11_heapOfKind 75 = .ok (.areturn, 1) := dkAt dk17dmade_cX11_heapOfKind_0_a 33 rfl
theorem dX11_heapOfKind_76 : decode cX11_heapOfKind 76 = .ok (.new 287, 3) := dkAt dk17dmade_cX11_heapOfKind_0_a 34 rfl
theorem dX11_heapOfKind_79 : decode cX11_heapOfKind 79 = .ok (.dup, 1) := dkAt dk17dmade_cX11_heapOfKind_0_a 35 rfl
theorem dX11_heapOfKind_80 : decode cX11_heapOfKind 80 = .ok (.iload_n 0, 1) := dkAt dk17dmade_cX11_heapOfKind_0_a 36 rfl
theorem dX11_heapOfKind_81 : decode cX11_heapOfKind 81 = .ok (.iload_n 1, 1) := dkAt dk17dmade_cX11_heapOfKind_0_a 37 rfl
theorem dX11_heapOfKind_82 : decode cX11_heapOfKind 82 = .ok (.iload_n 2, 1) := dkAt dk17dmade_cX11_heapOfKind_0_a 38 rfl
theorem dX11_heapOfKind_83 : decode cX11_heapOfKind 83 = .ok (.iload_n 3, 1) := dkAt dk17dmade_cX11_heapOfKind_0_a 39 rfl
noncomputable def dk17dmade_cX11_heapOfKind_40 : List (Nat × Instr × Nat) := [(84, .invokespecial 289, 3), (87, .areturn, 1), (88, .new 290, 3), (91, .dup, 1), (92, .iload_n 0, 1), (93, .iload_n 1, 1), (94, .iload_n 2, 1), (95, .iload_n 3, 1), (96, .invokespecial 292, 3), (99, .areturn, 1), (100, .new 293, 3), (103, .dup, 1), (104, .iload_n 0, 1), (105, .iload_n 1, 1), (106, .iload_n 2, 1), (107, .iload_n 3, 1), (108, .invokespecial 295, 3), (111, .areturn, 1)]
set_option maxRecDepth 100000 in
theorem dk17dmade_cX11_heapOfKind_40_a : dkA cX11_heapOfKind dk17dmade_cX11_heapOfKind_40 = true := by decide +kernel
theorem dX11_heapOfKind_84 : decode cX11_heapOfKind 84 = .ok (.invokespecial 289, 3) := dkAt dk17dmade_cX11_heapOfKind_40_a 0 rfl
theorem dX11_heapOfKind_87 : decode cX11_heapOfKind 87 = .ok (.areturn, 1) := dkAt dk17dmade_cX11_heapOfKind_40_a 1 rfl
theorem dX11_heapOfKind_88 : decode cX11_heapOfKind 88 = .ok (.new 290, 3) := dkAt dk17dmade_cX11_heapOfKind_40_a 2 rfl
theorem dX11_heapOfKind_91 : decode cX11_heapOfKind 91 = .ok (.dup, 1) := dkAt dk17dmade_cX11_heapOfKind_40_a 3 rfl
theorem dX11_heapOfKind_92 : decode cX11_heapOfKind 92 = .ok (.iload_n 0, 1) := dkAt dk17dmade_cX11_heapOfKind_40_a 4 rfl
theorem dX11_heapOfKind_93 : decode cX11_heapOfKind 93 = .ok (.iload_n 1, 1) := dkAt dk17dmade_cX11_heapOfKind_40_a 5 rfl
theorem dX11_heapOfKind_94 : decode cX11_heapOfKind 94 = .ok (.iload_n 2, 1) := dkAt dk17dmade_cX11_heapOfKind_40_a 6 rfl
theorem dX11_heapOfKind_95 : decode cX11_heapOfKind 95 = .ok (.iload_n 3, 1) := dkAt dk17dmade_cX11_heapOfKind_40_a 7 rfl
theorem dX11_heapOfKind_96 : decode cX11_heapOfKind 96 = .ok (.invokespecial 292, 3) := dkAt dk17dmade_cX11_heapOfKind_40_a 8 rfl
theorem dX11_heapOfKind_99 : decode cX11_heapOfKind 99 = .ok (.areturn, 1) := dkAt dk17dmade_cX11_heapOfKind_40_a 9 rfl
theorem dX11_heapOfKind_100 : decode cX11_heapOfKind 100 = .ok (.new 293, 3) := dkAt dk17dmade_cX11_heapOfKind_40_a 10 rfl
theorem dX11_heapOfKind_103 : decode cX11_heapOfKind 103 = .ok (.dup, 1) := dkAt dk17dmade_cX11_heapOfKind_40_a 11 rfl
theorem dX11_heapOfKind_104 : decode cX11_heapOfKind 104 = .ok (.iload_n 0, 1) := dkAt dk17dmade_cX11_heapOfKind_40_a 12 rfl
theorem dX11_heapOfKind_105 : decode cX11_heapOfKind 105 = .ok (.iload_n 1, 1) := dkAt dk17dmade_cX11_heapOfKind_40_a 13 rfl
theorem dX11_heapOfKind_106 : decode cX11_heapOfKind 106 = .ok (.iload_n 2, 1) := dkAt dk17dmade_cX11_heapOfKind_40_a 14 rfl
theorem dX11_heapOfKind_107 : decode cX11_heapOfKind 107 = .ok (.iload_n 3, 1) := dkAt dk17dmade_cX11_heapOfKind_40_a 15 rfl
theorem dX11_heapOfKind_108 : decode cX11_heapOfKind 108 = .ok (.invokespecial 295, 3) := dkAt dk17dmade_cX11_heapOfKind_40_a 16 rfl
theorem dX11_heapOfKind_111 : decode cX11_heapOfKind 111 = .ok (.areturn, 1) := dkAt dk17dmade_cX11_heapOfKind_40_a 17 rfl
theorem kc_hok0_0 : ∀ w ∈ wsX30, w ∈ wsX11_heapOfKind := fun w h => List.mem_cons_of_mem _ (gin_wsX30 w h)
theorem kc_hok0_1 : (.classLink RX11 117 RX3 : Cond) ∈ wsX11_heapOfKind := kc_of 623 rfl rfl rfl
theorem kc_hok0_2 : (.instantiable RX3 4 : Cond) ∈ wsX11_heapOfKind := kc_of 223 rfl rfl rfl
theorem kc_hok0_3 : (.initialized RX3 : Cond) ∈ wsX11_heapOfKind := kc_of 67 rfl rfl rfl
theorem kc_hok0_4 : (.methodLink RX11 296 yX3_init : Cond) ∈ wsX11_heapOfKind := kc_of 624 rfl rfl rfl
theorem kc_hok0_5 : (.instanceMethod yX3_init : Cond) ∈ wsX11_heapOfKind := kc_of 225 rfl rfl rfl
set_option maxHeartbeats 4000000 in
set_option maxRecDepth 100000 in
theorem c_hok0 (l : Launch) (dC : Nat → ClassId) (dI : Nat → Nat → Nat) (n : Nat) (x y : Int32) (sz : Nat) : Met l yX11_heapOfKind wsX11_heapOfKind ({ frames := 2, cells := 1, slots := 4, locals := 36 } : Room) (va_Pc [.int 0, .int (nI n), .int x, .int y] (fun U => U.heap.size = sz ∧ va_P (dC, dI) vwCl [] U.heap ∧ va_K (dC, dI) vwCl [] U ∧ va_D (fun _ => True) [])) (va_Qq (fun (r : Option Nat) (u : Nat) => match u with | qn => r = some qn) (fun (u : Nat) (t : State) => match u with | qn => va_P (dC, dI) vwCl [(zo5iiii qn 0 (nI n) x y)] t.heap ∧ va_K (dC, dI) vwCl [] t ∧ va_D (va_A [] sz) [(zo5iiii qn 0 (nI n) x y)]) (va_A [] sz)) 1 4 (va_A [] sz) := by
  refine met_ofQ (cc := cX11_heapOfKind) (maxL := 4) (ret := (some (.object "MistHeaps$Heap"))) (by decide) rfl ?_
  intro p e s m args below meth c s₁ Q B hml hv hQ
  obtain ⟨rfl, hsz, hP, hK, hD0⟩ := hv
  have hx := B.exec
  have hb := B.bytes
  have hr := B.returns
  have hts := atoms_spec (ws := wsX11_heapOfKind) B.pre
  have hown : s.vm.findClass RX11 = some m.cls := findClass_of_methodNamed B.named
  have hlocks := B.notSynchronized
  subst hsz
  have hD := hD0.self (sz := s.heap.size)
  generalize hAe : va_A [] s.heap.size = A at hD hQ ⊢
  have hA : ∀ q : Nat, s.heap.size ≤ q → A q := fun q h => by rw [← hAe]; exact Or.inr h
  have hS : va_S A s.heap s.heap [] := va_S.rf
  have hl := lv_entry [.int 0, .int (nI n), .int x, .int y] (n := 4) (Nat.le_of_ble_eq_true rfl)
  rw [lg_entry_eq]
  generalize (lg_sl [.int 0, .int (nI n), .int x, .int y] ++ List.replicate (4 - (lg_sl [.int 0, .int (nI n), .int x, .int y]).length) Slot.unset).toArray = ls at hl ⊢
  generalize hag : ([.int 0, .int (nI n), .int x, .int y] : List Value).toArray = args at hts hQ ⊢
  have hl : lv_has ls 4 [(0, .int 0), (1, .int (nI n)), (2, .int x), (3, .int y)] := hl
  obtain ⟨H, hH⟩ : ∃ H : Heap, H = s.heap := ⟨_, rfl⟩
  rw [← hH] at hP
  rw [← hH]
  have hS : va_S A s.heap H [] := by rw [hH]; exact hS
  obtain ⟨locs, hlo⟩ : ∃ L : List Loc, L = [] := ⟨_, rfl⟩
  rw [← hlo] at hS
  rw [← hlo]
  clear hH hlo
  refine lv_iload_n hx hb dX11_heapOfKind_0 rfl (lv_at hl 0 rfl) ?_
  refine lv_tableOut (tgt := 112) hx hb dX11_heapOfKind_1 (by decide) (by decide) ?_
  refine va_new (ci := 5) (fs := [.int 0, .int 0, .int 0, .int 0]) (C := RX3) (T := TX3) (N := 4) hx hb hts kc_hok0_0 tyX3 tyX3_ok hown (hts (.classLink RX11 117 RX3) kc_hok0_1) (hts (.instantiable RX3 4) kc_hok0_2) (hts (.initialized RX3) kc_hok0_3) hK hP hD hS hA rfl (fun j hj => by rcases (show j = 0 ∨ j = 1 ∨ j = 2 ∨ j = 3 by omega) with rfl | rfl | rfl | rfl <;> rfl) (Nat.le_of_ble_eq_true rfl) (Nat.le_of_ble_eq_true rfl) dX11_heapOfKind_112 (fun q_1 H hP hD hS => ?_)
  have hP : va_P (dC, dI) vwCl [(zo5iiii q_1 0 0 0 0)] H := hP
  have hD : va_D A [(zo5iiii q_1 0 0 0 0)] := hD
  refine W.widen (k := 1) (n := 4) (by omega) (by omega) ?_
  refine lv_dup hx hb dX11_heapOfKind_115 rfl ?_
  refine lv_iload_n hx hb dX11_heapOfKind_116 rfl (lv_at hl 0 rfl) ?_
  refine lv_iload_n hx hb dX11_heapOfKind_117 rfl (lv_at hl 1 rfl) ?_
  refine lv_iload_n hx hb dX11_heapOfKind_118 rfl (lv_at hl 2 rfl) ?_
  refine lv_iload_n hx hb dX11_heapOfKind_119 rfl (lv_at hl 3 rfl) ?_
  have hPc := hP.sub (ws' := [(zo5iiii q_1 0 0 0 0)]) [0] rfl
  have hDc := hD.sub (ws' := [(zo5iiii q_1 0 0 0 0)]) [0] (by decide) rfl
  have hKc := hK.sub (tys' := []) [] rfl
  have hFc := va_free (wc := [(zo5iiii q_1 0 0 0 0)]) hD hS hA [0] rfl
  refine va_callv (va_runI (As := [.int 0, .int (nI n), .int x, .int y]) (rest := [.ref q_1]) ⟨hx, hb, hml, hown, hts⟩ (c_h3_X3 l dC dI q_1 0 (nI n) x y H.size) (cwI 4 hts ggX11_heapOfKind_X3_init rfl rfl rfl (hts (.initialized RX3) kc_hok0_3) (hts (.methodLink RX11 296 yX3_init) kc_hok0_4) (hts (.instanceMethod yX3_init) kc_hok0_5) rfl (by decide +kernel) ⟨Nat.le_of_ble_eq_true rfl, Nat.le_of_ble_eq_true rfl⟩) ⟨fun a U g mk q => by obtain ⟨q0, q1, qP, qK, qD⟩ := q; exact ⟨q0, q1, qP, va_K.moved (u := U) (U := U.calling g mk a) (Vm.Alike.refl U.vm) qK, qD⟩, fun U hU hW => ⟨rfl, by rw [hU], by rw [hU]; exact hPc, va_K.moved hW.alike hKc, hDc.weaken (fun _ _ _ _ => trivial)⟩⟩ rfl rfl hl.1 rfl (lv_room (Nat.le_of_ble_eq_true rfl)) dX11_heapOfKind_120 ⟨Nat.le_of_ble_eq_true rfl, Nat.le_of_ble_eq_true rfl⟩) hS (fun q _ h => hFc q h) hFc (fun u tC H1 locs htC hvm hw_3 hB hz1 hk1 hS => ?_)
  obtain ⟨⟩ := u
  try dsimp only at hw_3 hB
  obtain ⟨hP1, hK1, hD1⟩ := hB
  rw [htC] at hP1
  have hK1 := va_K.moved hvm.symm hK1
  obtain ⟨hP, hD⟩ := va_join (wr := []) (w1 := [(zo5iiii q_1 0 (nI n) x y)]) hP hD [0] [] rfl rfl (by decide) (by decide) hk1 hFc hP1 hD1
  have hK := (hK.sub (tys' := []) [] rfl).app hK1
  generalize H1 = H at hP hS ⊢
  have hP : va_P (dC, dI) vwCl [(zo5iiii q_1 0 (nI n) x y)] H := hP
  have hD : va_D A [(zo5iiii q_1 0 (nI n) x y)] := hD
  have hK : va_K (dC, dI) vwCl [] s := hK
  rw [hQ]
  have hP9 := hP.sub (ws' := [(zo5iiii q_1 0 (nI n) x y)]) [0] rfl
  have hD9 := hD.sub (ws' := [(zo5iiii q_1 0 (nI n) x y)]) [0] (by decide) rfl
  have hK9 := hK.sub (tys' := []) [] rfl
  exact W.aret (v := .ref q_1) hx hb hr (Or.inl ⟨_, rfl⟩) (Or.inr ⟨_, rfl⟩) (fun tQ htQ hWQ => ⟨⟨some q_1, q_1, rfl, rfl, by rw [htQ]; exact hP9, va_K.moved hWQ.alike hK9, hD9⟩, hS.F htQ⟩) hS.2.2 dX11_heapOfKind_123

theorem kc_hok1_0 : ∀ w ∈ wsX40, w ∈ wsX11_heapOfKind := fun w h => List.mem_cons_of_mem _ (gin_wsX40 w h)
theorem kc_hok1_1 : (.classLink RX11 276 RX4 : Cond) ∈ wsX11_heapOfKind := kc_of 557 rfl rfl rfl
theorem kc_hok1_2 : (.instantiable RX4 4 : Cond) ∈ wsX11_heapOfKind := kc_of 558 rfl rfl rfl
theorem kc_hok1_3 : (.initialized RX4 : Cond) ∈ wsX11_heapOfKind := kc_of 81 rfl rfl rfl
theorem kc_hok1_4 : (.methodLink RX11 278 yX4_init : Cond) ∈ wsX11_heapOfKind := kc_of 559 rfl rfl rfl
theorem kc_hok1_5 : (.instanceMethod yX4_init : Cond) ∈ wsX11_heapOfKind := kc_of 560 rfl rfl rfl
set_option maxHeartbeats 4000000 in
set_option maxRecDepth 100000 in
theorem c_hok1 (l : Launch) (dC : Nat → ClassId) (dI : Nat → Nat → Nat) (n : Nat) (x y : Int32) (sz : Nat) : Met l yX11_heapOfKind wsX11_heapOfKind ({ frames := 3, cells := 1, slots := 4, locals := 60 } : Room) (va_Pc [.int 1, .int (nI n), .int x, .int y] (fun U => U.heap.size = sz ∧ va_P (dC, dI) vwCl [] U.heap ∧ va_K (dC, dI) vwCl [] U ∧ va_D (fun _ => True) [])) (va_Qq (fun (r : Option Nat) (u : Nat) => match u with | qn => r = some qn) (fun (u : Nat) (t : State) => match u with | qn => va_P (dC, dI) vwCl [(zo6iiii qn 1 (nI n) x y)] t.heap ∧ va_K (dC, dI) vwCl [] t ∧ va_D (va_A [] sz) [(zo6iiii qn 1 (nI n) x y)]) (va_A [] sz)) 1 4 (va_A [] sz) := by
  refine met_ofQ (cc := cX11_heapOfKind) (maxL := 4) (ret := (some (.object "MistHeaps$Heap"))) (by decide) rfl ?_
  intro p e s m args below meth c s₁ Q B hml hv hQ
  obtain ⟨rfl, hsz, hP, hK, hD0⟩ := hv
  have hx := B.exec
  have hb := B.bytes
  have hr := B.returns
  have hts := atoms_spec (ws := wsX11_heapOfKind) B.pre
  have hown : s.vm.findClass RX11 = some m.cls := findClass_of_methodNamed B.named
  have hlocks := B.notSynchronized
  subst hsz
  have hD := hD0.self (sz := s.heap.size)
  generalize hAe : va_A [] s.heap.size = A at hD hQ ⊢
  have hA : ∀ q : Nat, s.heap.size ≤ q → A q := fun q h => by rw [← hAe]; exact Or.inr h
  have hS : va_S A s.heap s.heap [] := va_S.rf
  have hl := lv_entry [.int 1, .int (nI n), .int x, .int y] (n := 4) (Nat.le_of_ble_eq_true rfl)
  rw [lg_entry_eq]
  generalize (lg_sl [.int 1, .int (nI n), .int x, .int y] ++ List.replicate (4 - (lg_sl [.int 1, .int (nI n), .int x, .int y]).length) Slot.unset).toArray = ls at hl ⊢
  generalize hag : ([.int 1, .int (nI n), .int x, .int y] : List Value).toArray = args at hts hQ ⊢
  have hl : lv_has ls 4 [(0, .int 1), (1, .int (nI n)), (2, .int x), (3, .int y)] := hl
  obtain ⟨H, hH⟩ : ∃ H : Heap, H = s.heap := ⟨_, rfl⟩
  rw [← hH] at hP
  rw [← hH]
  have hS : va_S A s.heap H [] := by rw [hH]; exact hS
  obtain ⟨locs, hlo⟩ : ∃ L : List Loc, L = [] := ⟨_, rfl⟩
  rw [← hlo] at hS
  rw [← hlo]
  clear hH hlo
  refine lv_iload_n hx hb dX11_heapOfKind_0 rfl (lv_at hl 0 rfl) ?_
  refine lv_tableIn (tgt := 40) hx hb dX11_heapOfKind_1 (by decide) (by decide) rfl (by decide) ?_
  refine va_new (ci := 6) (fs := [.int 0, .int 0, .int 0, .int 0]) (C := RX4) (T := TX4) (N := 4) hx hb hts kc_hok1_0 tyX4 tyX4_ok hown (hts (.classLink RX11 276 RX4) kc_hok1_1) (hts (.instantiable RX4 4) kc_hok1_2) (hts (.initialized RX4) kc_hok1_3) hK hP hD hS hA rfl (fun j hj => by rcases (show j = 0 ∨ j = 1 ∨ j = 2 ∨ j = 3 by omega) with rfl | rfl | rfl | rfl <;> rfl) (Nat.le_of_ble_eq_true rfl) (Nat.le_of_ble_eq_true rfl) dX11_heapOfKind_40 (fun q_1 H hP hD hS => ?_)
  have hP : va_P (dC, dI) vwCl [(zo6iiii q_1 0 0 0 0)] H := hP
  have hD : va_D A [(zo6iiii q_1 0 0 0 0)] := hD
  refine W.widen (k := 1) (n := 4) (by omega) (by omega) ?_
  refine lv_dup hx hb dX11_heapOfKind_43 rfl ?_
  refine lv_iload_n hx hb dX11_heapOfKind_44 rfl (lv_at hl 0 rfl) ?_
  refine lv_iload_n hx hb dX11_heapOfKind_45 rfl (lv_at hl 1 rfl) ?_
  refine lv_iload_n hx hb dX11_heapOfKind_46 rfl (lv_at hl 2 rfl) ?_
  refine lv_iload_n hx hb dX11_heapOfKind_47 rfl (lv_at hl 3 rfl) ?_
  have hPc := hP.sub (ws' := [(zo6iiii q_1 0 0 0 0)]) [0] rfl
  have hDc := hD.sub (ws' := [(zo6iiii q_1 0 0 0 0)]) [0] (by decide) rfl
  have hKc := hK.sub (tys' := []) [] rfl
  have hFc := va_free (wc := [(zo6iiii q_1 0 0 0 0)]) hD hS hA [0] rfl
  refine va_callv (va_runI (As := [.int 1, .int (nI n), .int x, .int y]) (rest := [.ref q_1]) ⟨hx, hb, hml, hown, hts⟩ (c_h4_X4 l dC dI q_1 1 (nI n) x y H.size) (cwI 4 hts ggX11_heapOfKind_X4_init rfl rfl rfl (hts (.initialized RX4) kc_hok1_3) (hts (.methodLink RX11 278 yX4_init) kc_hok1_4) (hts (.instanceMethod yX4_init) kc_hok1_5) rfl (by decide +kernel) ⟨Nat.le_of_ble_eq_true rfl, Nat.le_of_ble_eq_true rfl⟩) ⟨fun a U g mk q => by obtain ⟨q0, q1, qP, qK, qD⟩ := q; exact ⟨q0, q1, qP, va_K.moved (u := U) (U := U.calling g mk a) (Vm.Alike.refl U.vm) qK, qD⟩, fun U hU hW => ⟨rfl, by rw [hU], by rw [hU]; exact hPc, va_K.moved hW.alike hKc, hDc.weaken (fun _ _ _ _ => trivial)⟩⟩ rfl rfl hl.1 rfl (lv_room (Nat.le_of_ble_eq_true rfl)) dX11_heapOfKind_48 ⟨Nat.le_of_ble_eq_true rfl, Nat.le_of_ble_eq_true rfl⟩) hS (fun q _ h => hFc q h) hFc (fun u tC H1 locs htC hvm hw_3 hB hz1 hk1 hS => ?_)
  obtain ⟨⟩ := u
  try dsimp only at hw_3 hB
  obtain ⟨hP1, hK1, hD1⟩ := hB
  rw [htC] at hP1
  have hK1 := va_K.moved hvm.symm hK1
  obtain ⟨hP, hD⟩ := va_join (wr := []) (w1 := [(zo6iiii q_1 1 (nI n) x y)]) hP hD [0] [] rfl rfl (by decide) (by decide) hk1 hFc hP1 hD1
  have hK := (hK.sub (tys' := []) [] rfl).app hK1
  generalize H1 = H at hP hS ⊢
  have hP : va_P (dC, dI) vwCl [(zo6iiii q_1 1 (nI n) x y)] H := hP
  have hD : va_D A [(zo6iiii q_1 1 (nI n) x y)] := hD
  have hK : va_K (dC, dI) vwCl [] s := hK
  rw [hQ]
  have hP9 := hP.sub (ws' := [(zo6iiii q_1 1 (nI n) x y)]) [0] rfl
  have hD9 := hD.sub (ws' := [(zo6iiii q_1 1 (nI n) x y)]) [0] (by decide) rfl
  have hK9 := hK.sub (tys' := []) [] rfl
  exact W.aret (v := .ref q_1) hx hb hr (Or.inl ⟨_, rfl⟩) (Or.inr ⟨_, rfl⟩) (fun tQ htQ hWQ => ⟨⟨some q_1, q_1, rfl, rfl, by rw [htQ]; exact hP9, va_K.moved hWQ.alike hK9, hD9⟩, hS.F htQ⟩) hS.2.2 dX11_heapOfKind_51

theorem kc_hok2_0 : ∀ w ∈ wsX60, w ∈ wsX11_heapOfKind := fun w h => List.mem_cons_of_mem _ (gin_wsX60 w h)
theorem kc_hok2_1 : (.classLink RX11 281 RX6 : Cond) ∈ wsX11_heapOfKind := kc_of 568 rfl rfl rfl
theorem kc_hok2_2 : (.instantiable RX6 4 : Cond) ∈ wsX11_heapOfKind := kc_of 569 rfl rfl rfl
theorem kc_hok2_3 : (.initialized RX6 : Cond) ∈ wsX11_heapOfKind := kc_of 82 rfl rfl rfl
theorem kc_hok2_4 : (.methodLink RX11 283 yX6_init : Cond) ∈ wsX11_heapOfKind := kc_of 570 rfl rfl rfl
theorem kc_hok2_5 : (.instanceMethod yX6_init : Cond) ∈ wsX11_heapOfKind := kc_of 571 rfl rfl rfl
set_option maxHeartbeats 4000000 in
set_option maxRecDepth 100000 in
theorem c_hok2 (l : Launch) (dC : Nat → ClassId) (dI : Nat → Nat → Nat) (n : Nat) (x y : Int32) (sz : Nat) : Met l yX11_heapOfKind wsX11_heapOfKind ({ frames := 3, cells := 1, slots := 4, locals := 60 } : Room) (va_Pc [.int 2, .int (nI n), .int x, .int y] (fun U => U.heap.size = sz ∧ va_P (dC, dI) vwCl [] U.heap ∧ va_K (dC, dI) vwCl [] U ∧ va_D (fun _ => True) [])) (va_Qq (fun (r : Option Nat) (u : Nat) => match u with | qn => r = some qn) (fun (u : Nat) (t : State) => match u with | qn => va_P (dC, dI) vwCl [(zo8iiii qn 2 (nI n) x y)] t.heap ∧ va_K (dC, dI) vwCl [] t ∧ va_D (va_A [] sz) [(zo8iiii qn 2 (nI n) x y)]) (va_A [] sz)) 1 4 (va_A [] sz) := by
  refine met_ofQ (cc := cX11_heapOfKind) (maxL := 4) (ret := (some (.object "MistHeaps$Heap"))) (by decide) rfl ?_
  intro p e s m args below meth c s₁ Q B hml hv hQ
  obtain ⟨rfl, hsz, hP, hK, hD0⟩ := hv
  have hx := B.exec
  have hb := B.bytes
  have hr := B.returns
  have hts := atoms_spec (ws := wsX11_heapOfKind) B.pre
  have hown : s.vm.findClass RX11 = some m.cls := findClass_of_methodNamed B.named
  have hlocks := B.notSynchronized
  subst hsz
  have hD := hD0.self (sz := s.heap.size)
  generalize hAe : va_A [] s.heap.size = A at hD hQ ⊢
  have hA : ∀ q : Nat, s.heap.size ≤ q → A q := fun q h => by rw [← hAe]; exact Or.inr h
  have hS : va_S A s.heap s.heap [] := va_S.rf
  have hl := lv_entry [.int 2, .int (nI n), .int x, .int y] (n := 4) (Nat.le_of_ble_eq_true rfl)
  rw [lg_entry_eq]
  generalize (lg_sl [.int 2, .int (nI n), .int x, .int y] ++ List.replicate (4 - (lg_sl [.int 2, .int (nI n), .int x, .int y]).length) Slot.unset).toArray = ls at hl ⊢
  generalize hag : ([.int 2, .int (nI n), .int x, .int y] : List Value).toArray = args at hts hQ ⊢
  have hl : lv_has ls 4 [(0, .int 2), (1, .int (nI n)), (2, .int x), (3, .int y)] := hl
  obtain ⟨H, hH⟩ : ∃ H : Heap, H = s.heap := ⟨_, rfl⟩
  rw [← hH] at hP
  rw [← hH]
  have hS : va_S A s.heap H [] := by rw [hH]; exact hS
  obtain ⟨locs, hlo⟩ : ∃ L : List Loc, L = [] := ⟨_, rfl⟩
  rw [← hlo] at hS
  rw [← hlo]
  clear hH hlo
  refine lv_iload_n hx hb dX11_heapOfKind_0 rfl (lv_at hl 0 rfl) ?_
  refine lv_tableIn (tgt := 52) hx hb dX11_heapOfKind_1 (by decide) (by decide) rfl (by decide) ?_
  refine va_new (ci := 8) (fs := [.int 0, .int 0, .int 0, .int 0]) (C := RX6) (T := TX6) (N := 4) hx hb hts kc_hok2_0 tyX6 tyX6_ok hown (hts (.classLink RX11 281 RX6) kc_hok2_1) (hts (.instantiable RX6 4) kc_hok2_2) (hts (.initialized RX6) kc_hok2_3) hK hP hD hS hA rfl (fun j hj => by rcases (show j = 0 ∨ j = 1 ∨ j = 2 ∨ j = 3 by omega) with rfl | rfl | rfl | rfl <;> rfl) (Nat.le_of_ble_eq_true rfl) (Nat.le_of_ble_eq_true rfl) dX11_heapOfKind_52 (fun q_1 H hP hD hS => ?_)
  have hP : va_P (dC, dI) vwCl [(zo8iiii q_1 0 0 0 0)] H := hP
  have hD : va_D A [(zo8iiii q_1 0 0 0 0)] := hD
  refine W.widen (k := 1) (n := 4) (by omega) (by omega) ?_
  refine lv_dup hx hb dX11_heapOfKind_55 rfl ?_
  refine lv_iload_n hx hb dX11_heapOfKind_56 rfl (lv_at hl 0 rfl) ?_
  refine lv_iload_n hx hb dX11_heapOfKind_57 rfl (lv_at hl 1 rfl) ?_
  refine lv_iload_n hx hb dX11_heapOfKind_58 rfl (lv_at hl 2 rfl) ?_
  refine lv_iload_n hx hb dX11_heapOfKind_59 rfl (lv_at hl 3 rfl) ?_
  have hPc := hP.sub (ws' := [(zo8iiii q_1 0 0 0 0)]) [0] rfl
  have hDc := hD.sub (ws' := [(zo8iiii q_1 0 0 0 0)]) [0] (by decide) rfl
  have hKc := hK.sub (tys' := []) [] rfl
  have hFc := va_free (wc := [(zo8iiii q_1 0 0 0 0)]) hD hS hA [0] rfl
  refine va_callv (va_runI (As := [.int 2, .int (nI n), .int x, .int y]) (rest := [.ref q_1]) ⟨hx, hb, hml, hown, hts⟩ (c_h6_X6 l dC dI q_1 2 (nI n) x y H.size) (cwI 4 hts ggX11_heapOfKind_X6_init rfl rfl rfl (hts (.initialized RX6) kc_hok2_3) (hts (.methodLink RX11 283 yX6_init) kc_hok2_4) (hts (.instanceMethod yX6_init) kc_hok2_5) rfl (by decide +kernel) ⟨Nat.le_of_ble_eq_true rfl, Nat.le_of_ble_eq_true rfl⟩) ⟨fun a U g mk q => by obtain ⟨q0, q1, qP, qK, qD⟩ := q; exact ⟨q0, q1, qP, va_K.moved (u := U) (U := U.calling g mk a) (Vm.Alike.refl U.vm) qK, qD⟩, fun U hU hW => ⟨rfl, by rw [hU], by rw [hU]; exact hPc, va_K.moved hW.alike hKc, hDc.weaken (fun _ _ _ _ => trivial)⟩⟩ rfl rfl hl.1 rfl (lv_room (Nat.le_of_ble_eq_true rfl)) dX11_heapOfKind_60 ⟨Nat.le_of_ble_eq_true rfl, Nat.le_of_ble_eq_true rfl⟩) hS (fun q _ h => hFc q h) hFc (fun u tC H1 locs htC hvm hw_3 hB hz1 hk1 hS => ?_)
  obtain ⟨⟩ := u
  try dsimp only at hw_3 hB
  obtain ⟨hP1, hK1, hD1⟩ := hB
  rw [htC] at hP1
  have hK1 := va_K.moved hvm.symm hK1
  obtain ⟨hP, hD⟩ := va_join (wr := []) (w1 := [(zo8iiii q_1 2 (nI n) x y)]) hP hD [0] [] rfl rfl (by decide) (by decide) hk1 hFc hP1 hD1
  have hK := (hK.sub (tys' := []) [] rfl).app hK1
  generalize H1 = H at hP hS ⊢
  have hP : va_P (dC, dI) vwCl [(zo8iiii q_1 2 (nI n) x y)] H := hP
  have hD : va_D A [(zo8iiii q_1 2 (nI n) x y)] := hD
  have hK : va_K (dC, dI) vwCl [] s := hK
  rw [hQ]
  have hP9 := hP.sub (ws' := [(zo8iiii q_1 2 (nI n) x y)]) [0] rfl
  have hD9 := hD.sub (ws' := [(zo8iiii q_1 2 (nI n) x y)]) [0] (by decide) rfl
  have hK9 := hK.sub (tys' := []) [] rfl
  exact W.aret (v := .ref q_1) hx hb hr (Or.inl ⟨_, rfl⟩) (Or.inr ⟨_, rfl⟩) (fun tQ htQ hWQ => ⟨⟨some q_1, q_1, rfl, rfl, by rw [htQ]; exact hP9, va_K.moved hWQ.alike hK9, hD9⟩, hS.F htQ⟩) hS.2.2 dX11_heapOfKind_63

theorem kc_hok3_0 : ∀ w ∈ wsX10, w ∈ wsX11_heapOfKind := fun w h => List.mem_cons_of_mem _ (gin_wsX10 w h)
theorem kc_hok3_1 : (.classLink RX11 284 RX1 : Cond) ∈ wsX11_heapOfKind := kc_of 579 rfl rfl rfl
theorem kc_hok3_2 : (.instantiable RX1 4 : Cond) ∈ wsX11_heapOfKind := kc_of 580 rfl rfl rfl
theorem kc_hok3_3 : (.initialized RX1 : Cond) ∈ wsX11_heapOfKind := kc_of 83 rfl rfl rfl
theorem kc_hok3_4 : (.methodLink RX11 286 yX1_init : Cond) ∈ wsX11_heapOfKind := kc_of 581 rfl rfl rfl
theorem kc_hok3_5 : (.instanceMethod yX1_init : Cond) ∈ wsX11_heapOfKind := kc_of 582 rfl rfl rfl
set_option maxHeartbeats 4000000 in
set_option maxRecDepth 100000 in
theorem c_hok3 (l : Launch) (dC : Nat → ClassId) (dI : Nat → Nat → Nat) (n : Nat) (x y : Int32) (sz : Nat) : Met l yX11_heapOfKind wsX11_heapOfKind ({ frames := 3, cells := 1, slots := 4, locals := 60 } : Room) (va_Pc [.int 3, .int (nI n), .int x, .int y] (fun U => U.heap.size = sz ∧ va_P (dC, dI) vwCl [] U.heap ∧ va_K (dC, dI) vwCl [] U ∧ va_D (fun _ => True) [])) (va_Qq (fun (r : Option Nat) (u : Nat) => match u with | qn => r = some qn) (fun (u : Nat) (t : State) => match u with | qn => va_P (dC, dI) vwCl [(zo3iiii qn 3 (nI n) x y)] t.heap ∧ va_K (dC, dI) vwCl [] t ∧ va_D (va_A [] sz) [(zo3iiii qn 3 (nI n) x y)]) (va_A [] sz)) 1 4 (va_A [] sz) := by
  refine met_ofQ (cc := cX11_heapOfKind) (maxL := 4) (ret := (some (.object "MistHeaps$Heap"))) (by decide) rfl ?_
  intro p e s m args below meth c s₁ Q B hml hv hQ
  obtain ⟨rfl, hsz, hP, hK, hD0⟩ := hv
  have hx := B.exec
  have hb := B.bytes
  have hr := B.returns
  have hts := atoms_spec (ws := wsX11_heapOfKind) B.pre
  have hown : s.vm.findClass RX11 = some m.cls := findClass_of_methodNamed B.named
  have hlocks := B.notSynchronized
  subst hsz
  have hD := hD0.self (sz := s.heap.size)
  generalize hAe : va_A [] s.heap.size = A at hD hQ ⊢
  have hA : ∀ q : Nat, s.heap.size ≤ q → A q := fun q h => by rw [← hAe]; exact Or.inr h
  have hS : va_S A s.heap s.heap [] := va_S.rf
  have hl := lv_entry [.int 3, .int (nI n), .int x, .int y] (n := 4) (Nat.le_of_ble_eq_true rfl)
  rw [lg_entry_eq]
  generalize (lg_sl [.int 3, .int (nI n), .int x, .int y] ++ List.replicate (4 - (lg_sl [.int 3, .int (nI n), .int x, .int y]).length) Slot.unset).toArray = ls at hl ⊢
  generalize hag : ([.int 3, .int (nI n), .int x, .int y] : List Value).toArray = args at hts hQ ⊢
  have hl : lv_has ls 4 [(0, .int 3), (1, .int (nI n)), (2, .int x), (3, .int y)] := hl
  obtain ⟨H, hH⟩ : ∃ H : Heap, H = s.heap := ⟨_, rfl⟩
  rw [← hH] at hP
  rw [← hH]
  have hS : va_S A s.heap H [] := by rw [hH]; exact hS
  obtain ⟨locs, hlo⟩ : ∃ L : List Loc, L = [] := ⟨_, rfl⟩
  rw [← hlo] at hS
  rw [← hlo]
  clear hH hlo
  refine lv_iload_n hx hb dX11_heapOfKind_0 rfl (lv_at hl 0 rfl) ?_
  refine lv_tableIn (tgt := 64) hx hb dX11_heapOfKind_1 (by decide) (by decide) rfl (by decide) ?_
  refine va_new (ci := 3) (fs := [.int 0, .int 0, .int 0, .int 0]) (C := RX1) (T := TX1) (N := 4) hx hb hts kc_hok3_0 tyX1 tyX1_ok hown (hts (.classLink RX11 284 RX1) kc_hok3_1) (hts (.instantiable RX1 4) kc_hok3_2) (hts (.initialized RX1) kc_hok3_3) hK hP hD hS hA rfl (fun j hj => by rcases (show j = 0 ∨ j = 1 ∨ j = 2 ∨ j = 3 by omega) with rfl | rfl | rfl | rfl <;> rfl) (Nat.le_of_ble_eq_true rfl) (Nat.le_of_ble_eq_true rfl) dX11_heapOfKind_64 (fun q_1 H hP hD hS => ?_)
  have hP : va_P (dC, dI) vwCl [(zo3iiii q_1 0 0 0 0)] H := hP
  have hD : va_D A [(zo3iiii q_1 0 0 0 0)] := hD
  refine W.widen (k := 1) (n := 4) (by omega) (by omega) ?_
  refine lv_dup hx hb dX11_heapOfKind_67 rfl ?_
  refine lv_iload_n hx hb dX11_heapOfKind_68 rfl (lv_at hl 0 rfl) ?_
  refine lv_iload_n hx hb dX11_heapOfKind_69 rfl (lv_at hl 1 rfl) ?_
  refine lv_iload_n hx hb dX11_heapOfKind_70 rfl (lv_at hl 2 rfl) ?_
  refine lv_iload_n hx hb dX11_heapOfKind_71 rfl (lv_at hl 3 rfl) ?_
  have hPc := hP.sub (ws' := [(zo3iiii q_1 0 0 0 0)]) [0] rfl
  have hDc := hD.sub (ws' := [(zo3iiii q_1 0 0 0 0)]) [0] (by decide) rfl
  have hKc := hK.sub (tys' := []) [] rfl
  have hFc := va_free (wc := [(zo3iiii q_1 0 0 0 0)]) hD hS hA [0] rfl
  refine va_callv (va_runI (As := [.int 3, .int (nI n), .int x, .int y]) (rest := [.ref q_1]) ⟨hx, hb, hml, hown, hts⟩ (c_h1_X1 l dC dI q_1 3 (nI n) x y H.size) (cwI 4 hts ggX11_heapOfKind_X1_init rfl rfl rfl (hts (.initialized RX1) kc_hok3_3) (hts (.methodLink RX11 286 yX1_init) kc_hok3_4) (hts (.instanceMethod yX1_init) kc_hok3_5) rfl (by decide +kernel) ⟨Nat.le_of_ble_eq_true rfl, Nat.le_of_ble_eq_true rfl⟩) ⟨fun a U g mk q => by obtain ⟨q0, q1, qP, qK, qD⟩ := q; exact ⟨q0, q1, qP, va_K.moved (u := U) (U := U.calling g mk a) (Vm.Alike.refl U.vm) qK, qD⟩, fun U hU hW => ⟨rfl, by rw [hU], by rw [hU]; exact hPc, va_K.moved hW.alike hKc, hDc.weaken (fun _ _ _ _ => trivial)⟩⟩ rfl rfl hl.1 rfl (lv_room (Nat.le_of_ble_eq_true rfl)) dX11_heapOfKind_72 ⟨Nat.le_of_ble_eq_true rfl, Nat.le_of_ble_eq_true rfl⟩) hS (fun q _ h => hFc q h) hFc (fun u tC H1 locs htC hvm hw_3 hB hz1 hk1 hS => ?_)
  obtain ⟨⟩ := u
  try dsimp only at hw_3 hB
  obtain ⟨hP1, hK1, hD1⟩ := hB
  rw [htC] at hP1
  have hK1 := va_K.moved hvm.symm hK1
  obtain ⟨hP, hD⟩ := va_join (wr := []) (w1 := [(zo3iiii q_1 3 (nI n) x y)]) hP hD [0] [] rfl rfl (by decide) (by decide) hk1 hFc hP1 hD1
  have hK := (hK.sub (tys' := []) [] rfl).app hK1
  generalize H1 = H at hP hS ⊢
  have hP : va_P (dC, dI) vwCl [(zo3iiii q_1 3 (nI n) x y)] H := hP
  have hD : va_D A [(zo3iiii q_1 3 (nI n) x y)] := hD
  have hK : va_K (dC, dI) vwCl [] s := hK
  rw [hQ]
  have hP9 := hP.sub (ws' := [(zo3iiii q_1 3 (nI n) x y)]) [0] rfl
  have hD9 := hD.sub (ws' := [(zo3iiii q_1 3 (nI n) x y)]) [0] (by decide) rfl
  have hK9 := hK.sub (tys' := []) [] rfl
  exact W.aret (v := .ref q_1) hx hb hr (Or.inl ⟨_, rfl⟩) (Or.inr ⟨_, rfl⟩) (fun tQ htQ hWQ => ⟨⟨some q_1, q_1, rfl, rfl, by rw [htQ]; exact hP9, va_K.moved hWQ.alike hK9, hD9⟩, hS.F htQ⟩) hS.2.2 dX11_heapOfKind_75

theorem kc_hok4_0 : ∀ w ∈ wsX100, w ∈ wsX11_heapOfKind := fun w h => List.mem_cons_of_mem _ (gin_wsX100 w h)
theorem kc_hok4_1 : (.classLink RX11 287 RX10 : Cond) ∈ wsX11_heapOfKind := kc_of 590 rfl rfl rfl
theorem kc_hok4_2 : (.instantiable RX10 4 : Cond) ∈ wsX11_heapOfKind := kc_of 591 rfl rfl rfl
theorem kc_hok4_3 : (.initialized RX10 : Cond) ∈ wsX11_heapOfKind := kc_of 84 rfl rfl rfl
theorem kc_hok4_4 : (.methodLink RX11 289 yX10_init : Cond) ∈ wsX11_heapOfKind := kc_of 592 rfl rfl rfl
theorem kc_hok4_5 : (.instanceMethod yX10_init : Cond) ∈ wsX11_heapOfKind := kc_of 593 rfl rfl rfl
set_option maxHeartbeats 4000000 in
set_option maxRecDepth 100000 in
theorem c_hok4 (l : Launch) (dC : Nat → ClassId) (dI : Nat → Nat → Nat) (n : Nat) (x y : Int32) (sz : Nat) : Met l yX11_heapOfKind wsX11_heapOfKind ({ frames := 4, cells := 1, slots := 4, locals := 84 } : Room) (va_Pc [.int 4, .int (nI n), .int x, .int y] (fun U => U.heap.size = sz ∧ va_P (dC, dI) vwCl [] U.heap ∧ va_K (dC, dI) vwCl [] U ∧ va_D (fun _ => True) [])) (va_Qq (fun (r : Option Nat) (u : Nat) => match u with | qn => r = some qn) (fun (u : Nat) (t : State) => match u with | qn => va_P (dC, dI) vwCl [(zo12iiii qn 4 (nI n) x y)] t.heap ∧ va_K (dC, dI) vwCl [] t ∧ va_D (va_A [] sz) [(zo12iiii qn 4 (nI n) x y)]) (va_A [] sz)) 1 4 (va_A [] sz) := by
  refine met_ofQ (cc := cX11_heapOfKind) (maxL := 4) (ret := (some (.object "MistHeaps$Heap"))) (by decide) rfl ?_
  intro p e s m args below meth c s₁ Q B hml hv hQ
  obtain ⟨rfl, hsz, hP, hK, hD0⟩ := hv
  have hx := B.exec
  have hb := B.bytes
  have hr := B.returns
  have hts := atoms_spec (ws := wsX11_heapOfKind) B.pre
  have hown : s.vm.findClass RX11 = some m.cls := findClass_of_methodNamed B.named
  have hlocks := B.notSynchronized
  subst hsz
  have hD := hD0.self (sz := s.heap.size)
  generalize hAe : va_A [] s.heap.size = A at hD hQ ⊢
  have hA : ∀ q : Nat, s.heap.size ≤ q → A q := fun q h => by rw [← hAe]; exact Or.inr h
  have hS : va_S A s.heap s.heap [] := va_S.rf
  have hl := lv_entry [.int 4, .int (nI n), .int x, .int y] (n := 4) (Nat.le_of_ble_eq_true rfl)
  rw [lg_entry_eq]
  generalize (lg_sl [.int 4, .int (nI n), .int x, .int y] ++ List.replicate (4 - (lg_sl [.int 4, .int (nI n), .int x, .int y]).length) Slot.unset).toArray = ls at hl ⊢
  generalize hag : ([.int 4, .int (nI n), .int x, .int y] : List Value).toArray = args at hts hQ ⊢
  have hl : lv_has ls 4 [(0, .int 4), (1, .int (nI n)), (2, .int x), (3, .int y)] := hl
  obtain ⟨H, hH⟩ : ∃ H : Heap, H = s.heap := ⟨_, rfl⟩
  rw [← hH] at hP
  rw [← hH]
  have hS : va_S A s.heap H [] := by rw [hH]; exact hS
  obtain ⟨locs, hlo⟩ : ∃ L : List Loc, L = [] := ⟨_, rfl⟩
  rw [← hlo] at hS
  rw [← hlo]
  clear hH hlo
  refine lv_iload_n hx hb dX11_heapOfKind_0 rfl (lv_at hl 0 rfl) ?_
  refine lv_tableIn (tgt := 76) hx hb dX11_heapOfKind_1 (by decide) (by decide) rfl (by decide) ?_
  refine va_new (ci := 12) (fs := [.int 0, .int 0, .int 0, .int 0]) (C := RX10) (T := TX10) (N := 4) hx hb hts kc_hok4_0 tyX10 tyX10_ok hown (hts (.classLink RX11 287 RX10) kc_hok4_1) (hts (.instantiable RX10 4) kc_hok4_2) (hts (.initialized RX10) kc_hok4_3) hK hP hD hS hA rfl (fun j hj => by rcases (show j = 0 ∨ j = 1 ∨ j = 2 ∨ j = 3 by omega) with rfl | rfl | rfl | rfl <;> rfl) (Nat.le_of_ble_eq_true rfl) (Nat.le_of_ble_eq_true rfl) dX11_heapOfKind_76 (fun q_1 H hP hD hS => ?_)
  have hP : va_P (dC, dI) vwCl [(zo12iiii q_1 0 0 0 0)] H := hP
  have hD : va_D A [(zo12iiii q_1 0 0 0 0)] := hD
  refine W.widen (k := 1) (n := 4) (by omega) (by omega) ?_
  refine lv_dup hx hb dX11_heapOfKind_79 rfl ?_
  refine lv_iload_n hx hb dX11_heapOfKind_80 rfl (lv_at hl 0 rfl) ?_
  refine lv_iload_n hx hb dX11_heapOfKind_81 rfl (lv_at hl 1 rfl) ?_
  refine lv_iload_n hx hb dX11_heapOfKind_82 rfl (lv_at hl 2 rfl) ?_
  refine lv_iload_n hx hb dX11_heapOfKind_83 rfl (lv_at hl 3 rfl) ?_
  have hPc := hP.sub (ws' := [(zo12iiii q_1 0 0 0 0)]) [0] rfl
  have hDc := hD.sub (ws' := [(zo12iiii q_1 0 0 0 0)]) [0] (by decide) rfl
  have hKc := hK.sub (tys' := []) [] rfl
  have hFc := va_free (wc := [(zo12iiii q_1 0 0 0 0)]) hD hS hA [0] rfl
  refine va_callv (va_runI (As := [.int 4, .int (nI n), .int x, .int y]) (rest := [.ref q_1]) ⟨hx, hb, hml, hown, hts⟩ (c_h10_X10 l dC dI q_1 4 (nI n) x y H.size) (cwI 4 hts ggX11_heapOfKind_X10_init rfl rfl rfl (hts (.initialized RX10) kc_hok4_3) (hts (.methodLink RX11 289 yX10_init) kc_hok4_4) (hts (.instanceMethod yX10_init) kc_hok4_5) rfl (by decide +kernel) ⟨Nat.le_of_ble_eq_true rfl, Nat.le_of_ble_eq_true rfl⟩) ⟨fun a U g mk q => by obtain ⟨q0, q1, qP, qK, qD⟩ := q; exact ⟨q0, q1, qP, va_K.moved (u := U) (U := U.calling g mk a) (Vm.Alike.refl U.vm) qK, qD⟩, fun U hU hW => ⟨rfl, by rw [hU], by rw [hU]; exact hPc, va_K.moved hW.alike hKc, hDc.weaken (fun _ _ _ _ => trivial)⟩⟩ rfl rfl hl.1 rfl (lv_room (Nat.le_of_ble_eq_true rfl)) dX11_heapOfKind_84 ⟨Nat.le_of_ble_eq_true rfl, Nat.le_of_ble_eq_true rfl⟩) hS (fun q _ h => hFc q h) hFc (fun u tC H1 locs htC hvm hw_3 hB hz1 hk1 hS => ?_)
  obtain ⟨⟩ := u
  try dsimp only at hw_3 hB
  obtain ⟨hP1, hK1, hD1⟩ := hB
  rw [htC] at hP1
  have hK1 := va_K.moved hvm.symm hK1
  obtain ⟨hP, hD⟩ := va_join (wr := []) (w1 := [(zo12iiii q_1 4 (nI n) x y)]) hP hD [0] [] rfl rfl (by decide) (by decide) hk1 hFc hP1 hD1
  have hK := (hK.sub (tys' := []) [] rfl).app hK1
  generalize H1 = H at hP hS ⊢
  have hP : va_P (dC, dI) vwCl [(zo12iiii q_1 4 (nI n) x y)] H := hP
  have hD : va_D A [(zo12iiii q_1 4 (nI n) x y)] := hD
  have hK : va_K (dC, dI) vwCl [] s := hK
  rw [hQ]
  have hP9 := hP.sub (ws' := [(zo12iiii q_1 4 (nI n) x y)]) [0] rfl
  have hD9 := hD.sub (ws' := [(zo12iiii q_1 4 (nI n) x y)]) [0] (by decide) rfl
  have hK9 := hK.sub (tys' := []) [] rfl
  exact W.aret (v := .ref q_1) hx hb hr (Or.inl ⟨_, rfl⟩) (Or.inr ⟨_, rfl⟩) (fun tQ htQ hWQ => ⟨⟨some q_1, q_1, rfl, rfl, by rw [htQ]; exact hP9, va_K.moved hWQ.alike hK9, hD9⟩, hS.F htQ⟩) hS.2.2 dX11_heapOfKind_87

theorem kc_hok5_0 : ∀ w ∈ wsX90, w ∈ wsX11_heapOfKind := fun w h => List.mem_cons_of_mem _ (gin_wsX90 w h)
theorem kc_hok5_1 : (.classLink RX11 290 RX9 : Cond) ∈ wsX11_heapOfKind := kc_of 601 rfl rfl rfl
theorem kc_hok5_2 : (.instantiable RX9 4 : Cond) ∈ wsX11_heapOfKind := kc_of 602 rfl rfl rfl
theorem kc_hok5_3 : (.initialized RX9 : Cond) ∈ wsX11_heapOfKind := kc_of 85 rfl rfl rfl
theorem kc_hok5_4 : (.methodLink RX11 292 yX9_init : Cond) ∈ wsX11_heapOfKind := kc_of 603 rfl rfl rfl
theorem kc_hok5_5 : (.instanceMethod yX9_init : Cond) ∈ wsX11_heapOfKind := kc_of 604 rfl rfl rfl
set_option maxHeartbeats 4000000 in
set_option maxRecDepth 100000 in
theorem c_hok5 (l : Launch) (dC : Nat → ClassId) (dI : Nat → Nat → Nat) (n : Nat) (x y : Int32) (sz : Nat) : Met l yX11_heapOfKind wsX11_heapOfKind ({ frames := 4, cells := 1, slots := 4, locals := 84 } : Room) (va_Pc [.int 5, .int (nI n), .int x, .int y] (fun U => U.heap.size = sz ∧ va_P (dC, dI) vwCl [] U.heap ∧ va_K (dC, dI) vwCl [] U ∧ va_D (fun _ => True) [])) (va_Qq (fun (r : Option Nat) (u : Nat) => match u with | qn => r = some qn) (fun (u : Nat) (t : State) => match u with | qn => va_P (dC, dI) vwCl [(zo11iiii qn 5 (nI n) x y)] t.heap ∧ va_K (dC, dI) vwCl [] t ∧ va_D (va_A [] sz) [(zo11iiii qn 5 (nI n) x y)]) (va_A [] sz)) 1 4 (va_A [] sz) := by
  refine met_ofQ (cc := cX11_heapOfKind) (maxL := 4) (ret := (some (.object "MistHeaps$Heap"))) (by decide) rfl ?_
  intro p e s m args below meth c s₁ Q B hml hv hQ
  obtain ⟨rfl, hsz, hP, hK, hD0⟩ := hv
  have hx := B.exec
  have hb := B.bytes
  have hr := B.returns
  have hts := atoms_spec (ws := wsX11_heapOfKind) B.pre
  have hown : s.vm.findClass RX11 = some m.cls := findClass_of_methodNamed B.named
  have hlocks := B.notSynchronized
  subst hsz
  have hD := hD0.self (sz := s.heap.size)
  generalize hAe : va_A [] s.heap.size = A at hD hQ ⊢
  have hA : ∀ q : Nat, s.heap.size ≤ q → A q := fun q h => by rw [← hAe]; exact Or.inr h
  have hS : va_S A s.heap s.heap [] := va_S.rf
  have hl := lv_entry [.int 5, .int (nI n), .int x, .int y] (n := 4) (Nat.le_of_ble_eq_true rfl)
  rw [lg_entry_eq]
  generalize (lg_sl [.int 5, .int (nI n), .int x, .int y] ++ List.replicate (4 - (lg_sl [.int 5, .int (nI n), .int x, .int y]).length) Slot.unset).toArray = ls at hl ⊢
  generalize hag : ([.int 5, .int (nI n), .int x, .int y] : List Value).toArray = args at hts hQ ⊢
  have hl : lv_has ls 4 [(0, .int 5), (1, .int (nI n)), (2, .int x), (3, .int y)] := hl
  obtain ⟨H, hH⟩ : ∃ H : Heap, H = s.heap := ⟨_, rfl⟩
  rw [← hH] at hP
  rw [← hH]
  have hS : va_S A s.heap H [] := by rw [hH]; exact hS
  obtain ⟨locs, hlo⟩ : ∃ L : List Loc, L = [] := ⟨_, rfl⟩
  rw [← hlo] at hS
  rw [← hlo]
  clear hH hlo
  refine lv_iload_n hx hb dX11_heapOfKind_0 rfl (lv_at hl 0 rfl) ?_
  refine lv_tableIn (tgt := 88) hx hb dX11_heapOfKind_1 (by decide) (by decide) rfl (by decide) ?_
  refine va_new (ci := 11) (fs := [.int 0, .int 0, .int 0, .int 0]) (C := RX9) (T := TX9) (N := 4) hx hb hts kc_hok5_0 tyX9 tyX9_ok hown (hts (.classLink RX11 290 RX9) kc_hok5_1) (hts (.instantiable RX9 4) kc_hok5_2) (hts (.initialized RX9) kc_hok5_3) hK hP hD hS hA rfl (fun j hj => by rcases (show j = 0 ∨ j = 1 ∨ j = 2 ∨ j = 3 by omega) with rfl | rfl | rfl | rfl <;> rfl) (Nat.le_of_ble_eq_true rfl) (Nat.le_of_ble_eq_true rfl) dX11_heapOfKind_88 (fun q_1 H hP hD hS => ?_)
  have hP : va_P (dC, dI) vwCl [(zo11iiii q_1 0 0 0 0)] H := hP
  have hD : va_D A [(zo11iiii q_1 0 0 0 0)] := hD
  refine W.widen (k := 1) (n := 4) (by omega) (by omega) ?_
  refine lv_dup hx hb dX11_heapOfKind_91 rfl ?_
  refine lv_iload_n hx hb dX11_heapOfKind_92 rfl (lv_at hl 0 rfl) ?_
  refine lv_iload_n hx hb dX11_heapOfKind_93 rfl (lv_at hl 1 rfl) ?_
  refine lv_iload_n hx hb dX11_heapOfKind_94 rfl (lv_at hl 2 rfl) ?_
  refine lv_iload_n hx hb dX11_heapOfKind_95 rfl (lv_at hl 3 rfl) ?_
  have hPc := hP.sub (ws' := [(zo11iiii q_1 0 0 0 0)]) [0] rfl
  have hDc := hD.sub (ws' := [(zo11iiii q_1 0 0 0 0)]) [0] (by decide) rfl
  have hKc := hK.sub (tys' := []) [] rfl
  have hFc := va_free (wc := [(zo11iiii q_1 0 0 0 0)]) hD hS hA [0] rfl
  refine va_callv (va_runI (As := [.int 5, .int (nI n), .int x, .int y]) (rest := [.ref q_1]) ⟨hx, hb, hml, hown, hts⟩ (c_h9_X9 l dC dI q_1 5 (nI n) x y H.size) (cwI 4 hts ggX11_heapOfKind_X9_init rfl rfl rfl (hts (.initialized RX9) kc_hok5_3) (hts (.methodLink RX11 292 yX9_init) kc_hok5_4) (hts (.instanceMethod yX9_init) kc_hok5_5) rfl (by decide +kernel) ⟨Nat.le_of_ble_eq_true rfl, Nat.le_of_ble_eq_true rfl⟩) ⟨fun a U g mk q => by obtain ⟨q0, q1, qP, qK, qD⟩ := q; exact ⟨q0, q1, qP, va_K.moved (u := U) (U := U.calling g mk a) (Vm.Alike.refl U.vm) qK, qD⟩, fun U hU hW => ⟨rfl, by rw [hU], by rw [hU]; exact hPc, va_K.moved hW.alike hKc, hDc.weaken (fun _ _ _ _ => trivial)⟩⟩ rfl rfl hl.1 rfl (lv_room (Nat.le_of_ble_eq_true rfl)) dX11_heapOfKind_96 ⟨Nat.le_of_ble_eq_true rfl, Nat.le_of_ble_eq_true rfl⟩) hS (fun q _ h => hFc q h) hFc (fun u tC H1 locs htC hvm hw_3 hB hz1 hk1 hS => ?_)
  obtain ⟨⟩ := u
  try dsimp only at hw_3 hB
  obtain ⟨hP1, hK1, hD1⟩ := hB
  rw [htC] at hP1
  have hK1 := va_K.moved hvm.symm hK1
  obtain ⟨hP, hD⟩ := va_join (wr := []) (w1 := [(zo11iiii q_1 5 (nI n) x y)]) hP hD [0] [] rfl rfl (by decide) (by decide) hk1 hFc hP1 hD1
  have hK := (hK.sub (tys' := []) [] rfl).app hK1
  generalize H1 = H at hP hS ⊢
  have hP : va_P (dC, dI) vwCl [(zo11iiii q_1 5 (nI n) x y)] H := hP
  have hD : va_D A [(zo11iiii q_1 5 (nI n) x y)] := hD
  have hK : va_K (dC, dI) vwCl [] s := hK
  rw [hQ]
  have hP9 := hP.sub (ws' := [(zo11iiii q_1 5 (nI n) x y)]) [0] rfl
  have hD9 := hD.sub (ws' := [(zo11iiii q_1 5 (nI n) x y)]) [0] (by decide) rfl
  have hK9 := hK.sub (tys' := []) [] rfl
  exact W.aret (v := .ref q_1) hx hb hr (Or.inl ⟨_, rfl⟩) (Or.inr ⟨_, rfl⟩) (fun tQ htQ hWQ => ⟨⟨some q_1, q_1, rfl, rfl, by rw [htQ]; exact hP9, va_K.moved hWQ.alike hK9, hD9⟩, hS.F htQ⟩) hS.2.2 dX11_heapOfKind_99

theorem kc_hok6_0 : ∀ w ∈ wsX70, w ∈ wsX11_heapOfKind := fun w h => List.mem_cons_of_mem _ (gin_wsX70 w h)
theorem kc_hok6_1 : (.classLink RX11 293 RX7 : Cond) ∈ wsX11_heapOfKind := kc_of 612 rfl rfl rfl
theorem kc_hok6_2 : (.instantiable RX7 4 : Cond) ∈ wsX11_heapOfKind := kc_of 613 rfl rfl rfl
theorem kc_hok6_3 : (.initialized RX7 : Cond) ∈ wsX11_heapOfKind := kc_of 86 rfl rfl rfl
theorem kc_hok6_4 : (.methodLink RX11 295 yX7_init : Cond) ∈ wsX11_heapOfKind := kc_of 614 rfl rfl rfl
theorem kc_hok6_5 : (.instanceMethod yX7_init : Cond) ∈ wsX11_heapOfKind := kc_of 615 rfl rfl rfl
set_option maxHeartbeats 4000000 in
set_option maxRecDepth 100000 in
theorem c_hok6 (l : Launch) (dC : Nat → ClassId) (dI : Nat → Nat → Nat) (n : Nat) (x y : Int32) (sz : Nat) : Met l yX11_heapOfKind wsX11_heapOfKind ({ frames := 4, cells := 1, slots := 4, locals := 84 } : Room) (va_Pc [.int 6, .int (nI n), .int x, .int y] (fun U => U.heap.size = sz ∧ va_P (dC, dI) vwCl [] U.heap ∧ va_K (dC, dI) vwCl [] U ∧ va_D (fun _ => True) [])) (va_Qq (fun (r : Option Nat) (u : Nat) => match u with | qn => r = some qn) (fun (u : Nat) (t : State) => match u with | qn => va_P (dC, dI) vwCl [(zo9iiii qn 6 (nI n) x y)] t.heap ∧ va_K (dC, dI) vwCl [] t ∧ va_D (va_A [] sz) [(zo9iiii qn 6 (nI n) x y)]) (va_A [] sz)) 1 4 (va_A [] sz) := by
  refine met_ofQ (cc := cX11_heapOfKind) (maxL := 4) (ret := (some (.object "MistHeaps$Heap"))) (by decide) rfl ?_
  intro p e s m args below meth c s₁ Q B hml hv hQ
  obtain ⟨rfl, hsz, hP, hK, hD0⟩ := hv
  have hx := B.exec
  have hb := B.bytes
  have hr := B.returns
  have hts := atoms_spec (ws := wsX11_heapOfKind) B.pre
  have hown : s.vm.findClass RX11 = some m.cls := findClass_of_methodNamed B.named
  have hlocks := B.notSynchronized
  subst hsz
  have hD := hD0.self (sz := s.heap.size)
  generalize hAe : va_A [] s.heap.size = A at hD hQ ⊢
  have hA : ∀ q : Nat, s.heap.size ≤ q → A q := fun q h => by rw [← hAe]; exact Or.inr h
  have hS : va_S A s.heap s.heap [] := va_S.rf
  have hl := lv_entry [.int 6, .int (nI n), .int x, .int y] (n := 4) (Nat.le_of_ble_eq_true rfl)
  rw [lg_entry_eq]
  generalize (lg_sl [.int 6, .int (nI n), .int x, .int y] ++ List.replicate (4 - (lg_sl [.int 6, .int (nI n), .int x, .int y]).length) Slot.unset).toArray = ls at hl ⊢
  generalize hag : ([.int 6, .int (nI n), .int x, .int y] : List Value).toArray = args at hts hQ ⊢
  have hl : lv_has ls 4 [(0, .int 6), (1, .int (nI n)), (2, .int x), (3, .int y)] := hl
  obtain ⟨H, hH⟩ : ∃ H : Heap, H = s.heap := ⟨_, rfl⟩
  rw [← hH] at hP
  rw [← hH]
  have hS : va_S A s.heap H [] := by rw [hH]; exact hS
  obtain ⟨locs, hlo⟩ : ∃ L : List Loc, L = [] := ⟨_, rfl⟩
  rw [← hlo] at hS
  rw [← hlo]
  clear hH hlo
  refine lv_iload_n hx hb dX11_heapOfKind_0 rfl (lv_at hl 0 rfl) ?_
  refine lv_tableIn (tgt := 100) hx hb dX11_heapOfKind_1 (by decide) (by decide) rfl (by decide) ?_
  refine va_new (ci := 9) (fs := [.int 0, .int 0, .int 0, .int 0]) (C := RX7) (T := TX7) (N := 4) hx hb hts kc_hok6_0 tyX7 tyX7_ok hown (hts (.classLink RX11 293 RX7) kc_hok6_1) (hts (.instantiable RX7 4) kc_hok6_2) (hts (.initialized RX7) kc_hok6_3) hK hP hD hS hA rfl (fun j hj => by rcases (show j = 0 ∨ j = 1 ∨ j = 2 ∨ j = 3 by omega) with rfl | rfl | rfl | rfl <;> rfl) (Nat.le_of_ble_eq_true rfl) (Nat.le_of_ble_eq_true rfl) dX11_heapOfKind_100 (fun q_1 H hP hD hS => ?_)
  have hP : va_P (dC, dI) vwCl [(zo9iiii q_1 0 0 0 0)] H := hP
  have hD : va_D A [(zo9iiii q_1 0 0 0 0)] := hD
  refine W.widen (k := 1) (n := 4) (by omega) (by omega) ?_
  refine lv_dup hx hb dX11_heapOfKind_103 rfl ?_
  refine lv_iload_n hx hb dX11_heapOfKind_104 rfl (lv_at hl 0 rfl) ?_
  refine lv_iload_n hx hb dX11_heapOfKind_105 rfl (lv_at hl 1 rfl) ?_
  refine lv_iload_n hx hb dX11_heapOfKind_106 rfl (lv_at hl 2 rfl) ?_
  refine lv_iload_n hx hb dX11_heapOfKind_107 rfl (lv_at hl 3 rfl) ?_
  have hPc := hP.sub (ws' := [(zo9iiii q_1 0 0 0 0)]) [0] rfl
  have hDc := hD.sub (ws' := [(zo9iiii q_1 0 0 0 0)]) [0] (by decide) rfl
  have hKc := hK.sub (tys' := []) [] rfl
  have hFc := va_free (wc := [(zo9iiii q_1 0 0 0 0)]) hD hS hA [0] rfl
  refine va_callv (va_runI (As := [.int 6, .int (nI n), .int x, .int y]) (rest := [.ref q_1]) ⟨hx, hb, hml, hown, hts⟩ (c_h7_X7 l dC dI q_1 6 (nI n) x y H.size) (cwI 4 hts ggX11_heapOfKind_X7_init rfl rfl rfl (hts (.initialized RX7) kc_hok6_3) (hts (.methodLink RX11 295 yX7_init) kc_hok6_4) (hts (.instanceMethod yX7_init) kc_hok6_5) rfl (by decide +kernel) ⟨Nat.le_of_ble_eq_true rfl, Nat.le_of_ble_eq_true rfl⟩) ⟨fun a U g mk q => by obtain ⟨q0, q1, qP, qK, qD⟩ := q; exact ⟨q0, q1, qP, va_K.moved (u := U) (U := U.calling g mk a) (Vm.Alike.refl U.vm) qK, qD⟩, fun U hU hW => ⟨rfl, by rw [hU], by rw [hU]; exact hPc, va_K.moved hW.alike hKc, hDc.weaken (fun _ _ _ _ => trivial)⟩⟩ rfl rfl hl.1 rfl (lv_room (Nat.le_of_ble_eq_true rfl)) dX11_heapOfKind_108 ⟨Nat.le_of_ble_eq_true rfl, Nat.le_of_ble_eq_true rfl⟩) hS (fun q _ h => hFc q h) hFc (fun u tC H1 locs htC hvm hw_3 hB hz1 hk1 hS => ?_)
  obtain ⟨⟩ := u
  try dsimp only at hw_3 hB
  obtain ⟨hP1, hK1, hD1⟩ := hB
  rw [htC] at hP1
  have hK1 := va_K.moved hvm.symm hK1
  obtain ⟨hP, hD⟩ := va_join (wr := []) (w1 := [(zo9iiii q_1 6 (nI n) x y)]) hP hD [0] [] rfl rfl (by decide) (by decide) hk1 hFc hP1 hD1
  have hK := (hK.sub (tys' := []) [] rfl).app hK1
  generalize H1 = H at hP hS ⊢
  have hP : va_P (dC, dI) vwCl [(zo9iiii q_1 6 (nI n) x y)] H := hP
  have hD : va_D A [(zo9iiii q_1 6 (nI n) x y)] := hD
  have hK : va_K (dC, dI) vwCl [] s := hK
  rw [hQ]
  have hP9 := hP.sub (ws' := [(zo9iiii q_1 6 (nI n) x y)]) [0] rfl
  have hD9 := hD.sub (ws' := [(zo9iiii q_1 6 (nI n) x y)]) [0] (by decide) rfl
  have hK9 := hK.sub (tys' := []) [] rfl
  exact W.aret (v := .ref q_1) hx hb hr (Or.inl ⟨_, rfl⟩) (Or.inr ⟨_, rfl⟩) (fun tQ htQ hWQ => ⟨⟨some q_1, q_1, rfl, rfl, by rw [htQ]; exact hP9, va_K.moved hWQ.alike hK9, hD9⟩, hS.F htQ⟩) hS.2.2 dX11_heapOfKind_111
