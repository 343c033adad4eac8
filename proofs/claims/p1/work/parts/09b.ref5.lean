theorem dX12_bestRow_0 : decode cX12_bestRow 0 = .ok (.aload_n 0, 1) := by decide +kernel
set_option maxRecDepth 20000 in
theorem ggX12_bestRow_X12_looksForDrifts : GoodIn wsX12_bestRow wsX12_looksForDrifts := goodIn_r _ [7, 8, 9, 10, 11, 6, 12, 13, 14, 15, 16, 17, 18, 19, 20, 21, 52, 53, 54, 55, 56, 57, 58, 59, 60, 61, 62, 63, 64, 65, 66, 67, 68, 69, 70, 71, 72, 73, 74] (by decide +kernel) (by decide +kernel)
set_option maxRecDepth 20000 in
theorem gX12_bestRow_X12_looksForDrifts : GoodIn wsX12_bestRow (wsV RX12 209 RX12 yX12_looksForDrifts wsX12_looksForDrifts) := goodIn_app (goodIn_of _ (by decide +kernel)) ggX12_bestRow_X12_looksForDrifts
theorem dX12_bestRow_1 : decode cX12_bestRow 1 = .ok (.invokevirtual 209, 3) := by decide +kernel
theorem dX12_bestRow_4 : decode cX12_bestRow 4 = .ok (.iload_n 3, 1) := by decide +kernel
theorem dX12_bestRow_5 : decode cX12_bestRow 5 = .ok (.iconst 1, 1) := by decide +kernel
theorem dX12_bestRow_6 : decode cX12_bestRow 6 = .ok (.if_icmp .ne 8, 3) := by decide +kernel
theorem dX12_bestRow_9 : decode cX12_bestRow 9 = .ok (.bipush 8, 2) := by decide +kernel
theorem dX12_bestRow_11 : decode cX12_bestRow 11 = .ok (.goto 16, 3) := by decide +kernel
theorem dX12_bestRow_27 : decode cX12_bestRow 27 = .ok (.istore 4, 2) := by decide +kernel
theorem dX12_bestRow_29 : decode cX12_bestRow 29 = .ok (.iconst (-1), 1) := by decide +kernel
theorem dX12_bestRow_30 : decode cX12_bestRow 30 = .ok (.istore 5, 2) := by decide +kernel
theorem dX12_bestRow_32 : decode cX12_bestRow 32 = .ok (.iconst 0, 1) := by decide +kernel
theorem dX12_bestRow_33 : decode cX12_bestRow 33 = .ok (.istore 6, 2) := by decide +kernel
theorem dX12_bestRow_35 : decode cX12_bestRow 35 = .ok (.iload 6, 2) := by decide +kernel
theorem dX12_bestRow_37 : decode cX12_bestRow 37 = .ok (.iload 4, 2) := by decide +kernel
theorem dX12_bestRow_39 : decode cX12_bestRow 39 = .ok (.if_icmp .ge 93, 3) := by decide +kernel
theorem dX12_bestRow_132 : decode cX12_bestRow 132 = .ok (.iload 5, 2) := by decide +kernel
theorem dX12_bestRow_134 : decode cX12_bestRow 134 = .ok (.ireturn, 1) := by decide +kernel
theorem dX12_bestRow_42 : decode cX12_bestRow 42 = .ok (.aload_n 0, 1) := by decide +kernel
theorem dX12_bestRow_43 : decode cX12_bestRow 43 = .ok (.iload_n 1, 1) := by decide +kernel
theorem dX12_bestRow_44 : decode cX12_bestRow 44 = .ok (.iload 6, 2) := by decide +kernel
theorem dX12_bestRow_46 : decode cX12_bestRow 46 = .ok (.iload_n 3, 1) := by decide +kernel
set_option maxRecDepth 20000 in
theorem ggX12_bestRow_X12_goesBy : GoodIn wsX12_bestRow wsX12_goesBy := goodIn_r _ [25, 26, 27, 28, 6, 29, 1, 30, 31, 32, 33, 34, 19, 35, 8, 36, 37, 38, 39, 40, 41, 42, 43, 44, 45, 46, 47, 52, 53, 54, 55, 56, 57, 58, 59, 60, 61, 62, 63, 64, 65, 66, 67, 68, 69, 70, 71, 72, 73, 74] (by decide +kernel) (by decide +kernel)
set_option maxRecDepth 20000 in
theorem gX12_bestRow_X12_goesBy : GoodIn wsX12_bestRow (wsV RX12 233 RX12 yX12_goesBy wsX12_goesBy) := goodIn_app (goodIn_of _ (by decide +kernel)) ggX12_bestRow_X12_goesBy
theorem dX12_bestRow_47 : decode cX12_bestRow 47 = .ok (.invokevirtual 233, 3) := by decide +kernel
theorem dX12_bestRow_50 : decode cX12_bestRow 50 = .ok (.iload_n 2, 1) := by decide +kernel
theorem dX12_bestRow_51 : decode cX12_bestRow 51 = .ok (.iconst (-1), 1) := by decide +kernel
theorem dX12_bestRow_52 : decode cX12_bestRow 52 = .ok (.if_icmp .ne 11, 3) := by decide +kernel
theorem dX12_bestRow_63 : decode cX12_bestRow 63 = .ok (.aload_n 0, 1) := by decide +kernel
theorem dX12_bestRow_64 : decode cX12_bestRow 64 = .ok (.getfield 28, 3) := by decide +kernel
theorem dX12_bestRow_67 : decode cX12_bestRow 67 = .ok (.iload_n 2, 1) := by decide +kernel
theorem dX12_bestRow_68 : decode cX12_bestRow 68 = .ok (.laload, 1) := by decide +kernel
theorem dX12_bestRow_69 : decode cX12_bestRow 69 = .ok (.lstore 7, 2) := by decide +kernel
theorem dX12_bestRow_71 : decode cX12_bestRow 71 = .ok (.iload 5, 2) := by decide +kernel
theorem dX12_bestRow_73 : decode cX12_bestRow 73 = .ok (.iconst (-1), 1) := by decide +kernel
theorem dX12_bestRow_74 : decode cX12_bestRow 74 = .ok (.if_icmp .eq 13, 3) := by decide +kernel
theorem dX12_bestRow_87 : decode cX12_bestRow 87 = .ok (.iconst 1, 1) := by decide +kernel
theorem dX12_bestRow_88 : decode cX12_bestRow 88 = .ok (.goto 4, 3) := by decide +kernel
theorem dX12_bestRow_92 : decode cX12_bestRow 92 = .ok (.istore 9, 2) := by decide +kernel
theorem dX12_bestRow_94 : decode cX12_bestRow 94 = .ok (.iload 9, 2) := by decide +kernel
theorem dX12_bestRow_96 : decode cX12_bestRow 96 = .ok (.ifCond .eq 8, 3) := by decide +kernel
theorem dX12_bestRow_99 : decode cX12_bestRow 99 = .ok (.iload 6, 2) := by decide +kernel
theorem dX12_bestRow_101 : decode cX12_bestRow 101 = .ok (.goto 5, 3) := by decide +kernel
theorem dX12_bestRow_106 : decode cX12_bestRow 106 = .ok (.istore 5, 2) := by decide +kernel
theorem dX12_bestRow_108 : decode cX12_bestRow 108 = .ok (.aload_n 0, 1) := by decide +kernel
theorem dX12_bestRow_109 : decode cX12_bestRow 109 = .ok (.iload 9, 2) := by decide +kernel
theorem dX12_bestRow_111 : decode cX12_bestRow 111 = .ok (.ifCond .eq 8, 3) := by decide +kernel
theorem dX12_bestRow_114 : decode cX12_bestRow 114 = .ok (.lload 7, 2) := by decide +kernel
theorem dX12_bestRow_116 : decode cX12_bestRow 116 = .ok (.goto 7, 3) := by decide +kernel
theorem dX12_bestRow_123 : decode cX12_bestRow 123 = .ok (.putfield 236, 3) := by decide +kernel
theorem dX12_bestRow_126 : decode cX12_bestRow 126 = .ok (.iinc 6 1, 3) := by decide +kernel
theorem dX12_bestRow_129 : decode cX12_bestRow 129 = .ok (.goto (-94), 3) := by decide +kernel
theorem dX12_bestRow_77 : decode cX12_bestRow 77 = .ok (.lload 7, 2) := by decide +kernel
theorem dX12_bestRow_79 : decode cX12_bestRow 79 = .ok (.aload_n 0, 1) := by decide +kernel
theorem dX12_bestRow_80 : decode cX12_bestRow 80 = .ok (.getfield 236, 3) := by decide +kernel
theorem dX12_bestRow_83 : decode cX12_bestRow 83 = .ok (.lcmp, 1) := by decide +kernel
theorem dX12_bestRow_84 : decode cX12_bestRow 84 = .ok (.ifCond .le 7, 3) := by decide +kernel
theorem dX12_bestRow_91 : decode cX12_bestRow 91 = .ok (.iconst 0, 1) := by decide +kernel
theorem dX12_bestRow_104 : decode cX12_bestRow 104 = .ok (.iload 5, 2) := by decide +kernel
theorem dX12_bestRow_119 : decode cX12_bestRow 119 = .ok (.aload_n 0, 1) := by decide +kernel
theorem dX12_bestRow_120 : decode cX12_bestRow 120 = .ok (.getfield 236, 3) := by decide +kernel
theorem dX12_bestRow_55 : decode cX12_bestRow 55 = .ok (.aload_n 0, 1) := by decide +kernel
set_option maxRecDepth 20000 in
theorem ggX12_bestRow_X12_over : GoodIn wsX12_bestRow wsX12_over := goodIn_r _ [51, 19, 1, 52, 53, 54, 55, 56, 57, 58, 59, 60, 61, 62, 63, 64, 65, 66, 67, 68, 69, 70, 71, 72, 73, 74] (by decide +kernel) (by decide +kernel)
set_option maxRecDepth 20000 in
theorem gX12_bestRow_X12_over : GoodIn wsX12_bestRow (wsV RX12 222 RX12 yX12_over wsX12_over) := goodIn_app (goodIn_of _ (by decide +kernel)) ggX12_bestRow_X12_over
theorem dX12_bestRow_56 : decode cX12_bestRow 56 = .ok (.invokevirtual 222, 3) := by decide +kernel
theorem dX12_bestRow_59 : decode cX12_bestRow 59 = .ok (.lneg, 1) := by decide +kernel
theorem dX12_bestRow_60 : decode cX12_bestRow 60 = .ok (.goto 9, 3) := by decide +kernel
theorem dX12_bestRow_14 : decode cX12_bestRow 14 = .ok (.iload_n 3, 1) := by decide +kernel
theorem dX12_bestRow_15 : decode cX12_bestRow 15 = .ok (.iconst 2, 1) := by decide +kernel
theorem dX12_bestRow_16 : decode cX12_bestRow 16 = .ok (.if_icmp .ne 8, 3) := by decide +kernel
theorem dX12_bestRow_19 : decode cX12_bestRow 19 = .ok (.bipush 64, 2) := by decide +kernel
theorem dX12_bestRow_21 : decode cX12_bestRow 21 = .ok (.goto 6, 3) := by decide +kernel
theorem dX12_bestRow_24 : decode cX12_bestRow 24 = .ok (.sipush 512, 3) := by decide +kernel
theorem kc_bestRow1_0 : ∀ w ∈ wsX120, w ∈ wsX12_bestRow := by decide +kernel
theorem kc_bestRow1_1 : (.fieldLink RX12 28 "MistHeapsModel" "often" "[J" : Cond) ∈ wsX12_bestRow := by decide +kernel
theorem kc_bestRow1_2 : (.fieldLink RX12 236 "MistHeapsModel" "bestOften" "J" : Cond) ∈ wsX12_bestRow := by decide +kernel
set_option maxHeartbeats 4000000 in
set_option maxRecDepth 100000 in
theorem c_bestRow1 (l : Launch) (dC : Nat → ClassId) (dI : Nat → Nat → Nat) (m0 aS aI aB aT aG aO aN aD aY : Nat) (bv : Int64) (cS cB cO cN cD : ClassId) (fB fD : Nat → Int32) (fO fN : Nat → Int64) (j o : Nat) (sz : Nat) (zj : j < 36) (zo : o < 36) : Met l yX12_bestRow wsX12_bestRow ({ frames := 5, cells := 0, slots := 0, locals := 113 } : Room) (va_Pc [.ref m0, .int (nI j), .int (nI o), .int 1] (fun U => U.heap.size = sz ∧ va_P (dC, dI) vwCl [(m0, .inr (14, [.int 0, .ref aS, .ref aI, .int 0, .int 0, .int 0, .int 0, .int 0, .int 0, .ref aB, .ref aT, .int 0, .int 0, .ref aG, .ref aO, .ref aN, .ref aD, .long bv, .ref aY, .int 0, .int 0, .int 0, .int 0])), (aS, .inl (cS, 901, .inl s0)), (aB, .inl (cB, 6, .inl fB)), (aO, .inl (cO, 36, .inr (.inl fO))), (aN, .inl (cN, 36, .inr (.inl fN))), (aD, .inl (cD, 36, .inl fD))] U.heap ∧ va_K (dC, dI) vwCl [(cS, .int), (cB, .int), (cO, .long), (cN, .long), (cD, .int)] U ∧ va_D (fun _ => True) [(m0, .inr (14, [.int 0, .ref aS, .ref aI, .int 0, .int 0, .int 0, .int 0, .int 0, .int 0, .ref aB, .ref aT, .int 0, .int 0, .ref aG, .ref aO, .ref aN, .ref aD, .long bv, .ref aY, .int 0, .int 0, .int 0, .int 0])), (aS, .inl (cS, 901, .inl s0)), (aB, .inl (cB, 6, .inl fB)), (aO, .inl (cO, 36, .inr (.inl fO))), (aN, .inl (cN, 36, .inr (.inl fN))), (aD, .inl (cD, 36, .inl fD))])) (va_Qi (fun (r : Int32) (u : (Nat → Int32) × (Nat → Int64) × (Nat → Int64) × (Nat → Int32) × (Int64)) => match u with | (fB2, fO2, fN2, fD2, bv2) => r = nI (GG (fun q => ind (pth 1 j q) 1 o) 8).2 ∧ bv2 = (GG (fun q => ind (pth 1 j q) 1 o) 8).1) (fun (u : (Nat → Int32) × (Nat → Int64) × (Nat → Int64) × (Nat → Int32) × (Int64)) (t : State) => match u with | (fB2, fO2, fN2, fD2, bv2) => va_P (dC, dI) vwCl [(m0, .inr (14, [.int 0, .ref aS, .ref aI, .int 0, .int 0, .int 0, .int 0, .int 0, .int 0, .ref aB, .ref aT, .int 0, .int 0, .ref aG, .ref aO, .ref aN, .ref aD, .long bv2, .ref aY, .int 0, .int 0, .int 0, .int 0])), (aS, .inl (cS, 901, .inl s0)), (aB, .inl (cB, 6, .inl fB2)), (aO, .inl (cO, 36, .inr (.inl fO2))), (aN, .inl (cN, 36, .inr (.inl fN2))), (aD, .inl (cD, 36, .inl fD2))] t.heap ∧ va_K (dC, dI) vwCl [(cS, .int), (cB, .int), (cO, .long), (cN, .long), (cD, .int)] t ∧ va_D (va_A [(m0, .inr (14, [.int 0, .ref aS, .ref aI, .int 0, .int 0, .int 0, .int 0, .int 0, .int 0, .ref aB, .ref aT, .int 0, .int 0, .ref aG, .ref aO, .ref aN, .ref aD, .long bv, .ref aY, .int 0, .int 0, .int 0, .int 0])), (aS, .inl (cS, 901, .inl s0)), (aB, .inl (cB, 6, .inl fB)), (aO, .inl (cO, 36, .inr (.inl fO))), (aN, .inl (cN, 36, .inr (.inl fN))), (aD, .inl (cD, 36, .inl fD))] sz) [(m0, .inr (14, [.int 0, .ref aS, .ref aI, .int 0, .int 0, .int 0, .int 0, .int 0, .int 0, .ref aB, .ref aT, .int 0, .int 0, .ref aG, .ref aO, .ref aN, .ref aD, .long bv2, .ref aY, .int 0, .int 0, .int 0, .int 0])), (aS, .inl (cS, 901, .inl s0)), (aB, .inl (cB, 6, .inl fB2)), (aO, .inl (cO, 36, .inr (.inl fO2))), (aN, .inl (cN, 36, .inr (.inl fN2))), (aD, .inl (cD, 36, .inl fD2))]) (va_A [(m0, .inr (14, [.int 0, .ref aS, .ref aI, .int 0, .int 0, .int 0, .int 0, .int 0, .int 0, .ref aB, .ref aT, .int 0, .int 0, .ref aG, .ref aO, .ref aN, .ref aD, .long bv, .ref aY, .int 0, .int 0, .int 0, .int 0])), (aS, .inl (cS, 901, .inl s0)), (aB, .inl (cB, 6, .inl fB)), (aO, .inl (cO, 36, .inr (.inl fO))), (aN, .inl (cN, 36, .inr (.inl fN))), (aD, .inl (cD, 36, .inl fD))] sz)) 0 0 (va_A [(m0, .inr (14, [.int 0, .ref aS, .ref aI, .int 0, .int 0, .int 0, .int 0, .int 0, .int 0, .ref aB, .ref aT, .int 0, .int 0, .ref aG, .ref aO, .ref aN, .ref aD, .long bv, .ref aY, .int 0, .int 0, .int 0, .int 0])), (aS, .inl (cS, 901, .inl s0)), (aB, .inl (cB, 6, .inl fB)), (aO, .inl (cO, 36, .inr (.inl fO))), (aN, .inl (cN, 36, .inr (.inl fN))), (aD, .inl (cD, 36, .inl fD))] sz) := by
  refine met_ofQ (cc := cX12_bestRow) (maxL := 10) (ret := (some .int)) (by decide) rfl ?_
  intro p e s m args below meth c s₁ Q B hml hv hQ
  obtain ⟨rfl, hsz, hP, hK, hD0⟩ := hv
  have hx := B.exec
  have hb := B.bytes
  have hr := B.returns
  have hts := atoms_spec (ws := wsX12_bestRow) B.pre
  have hown : s.vm.findClass RX12 = some m.cls := findClass_of_methodNamed B.named
  have hlocks := B.notSynchronized
  subst hsz
  have hD := hD0.self (sz := s.heap.size)
  generalize hAe : va_A [(m0, .inr (14, [.int 0, .ref aS, .ref aI, .int 0, .int 0, .int 0, .int 0, .int 0, .int 0, .ref aB, .ref aT, .int 0, .int 0, .ref aG, .ref aO, .ref aN, .ref aD, .long bv, .ref aY, .int 0, .int 0, .int 0, .int 0])), (aS, .inl (cS, 901, .inl s0)), (aB, .inl (cB, 6, .inl fB)), (aO, .inl (cO, 36, .inr (.inl fO))), (aN, .inl (cN, 36, .inr (.inl fN))), (aD, .inl (cD, 36, .inl fD))] s.heap.size = A at hD hQ ⊢
  have hA : ∀ q : Nat, s.heap.size ≤ q → A q := fun q h => by rw [← hAe]; exact Or.inr h
  have hS : va_S A s.heap s.heap [] := va_S.rf
  have hl := lv_entry [.ref m0, .int (nI j), .int (nI o), .int 1] (n := 10) (Nat.le_of_ble_eq_true rfl)
  rw [lg_entry_eq]
  generalize (lg_sl [.ref m0, .int (nI j), .int (nI o), .int 1] ++ List.replicate (10 - (lg_sl [.ref m0, .int (nI j), .int (nI o), .int 1]).length) Slot.unset).toArray = ls at hl ⊢
  generalize hag : ([.ref m0, .int (nI j), .int (nI o), .int 1] : List Value).toArray = args at hts hQ ⊢
  have hl : lv_has ls 10 [(0, .ref m0), (1, .int (nI j)), (2, .int (nI o)), (3, .int 1)] := hl
  obtain ⟨H, hH⟩ : ∃ H : Heap, H = s.heap := ⟨_, rfl⟩
  rw [← hH] at hP
  rw [← hH]
  have hS : va_S A s.heap H [] := by rw [hH]; exact hS
  obtain ⟨locs, hlo⟩ : ∃ L : List Loc, L = [] := ⟨_, rfl⟩
  rw [← hlo] at hS
  rw [← hlo]
  clear hH hlo
  refine lv_aload_n hx hb dX12_bestRow_0 rfl (lv_at hl 0 rfl) ?_
  have hPc := hP.sub (ws' := [(m0, .inr (14, [.int 0, .ref aS, .ref aI, .int 0, .int 0, .int 0, .int 0, .int 0, .int 0, .ref aB, .ref aT, .int 0, .int 0, .ref aG, .ref aO, .ref aN, .ref aD, .long bv, .ref aY, .int 0, .int 0, .int 0, .int 0])), (aS, .inl (cS, 901, .inl s0)), (aB, .inl (cB, 6, .inl fB)), (aD, .inl (cD, 36, .inl fD))]) [0, 1, 2, 5] rfl
  have hDc := hD.sub (ws' := [(m0, .inr (14, [.int 0, .ref aS, .ref aI, .int 0, .int 0, .int 0, .int 0, .int 0, .int 0, .ref aB, .ref aT, .int 0, .int 0, .ref aG, .ref aO, .ref aN, .ref aD, .long bv, .ref aY, .int 0, .int 0, .int 0, .int 0])), (aS, .inl (cS, 901, .inl s0)), (aB, .inl (cB, 6, .inl fB)), (aD, .inl (cD, 36, .inl fD))]) [0, 1, 2, 5] (by decide) rfl
  have hKc := hK.sub (tys' := [(cS, .int), (cB, .int), (cD, .int)]) [0, 1, 4] rfl
  have hFc := va_free (wc := [(m0, .inr (14, [.int 0, .ref aS, .ref aI, .int 0, .int 0, .int 0, .int 0, .int 0, .int 0, .ref aB, .ref aT, .int 0, .int 0, .ref aG, .ref aO, .ref aN, .ref aD, .long bv, .ref aY, .int 0, .int 0, .int 0, .int 0])), (aS, .inl (cS, 901, .inl s0)), (aB, .inl (cB, 6, .inl fB)), (aD, .inl (cD, 36, .inl fD))]) hD hS hA [0, 1, 2, 5] rfl
  refine va_callv (va_runV (As := []) (rest := []) ⟨hx, hb, hml, hown, hts⟩ (c_looksFor0 l dC dI m0 aS aI aB aT aG aO aN aD aY bv cS cB cD (fB) (fD) H.size) (cwV 0 hts gX12_bestRow_X12_looksForDrifts rfl rfl rfl (by decide +kernel) ⟨Nat.le_of_ble_eq_true rfl, Nat.le_of_ble_eq_true rfl⟩) ⟨fun a U g mk q => by obtain ⟨q0, q1, qP, qK, qD⟩ := q; exact ⟨q0, q1, qP, va_K.moved (u := U) (U := U.calling g mk a) (Vm.Alike.refl U.vm) qK, qD⟩, va_recv hK hP (ci := 14) (q0 := 0) rfl rfl, fun U hU hW => ⟨rfl, by rw [hU], by rw [hU]; exact hPc, va_K.moved hW.alike hKc, hDc.weaken (fun _ _ _ _ => trivial)⟩⟩ rfl rfl hl.1 rfl (lv_room (Nat.le_of_ble_eq_true rfl)) dX12_bestRow_1 ⟨Nat.le_of_ble_eq_true rfl, Nat.le_of_ble_eq_true rfl⟩) hS (fun q _ h => hFc q h) hFc (fun u tC H1 locs htC hvm hw_2 hB hz1 hk1 hS => ?_)
  obtain ⟨fB2_3, fD2_4⟩ := u
  try dsimp only at hw_2 hB
  obtain ⟨hP1, hK1, hD1⟩ := hB
  rw [htC] at hP1
  have hK1 := va_K.moved hvm.symm hK1
  obtain ⟨hP, hD⟩ := va_join (wr := [(aO, .inl (cO, 36, .inr (.inl fO))), (aN, .inl (cN, 36, .inr (.inl fN)))]) (w1 := [(m0, .inr (14, [.int 0, .ref aS, .ref aI, .int 0, .int 0, .int 0, .int 0, .int 0, .int 0, .ref aB, .ref aT, .int 0, .int 0, .ref aG, .ref aO, .ref aN, .ref aD, .long bv, .ref aY, .int 0, .int 0, .int 0, .int 0])), (aS, .inl (cS, 901, .inl s0)), (aB, .inl (cB, 6, .inl fB2_3)), (aD, .inl (cD, 36, .inl fD2_4))]) hP hD [0, 1, 2, 5] [3, 4] rfl rfl (by decide) (by decide) hk1 hFc hP1 hD1
  have hK := (hK.sub (tys' := [(cO, .long), (cN, .long)]) [2, 3] rfl).app hK1
  generalize H1 = H at hP hS ⊢
  have hP : va_P (dC, dI) vwCl [(aO, .inl (cO, 36, .inr (.inl fO))), (aN, .inl (cN, 36, .inr (.inl fN))), (m0, .inr (14, [.int 0, .ref aS, .ref aI, .int 0, .int 0, .int 0, .int 0, .int 0, .int 0, .ref aB, .ref aT, .int 0, .int 0, .ref aG, .ref aO, .ref aN, .ref aD, .long bv, .ref aY, .int 0, .int 0, .int 0, .int 0])), (aS, .inl (cS, 901, .inl s0)), (aB, .inl (cB, 6, .inl fB2_3)), (aD, .inl (cD, 36, .inl fD2_4))] H := hP
  have hD : va_D A [(aO, .inl (cO, 36, .inr (.inl fO))), (aN, .inl (cN, 36, .inr (.inl fN))), (m0, .inr (14, [.int 0, .ref aS, .ref aI, .int 0, .int 0, .int 0, .int 0, .int 0, .int 0, .ref aB, .ref aT, .int 0, .int 0, .ref aG, .ref aO, .ref aN, .ref aD, .long bv, .ref aY, .int 0, .int 0, .int 0, .int 0])), (aS, .inl (cS, 901, .inl s0)), (aB, .inl (cB, 6, .inl fB2_3)), (aD, .inl (cD, 36, .inl fD2_4))] := hD
  have hK : va_K (dC, dI) vwCl [(cO, .long), (cN, .long), (cS, .int), (cB, .int), (cD, .int)] s := hK
  refine lv_iload_n hx hb dX12_bestRow_4 rfl (lv_at hl 3 rfl) ?_
  refine lv_iconst (v := 1) hx hb dX12_bestRow_5 (by decide) ?_
  refine lv_icmp_ne (tgt := 14) hx hb dX12_bestRow_6 (by decide) (fun c_5 => absurd c_5 (by decide)) (fun _ => ?_)
  refine lv_bipush (v := 8) hx hb dX12_bestRow_9 (by decide) ?_
  refine lv_goto (tgt := 27) hx hb dX12_bestRow_11 (by decide) ?_
  refine lv_istore (lv' := [(4, .int 8), (0, .ref m0), (1, .int (nI j)), (2, .int (nI o)), (3, .int 1)]) hx hb dX12_bestRow_27 hl (by decide) rfl (fun ls hl => ?_)
  refine lv_iconst (v := (-1)) hx hb dX12_bestRow_29 (by decide) ?_
  refine lv_istore (lv' := [(5, .int (-1)), (4, .int 8), (0, .ref m0), (1, .int (nI j)), (2, .int (nI o)), (3, .int 1)]) hx hb dX12_bestRow_30 hl (by decide) rfl (fun ls hl => ?_)
  refine lv_iconst (v := 0) hx hb dX12_bestRow_32 (by decide) ?_
  refine lv_istore (lv' := [(6, .int 0), (5, .int (-1)), (4, .int 8), (0, .ref m0), (1, .int (nI j)), (2, .int (nI o)), (3, .int 1)]) hx hb dX12_bestRow_33 hl (by decide) rfl (fun ls hl => ?_)
  have L35 : ∀ (nF : Nat) (i : Nat) (bs : Int32) (b : Int64) (f : Nat → Int64) (t : Nat → Int64), 8 - i < nF → (i ≤ 8) → (GI (fun q => ind (pth 1 j q) 1 o) i bs b) → ∀ (H : Heap) (locs : List Loc), va_K (dC, dI) vwCl [(cS, .int), (cB, .int), (cO, .long), (cN, .long), (cD, .int)] s → va_P (dC, dI) vwCl [(m0, .inr (14, [.int 0, .ref aS, .ref aI, .int 0, .int 0, .int 0, .int 0, .int 0, .int 0, .ref aB, .ref aT, .int 0, .int 0, .ref aG, .ref aO, .ref aN, .ref aD, .long b, .ref aY, .int 0, .int 0, .int 0, .int 0])), (aS, .inl (cS, 901, .inl s0)), (aB, .inl (cB, 6, .inl fB2_3)), (aO, .inl (cO, 36, .inr (.inl f))), (aN, .inl (cN, 36, .inr (.inl t))), (aD, .inl (cD, 36, .inl fD2_4))] H → va_D A [(m0, .inr (14, [.int 0, .ref aS, .ref aI, .int 0, .int 0, .int 0, .int 0, .int 0, .int 0, .ref aB, .ref aT, .int 0, .int 0, .ref aG, .ref aO, .ref aN, .ref aD, .long b, .ref aY, .int 0, .int 0, .int 0, .int 0])), (aS, .inl (cS, 901, .inl s0)), (aB, .inl (cB, 6, .inl fB2_3)), (aO, .inl (cO, 36, .inr (.inl f))), (aN, .inl (cN, 36, .inr (.inl t))), (aD, .inl (cD, 36, .inl fD2_4))] → va_S A s.heap H locs → ∀ (ls : Array Slot), lv_has ls 10 [(0, .ref m0), (1, .int (nI j)), (2, .int (nI o)), (3, .int 1), (4, .int 8), (5, .int bs), (6, .int (nI i))] → W p l e ({ frames := 5, cells := 0, slots := 0, locals := 113 } : Room) s m args below meth c H locs 0 0 Q (F0 m 35 ls []) := by
    intro nF
    induction nF with
    | zero => intro i bs b f t hm; exact absurd hm (Nat.not_lt_zero _)
    | succ nF ih35 =>
      intro i bs b f t hm hi hg H locs hK hP hD hS ls hl
      refine lv_iload hx hb dX12_bestRow_35 (lv_at hl 6 rfl) ?_
      refine lv_iload hx hb dX12_bestRow_37 (lv_at hl 4 rfl) ?_
      refine lv_icmp_ge (tgt := 132) hx hb dX12_bestRow_39 (by decide) (fun c_6 => ?_) (fun c_6 => ?_)
      · skip
        have c_6 : 8 ≤ i := (nI_leI (a := 8) (b := i) (by omega) (by omega)).mp c_6
        refine lv_iload hx hb dX12_bestRow_132 (lv_at hl 5 rfl) ?_
        rw [hQ]
        have hP9 := hP.sub (ws' := [(m0, .inr (14, [.int 0, .ref aS, .ref aI, .int 0, .int 0, .int 0, .int 0, .int 0, .int 0, .ref aB, .ref aT, .int 0, .int 0, .ref aG, .ref aO, .ref aN, .ref aD, .long b, .ref aY, .int 0, .int 0, .int 0, .int 0])), (aS, .inl (cS, 901, .inl s0)), (aB, .inl (cB, 6, .inl fB2_3)), (aO, .inl (cO, 36, .inr (.inl f))), (aN, .inl (cN, 36, .inr (.inl t))), (aD, .inl (cD, 36, .inl fD2_4))]) [0, 1, 2, 3, 4, 5] rfl
        have hD9 := hD.sub (ws' := [(m0, .inr (14, [.int 0, .ref aS, .ref aI, .int 0, .int 0, .int 0, .int 0, .int 0, .int 0, .ref aB, .ref aT, .int 0, .int 0, .ref aG, .ref aO, .ref aN, .ref aD, .long b, .ref aY, .int 0, .int 0, .int 0, .int 0])), (aS, .inl (cS, 901, .inl s0)), (aB, .inl (cB, 6, .inl fB2_3)), (aO, .inl (cO, 36, .inr (.inl f))), (aN, .inl (cN, 36, .inr (.inl t))), (aD, .inl (cD, 36, .inl fD2_4))]) [0, 1, 2, 3, 4, 5] (by decide) rfl
        have hK9 := hK.sub (tys' := [(cS, .int), (cB, .int), (cO, .long), (cN, .long), (cD, .int)]) [0, 1, 2, 3, 4] rfl
        exact W.iret (v := bs) hx hb hr (fun tQ htQ hWQ => ⟨⟨bs, (fB2_3, f, t, fD2_4, b), rfl, (by have e : i = 8 := (by omega); rw [e] at hg; exact hg.2 (by omega)), by rw [htQ]; exact hP9, va_K.moved hWQ.alike hK9, hD9⟩, hS.F htQ⟩) hS.2.2 dX12_bestRow_134
      · skip
        have c_6 : ¬ 8 ≤ i := fun q => c_6 ((nI_leI (a := 8) (b := i) (by omega) (by omega)).mpr q)
        refine lv_aload_n hx hb dX12_bestRow_42 rfl (lv_at hl 0 rfl) ?_
        refine lv_iload_n hx hb dX12_bestRow_43 rfl (lv_at hl 1 rfl) ?_
        refine lv_iload hx hb dX12_bestRow_44 (lv_at hl 6 rfl) ?_
        refine lv_iload_n hx hb dX12_bestRow_46 rfl (lv_at hl 3 rfl) ?_
        have hPc := hP.sub (ws' := [(m0, .inr (14, [.int 0, .ref aS, .ref aI, .int 0, .int 0, .int 0, .int 0, .int 0, .int 0, .ref aB, .ref aT, .int 0, .int 0, .ref aG, .ref aO, .ref aN, .ref aD, .long b, .ref aY, .int 0, .int 0, .int 0, .int 0])), (aS, .inl (cS, 901, .inl s0)), (aO, .inl (cO, 36, .inr (.inl f))), (aN, .inl (cN, 36, .inr (.inl t))), (aD, .inl (cD, 36, .inl fD2_4))]) [0, 1, 3, 4, 5] rfl
        have hDc := hD.sub (ws' := [(m0, .inr (14, [.int 0, .ref aS, .ref aI, .int 0, .int 0, .int 0, .int 0, .int 0, .int 0, .ref aB, .ref aT, .int 0, .int 0, .ref aG, .ref aO, .ref aN, .ref aD, .long b, .ref aY, .int 0, .int 0, .int 0, .int 0])), (aS, .inl (cS, 901, .inl s0)), (aO, .inl (cO, 36, .inr (.inl f))), (aN, .inl (cN, 36, .inr (.inl t))), (aD, .inl (cD, 36, .inl fD2_4))]) [0, 1, 3, 4, 5] (by decide) rfl
        have hKc := hK.sub (tys' := [(cS, .int), (cO, .long), (cN, .long), (cD, .int)]) [0, 2, 3, 4] rfl
        have hFc := va_free (wc := [(m0, .inr (14, [.int 0, .ref aS, .ref aI, .int 0, .int 0, .int 0, .int 0, .int 0, .int 0, .ref aB, .ref aT, .int 0, .int 0, .ref aG, .ref aO, .ref aN, .ref aD, .long b, .ref aY, .int 0, .int 0, .int 0, .int 0])), (aS, .inl (cS, 901, .inl s0)), (aO, .inl (cO, 36, .inr (.inl f))), (aN, .inl (cN, 36, .inr (.inl t))), (aD, .inl (cD, 36, .inl fD2_4))]) hD hS hA [0, 1, 3, 4, 5] rfl
        refine va_callv (va_runV (As := [.int (nI j), .int (nI i), .int 1]) (rest := []) ⟨hx, hb, hml, hown, hts⟩ (c_goesBy1 l dC dI m0 aS aI aB aT aG aO aN aD aY b cS cO cN cD (f) (t) (fD2_4) j i H.size (by omega) (by omega) hw_2) (cwV 3 hts gX12_bestRow_X12_goesBy rfl rfl rfl (by decide +kernel) ⟨Nat.le_of_ble_eq_true rfl, Nat.le_of_ble_eq_true rfl⟩) ⟨fun a U g mk q => by obtain ⟨q0, q1, qP, qK, qD⟩ := q; exact ⟨q0, q1, qP, va_K.moved (u := U) (U := U.calling g mk a) (Vm.Alike.refl U.vm) qK, qD⟩, va_recv hK hP (ci := 14) (q0 := 0) rfl rfl, fun U hU hW => ⟨rfl, by rw [hU], by rw [hU]; exact hPc, va_K.moved hW.alike hKc, hDc.weaken (fun _ _ _ _ => trivial)⟩⟩ rfl rfl hl.1 rfl (lv_room (Nat.le_of_ble_eq_true rfl)) dX12_bestRow_47 ⟨Nat.le_of_ble_eq_true rfl, Nat.le_of_ble_eq_true rfl⟩) hS (fun q _ h => hFc q h) hFc (fun u tC H1 locs htC hvm hw_8 hB hz1 hk1 hS => ?_)
        obtain ⟨fO2_9, fN2_10⟩ := u
        try dsimp only at hw_8 hB
        obtain ⟨hP1, hK1, hD1⟩ := hB
        rw [htC] at hP1
        have hK1 := va_K.moved hvm.symm hK1
        obtain ⟨hP, hD⟩ := va_join (wr := [(aB, .inl (cB, 6, .inl fB2_3))]) (w1 := [(m0, .inr (14, [.int 0, .ref aS, .ref aI, .int 0, .int 0, .int 0, .int 0, .int 0, .int 0, .ref aB, .ref aT, .int 0, .int 0, .ref aG, .ref aO, .ref aN, .ref aD, .long b, .ref aY, .int 0, .int 0, .int 0, .int 0])), (aS, .inl (cS, 901, .inl s0)), (aO, .inl (cO, 36, .inr (.inl fO2_9))), (aN, .inl (cN, 36, .inr (.inl fN2_10))), (aD, .inl (cD, 36, .inl fD2_4))]) hP hD [0, 1, 3, 4, 5] [2] rfl rfl (by decide) (by decide) hk1 hFc hP1 hD1
        have hK := (hK.sub (tys' := [(cB, .int)]) [1] rfl).app hK1
        generalize H1 = H at hP hS ⊢
        have hP : va_P (dC, dI) vwCl [(aB, .inl (cB, 6, .inl fB2_3)), (m0, .inr (14, [.int 0, .ref aS, .ref aI, .int 0, .int 0, .int 0, .int 0, .int 0, .int 0, .ref aB, .ref aT, .int 0, .int 0, .ref aG, .ref aO, .ref aN, .ref aD, .long b, .ref aY, .int 0, .int 0, .int 0, .int 0])), (aS, .inl (cS, 901, .inl s0)), (aO, .inl (cO, 36, .inr (.inl fO2_9))), (aN, .inl (cN, 36, .inr (.inl fN2_10))), (aD, .inl (cD, 36, .inl fD2_4))] H := hP
        have hD : va_D A [(aB, .inl (cB, 6, .inl fB2_3)), (m0, .inr (14, [.int 0, .ref aS, .ref aI, .int 0, .int 0, .int 0, .int 0, .int 0, .int 0, .ref aB, .ref aT, .int 0, .int 0, .ref aG, .ref aO, .ref aN, .ref aD, .long b, .ref aY, .int 0, .int 0, .int 0, .int 0])), (aS, .inl (cS, 901, .inl s0)), (aO, .inl (cO, 36, .inr (.inl fO2_9))), (aN, .inl (cN, 36, .inr (.inl fN2_10))), (aD, .inl (cD, 36, .inl fD2_4))] := hD
        have hK : va_K (dC, dI) vwCl [(cB, .int), (cS, .int), (cO, .long), (cN, .long), (cD, .int)] s := hK
        refine lv_iload_n hx hb dX12_bestRow_50 rfl (lv_at hl 2 rfl) ?_
        refine lv_iconst (v := (-1)) hx hb dX12_bestRow_51 (by decide) ?_
        refine lv_icmp_ne (tgt := 63) hx hb dX12_bestRow_52 (by decide) (fun c_11 => ?_) (fun c_11 => absurd c_11 (g_ne (by omega)))
        refine lv_aload_n hx hb dX12_bestRow_63 rfl (lv_at hl 0 rfl) ?_
        refine va_get (D := (dC, dI)) (ci := 14) (v := .ref aO) (C := RX12) (T := TX12) (N := 23) hx hb hts kc_bestRow1_0 hown hK hP 1 rfl rfl 14 (by decide) (hts (.fieldLink RX12 28 "MistHeapsModel" "often" "[J") kc_bestRow1_1) (fun _ h9 => h9) rfl dX12_bestRow_64 ?_
        refine lv_iload_n hx hb dX12_bestRow_67 rfl (lv_at hl 2 rfl) ?_
        refine va_lald hx hb hK hP 3 2 rfl rfl (vp_in_nI (n := o) (N := 36) (by omega) (by omega)) dX12_bestRow_68 ?_
        refine ql_as (y := ind (pth 1 j i) 1 o) ((show fO2_9 (nI o).toNatClampNeg = fO2_9 o from by rw [nI_clamp (by omega)]).trans (hw_8 o (by omega))) ?_
        refine lv_lstore (lv' := [(7, .long (ind (pth 1 j i) 1 o)), (0, .ref m0), (1, .int (nI j)), (2, .int (nI o)), (3, .int 1), (4, .int 8), (5, .int bs), (6, .int (nI i))]) hx hb dX12_bestRow_69 hl (by decide) rfl (fun ls hl => ?_)
        refine lv_iload hx hb dX12_bestRow_71 (lv_at hl 6 rfl) ?_
        refine lv_iconst (v := (-1)) hx hb dX12_bestRow_73 (by decide) ?_
        refine lv_icmp_eq (tgt := 87) hx hb dX12_bestRow_74 (by decide) (fun c_12 => ?_) (fun c_12 => ?_)
        · skip
          refine lv_iconst (v := 1) hx hb dX12_bestRow_87 (by decide) ?_
          refine lv_goto (tgt := 92) hx hb dX12_bestRow_88 (by decide) ?_
          refine lv_istore (lv' := [(9, .int 1), (7, .long (ind (pth 1 j i) 1 o)), (0, .ref m0), (1, .int (nI j)), (2, .int (nI o)), (3, .int 1), (4, .int 8), (5, .int bs), (6, .int (nI i))]) hx hb dX12_bestRow_92 hl (by decide) rfl (fun ls hl => ?_)
          refine lv_iload hx hb dX12_bestRow_94 (lv_at hl 0 rfl) ?_
          refine lv_if_eq (tgt := 104) hx hb dX12_bestRow_96 (by decide) (fun c_13 => absurd c_13 (by decide)) (fun _ => ?_)
          refine lv_iload hx hb dX12_bestRow_99 (lv_at hl 8 rfl) ?_
          refine lv_goto (tgt := 106) hx hb dX12_bestRow_101 (by decide) ?_
          refine lv_istore (lv' := [(5, .int (nI i)), (9, .int 1), (7, .long (ind (pth 1 j i) 1 o)), (0, .ref m0), (1, .int (nI j)), (2, .int (nI o)), (3, .int 1), (4, .int 8), (6, .int (nI i))]) hx hb dX12_bestRow_106 hl (by decide) rfl (fun ls hl => ?_)
          refine lv_aload_n hx hb dX12_bestRow_108 rfl (lv_at hl 3 rfl) ?_
          refine lv_iload hx hb dX12_bestRow_109 (lv_at hl 1 rfl) ?_
          refine lv_if_eq (tgt := 119) hx hb dX12_bestRow_111 (by decide) (fun c_14 => absurd c_14 (by decide)) (fun _ => ?_)
          refine lv_lload hx hb dX12_bestRow_114 (lv_at hl 2 rfl) ?_
          refine lv_goto (tgt := 123) hx hb dX12_bestRow_116 (by decide) ?_
          refine va_put (D := (dC, dI)) (ci := 14) (v := .long (ind (pth 1 j i) 1 o)) (ty := .long) (C := RX12) (T := TX12) (N := 23) hx hb hts kc_bestRow1_0 tyX12 tyX12_ok nmX12 hown hK hP hD hS 1 rfl rfl 17 (by decide) (hts (.fieldLink RX12 236 "MistHeapsModel" "bestOften" "J") kc_bestRow1_2) (fun _ h9 => h9) rfl (by decide +kernel) rfl rfl (Nat.le_of_ble_eq_true rfl) dX12_bestRow_123 (fun H locs hP hD hS => ?_)
          have hP : va_P (dC, dI) vwCl [(aB, .inl (cB, 6, .inl fB2_3)), (m0, .inr (14, [.int 0, .ref aS, .ref aI, .int 0, .int 0, .int 0, .int 0, .int 0, .int 0, .ref aB, .ref aT, .int 0, .int 0, .ref aG, .ref aO, .ref aN, .ref aD, .long (ind (pth 1 j i) 1 o), .ref aY, .int 0, .int 0, .int 0, .int 0])), (aS, .inl (cS, 901, .inl s0)), (aO, .inl (cO, 36, .inr (.inl fO2_9))), (aN, .inl (cN, 36, .inr (.inl fN2_10))), (aD, .inl (cD, 36, .inl fD2_4))] H := hP
          have hD : va_D A [(aB, .inl (cB, 6, .inl fB2_3)), (m0, .inr (14, [.int 0, .ref aS, .ref aI, .int 0, .int 0, .int 0, .int 0, .int 0, .int 0, .ref aB, .ref aT, .int 0, .int 0, .ref aG, .ref aO, .ref aN, .ref aD, .long (ind (pth 1 j i) 1 o), .ref aY, .int 0, .int 0, .int 0, .int 0])), (aS, .inl (cS, 901, .inl s0)), (aO, .inl (cO, 36, .inr (.inl fO2_9))), (aN, .inl (cN, 36, .inr (.inl fN2_10))), (aD, .inl (cD, 36, .inl fD2_4))] := hD
          refine lv_iinc (v := nI (i + 1)) (lv' := [(6, .int (nI (i + 1))), (5, .int (nI i)), (9, .int 1), (7, .long (ind (pth 1 j i) 1 o)), (0, .ref m0), (1, .int (nI j)), (2, .int (nI o)), (3, .int 1), (4, .int 8)]) hx hb dX12_bestRow_126 hl (k := 8) rfl (nI_add i 1) (by decide) rfl (fun ls hl => ?_)
          refine lv_goto (tgt := 35) hx hb dX12_bestRow_129 (by decide) ?_
          exact ih35 _ _ _ _ _ (by omega) (by omega) (GI_A (v := (fun q => ind (pth 1 j q) 1 o)) (by omega) hg c_12 (ind_ge _ _ _ (by omega))) _ _ (hK.sub [1, 0, 2, 3, 4] rfl) (hP.sub [1, 2, 0, 3, 4, 5] rfl) (hD.sub [1, 2, 0, 3, 4, 5] (by decide) rfl) hS ls (lv_sub hl [4, 5, 6, 7, 8, 1, 0] rfl)
        · skip
          refine lv_lload hx hb dX12_bestRow_77 (lv_at hl 0 rfl) ?_
          refine lv_aload_n hx hb dX12_bestRow_79 rfl (lv_at hl 1 rfl) ?_
          refine va_get (D := (dC, dI)) (ci := 14) (v := .long b) (C := RX12) (T := TX12) (N := 23) hx hb hts kc_bestRow1_0 hown hK hP 1 rfl rfl 17 (by decide) (hts (.fieldLink RX12 236 "MistHeapsModel" "bestOften" "J") kc_bestRow1_2) (fun _ h9 => h9) rfl dX12_bestRow_80 ?_
          refine W.lcmp hx hb dX12_bestRow_83 ?_
          refine lv_if_le (tgt := 91) hx hb dX12_bestRow_84 (by decide) (fun c_15 => ?_) (fun c_15 => ?_)
          · skip
            rw [lg_cmp_le] at c_15
            refine lv_iconst (v := 0) hx hb dX12_bestRow_91 (by decide) ?_
            refine lv_istore (lv' := [(9, .int 0), (7, .long (ind (pth 1 j i) 1 o)), (0, .ref m0), (1, .int (nI j)), (2, .int (nI o)), (3, .int 1), (4, .int 8), (5, .int bs), (6, .int (nI i))]) hx hb dX12_bestRow_92 hl (by decide) rfl (fun ls hl => ?_)
            refine lv_iload hx hb dX12_bestRow_94 (lv_at hl 0 rfl) ?_
            refine lv_if_eq (tgt := 104) hx hb dX12_bestRow_96 (by decide) (fun _ => ?_) (fun c_16 => absurd c_16 (by decide))
            refine lv_iload hx hb dX12_bestRow_104 (lv_at hl 7 rfl) ?_
            refine lv_istore (lv' := [(5, .int bs), (9, .int 0), (7, .long (ind (pth 1 j i) 1 o)), (0, .ref m0), (1, .int (nI j)), (2, .int (nI o)), (3, .int 1), (4, .int 8), (6, .int (nI i))]) hx hb dX12_bestRow_106 hl (by decide) rfl (fun ls hl => ?_)
            refine lv_aload_n hx hb dX12_bestRow_108 rfl (lv_at hl 3 rfl) ?_
            refine lv_iload hx hb dX12_bestRow_109 (lv_at hl 1 rfl) ?_
            refine lv_if_eq (tgt := 119) hx hb dX12_bestRow_111 (by decide) (fun _ => ?_) (fun c_17 => absurd c_17 (by decide))
            refine lv_aload_n hx hb dX12_bestRow_119 rfl (lv_at hl 3 rfl) ?_
            refine va_get (D := (dC, dI)) (ci := 14) (v := .long b) (C := RX12) (T := TX12) (N := 23) hx hb hts kc_bestRow1_0 hown hK hP 1 rfl rfl 17 (by decide) (hts (.fieldLink RX12 236 "MistHeapsModel" "bestOften" "J") kc_bestRow1_2) (fun _ h9 => h9) rfl dX12_bestRow_120 ?_
            refine va_put (D := (dC, dI)) (ci := 14) (v := .long b) (ty := .long) (C := RX12) (T := TX12) (N := 23) hx hb hts kc_bestRow1_0 tyX12 tyX12_ok nmX12 hown hK hP hD hS 1 rfl rfl 17 (by decide) (hts (.fieldLink RX12 236 "MistHeapsModel" "bestOften" "J") kc_bestRow1_2) (fun _ h9 => h9) rfl (by decide +kernel) rfl rfl (Nat.le_of_ble_eq_true rfl) dX12_bestRow_123 (fun H locs hP hD hS => ?_)
            have hP : va_P (dC, dI) vwCl [(aB, .inl (cB, 6, .inl fB2_3)), (m0, .inr (14, [.int 0, .ref aS, .ref aI, .int 0, .int 0, .int 0, .int 0, .int 0, .int 0, .ref aB, .ref aT, .int 0, .int 0, .ref aG, .ref aO, .ref aN, .ref aD, .long b, .ref aY, .int 0, .int 0, .int 0, .int 0])), (aS, .inl (cS, 901, .inl s0)), (aO, .inl (cO, 36, .inr (.inl fO2_9))), (aN, .inl (cN, 36, .inr (.inl fN2_10))), (aD, .inl (cD, 36, .inl fD2_4))] H := hP
            have hD : va_D A [(aB, .inl (cB, 6, .inl fB2_3)), (m0, .inr (14, [.int 0, .ref aS, .ref aI, .int 0, .int 0, .int 0, .int 0, .int 0, .int 0, .ref aB, .ref aT, .int 0, .int 0, .ref aG, .ref aO, .ref aN, .ref aD, .long b, .ref aY, .int 0, .int 0, .int 0, .int 0])), (aS, .inl (cS, 901, .inl s0)), (aO, .inl (cO, 36, .inr (.inl fO2_9))), (aN, .inl (cN, 36, .inr (.inl fN2_10))), (aD, .inl (cD, 36, .inl fD2_4))] := hD
            refine lv_iinc (v := nI (i + 1)) (lv' := [(6, .int (nI (i + 1))), (5, .int bs), (9, .int 0), (7, .long (ind (pth 1 j i) 1 o)), (0, .ref m0), (1, .int (nI j)), (2, .int (nI o)), (3, .int 1), (4, .int 8)]) hx hb dX12_bestRow_126 hl (k := 8) rfl (nI_add i 1) (by decide) rfl (fun ls hl => ?_)
            refine lv_goto (tgt := 35) hx hb dX12_bestRow_129 (by decide) ?_
            exact ih35 _ _ _ _ _ (by omega) (by omega) (GI_B1 (v := (fun q => ind (pth 1 j q) 1 o)) hg c_12 c_15) _ _ (hK.sub [1, 0, 2, 3, 4] rfl) (hP.sub [1, 2, 0, 3, 4, 5] rfl) (hD.sub [1, 2, 0, 3, 4, 5] (by decide) rfl) hS ls (lv_sub hl [4, 5, 6, 7, 8, 1, 0] rfl)
          · skip
            rw [lg_cmp_le] at c_15
            refine lv_iconst (v := 1) hx hb dX12_bestRow_87 (by decide) ?_
            refine lv_goto (tgt := 92) hx hb dX12_bestRow_88 (by decide) ?_
            refine lv_istore (lv' := [(9, .int 1), (7, .long (ind (pth 1 j i) 1 o)), (0, .ref m0), (1, .int (nI j)), (2, .int (nI o)), (3, .int 1), (4, .int 8), (5, .int bs), (6, .int (nI i))]) hx hb dX12_bestRow_92 hl (by decide) rfl (fun ls hl => ?_)
            refine lv_iload hx hb dX12_bestRow_94 (lv_at hl 0 rfl) ?_
            refine lv_if_eq (tgt := 104) hx hb dX12_bestRow_96 (by decide) (fun c_18 => absurd c_18 (by decide)) (fun _ => ?_)
            refine lv_iload hx hb dX12_bestRow_99 (lv_at hl 8 rfl) ?_
            refine lv_goto (tgt := 106) hx hb dX12_bestRow_101 (by decide) ?_
            refine lv_istore (lv' := [(5, .int (nI i)), (9, .int 1), (7, .long (ind (pth 1 j i) 1 o)), (0, .ref m0), (1, .int (nI j)), (2, .int (nI o)), (3, .int 1), (4, .int 8), (6, .int (nI i))]) hx hb dX12_bestRow_106 hl (by decide) rfl (fun ls hl => ?_)
            refine lv_aload_n hx hb dX12_bestRow_108 rfl (lv_at hl 3 rfl) ?_
            refine lv_iload hx hb dX12_bestRow_109 (lv_at hl 1 rfl) ?_
            refine lv_if_eq (tgt := 119) hx hb dX12_bestRow_111 (by decide) (fun c_19 => absurd c_19 (by decide)) (fun _ => ?_)
            refine lv_lload hx hb dX12_bestRow_114 (lv_at hl 2 rfl) ?_
            refine lv_goto (tgt := 123) hx hb dX12_bestRow_116 (by decide) ?_
            refine va_put (D := (dC, dI)) (ci := 14) (v := .long (ind (pth 1 j i) 1 o)) (ty := .long) (C := RX12) (T := TX12) (N := 23) hx hb hts kc_bestRow1_0 tyX12 tyX12_ok nmX12 hown hK hP hD hS 1 rfl rfl 17 (by decide) (hts (.fieldLink RX12 236 "MistHeapsModel" "bestOften" "J") kc_bestRow1_2) (fun _ h9 => h9) rfl (by decide +kernel) rfl rfl (Nat.le_of_ble_eq_true rfl) dX12_bestRow_123 (fun H locs hP hD hS => ?_)
            have hP : va_P (dC, dI) vwCl [(aB, .inl (cB, 6, .inl fB2_3)), (m0, .inr (14, [.int 0, .ref aS, .ref aI, .int 0, .int 0, .int 0, .int 0, .int 0, .int 0, .ref aB, .ref aT, .int 0, .int 0, .ref aG, .ref aO, .ref aN, .ref aD, .long (ind (pth 1 j i) 1 o), .ref aY, .int 0, .int 0, .int 0, .int 0])), (aS, .inl (cS, 901, .inl s0)), (aO, .inl (cO, 36, .inr (.inl fO2_9))), (aN, .inl (cN, 36, .inr (.inl fN2_10))), (aD, .inl (cD, 36, .inl fD2_4))] H := hP
            have hD : va_D A [(aB, .inl (cB, 6, .inl fB2_3)), (m0, .inr (14, [.int 0, .ref aS, .ref aI, .int 0, .int 0, .int 0, .int 0, .int 0, .int 0, .ref aB, .ref aT, .int 0, .int 0, .ref aG, .ref aO, .ref aN, .ref aD, .long (ind (pth 1 j i) 1 o), .ref aY, .int 0, .int 0, .int 0, .int 0])), (aS, .inl (cS, 901, .inl s0)), (aO, .inl (cO, 36, .inr (.inl fO2_9))), (aN, .inl (cN, 36, .inr (.inl fN2_10))), (aD, .inl (cD, 36, .inl fD2_4))] := hD
            refine lv_iinc (v := nI (i + 1)) (lv' := [(6, .int (nI (i + 1))), (5, .int (nI i)), (9, .int 1), (7, .long (ind (pth 1 j i) 1 o)), (0, .ref m0), (1, .int (nI j)), (2, .int (nI o)), (3, .int 1), (4, .int 8)]) hx hb dX12_bestRow_126 hl (k := 8) rfl (nI_add i 1) (by decide) rfl (fun ls hl => ?_)
            refine lv_goto (tgt := 35) hx hb dX12_bestRow_129 (by decide) ?_
            exact ih35 _ _ _ _ _ (by omega) (by omega) (GI_B2 (v := (fun q => ind (pth 1 j q) 1 o)) hg c_12 c_15) _ _ (hK.sub [1, 0, 2, 3, 4] rfl) (hP.sub [1, 2, 0, 3, 4, 5] rfl) (hD.sub [1, 2, 0, 3, 4, 5] (by decide) rfl) hS ls (lv_sub hl [4, 5, 6, 7, 8, 1, 0] rfl)
  exact L35 _ (0) _ _ _ _ (Nat.lt_succ_self _) (by omega) (GI_0) _ _ (hK.sub [2, 3, 0, 1, 4] rfl) (hP.sub [2, 3, 4, 0, 1, 5] rfl) (hD.sub [2, 3, 4, 0, 1, 5] (by decide) rfl) hS ls (lv_sub hl [3, 4, 5, 6, 2, 1, 0] rfl)

theorem kc_safeRow1_0 : ∀ w ∈ wsX120, w ∈ wsX12_bestRow := by decide +kernel
theorem kc_safeRow1_1 : (.fieldLink RX12 236 "MistHeapsModel" "bestOften" "J" : Cond) ∈ wsX12_bestRow := by decide +kernel
set_option maxHeartbeats 4000000 in
set_option maxRecDepth 100000 in
theorem c_safeRow1 (l : Launch) (dC : Nat → ClassId) (dI : Nat → Nat → Nat) (m0 aS aI aB aT aG aO aN aD aY : Nat) (bv : Int64) (cS cB cO cN cD : ClassId) (fB fD : Nat → Int32) (fO fN : Nat → Int64) (j : Nat) (sz : Nat) (zj : j < 36) : Met l yX12_bestRow wsX12_bestRow ({ frames := 5, cells := 0, slots := 0, locals := 113 } : Room) (va_Pc [.ref m0, .int (nI j), .int (-1), .int 1] (fun U => U.heap.size = sz ∧ va_P (dC, dI) vwCl [(m0, .inr (14, [.int 0, .ref aS, .ref aI, .int 0, .int 0, .int 0, .int 0, .int 0, .int 0, .ref aB, .ref aT, .int 0, .int 0, .ref aG, .ref aO, .ref aN, .ref aD, .long bv, .ref aY, .int 0, .int 0, .int 0, .int 0])), (aS, .inl (cS, 901, .inl s0)), (aB, .inl (cB, 6, .inl fB)), (aO, .inl (cO, 36, .inr (.inl fO))), (aN, .inl (cN, 36, .inr (.inl fN))), (aD, .inl (cD, 36, .inl fD))] U.heap ∧ va_K (dC, dI) vwCl [(cS, .int), (cB, .int), (cO, .long), (cN, .long), (cD, .int)] U ∧ va_D (fun _ => True) [(m0, .inr (14, [.int 0, .ref aS, .ref aI, .int 0, .int 0, .int 0, .int 0, .int 0, .int 0, .ref aB, .ref aT, .int 0, .int 0, .ref aG, .ref aO, .ref aN, .ref aD, .long bv, .ref aY, .int 0, .int 0, .int 0, .int 0])), (aS, .inl (cS, 901, .inl s0)), (aB, .inl (cB, 6, .inl fB)), (aO, .inl (cO, 36, .inr (.inl fO))), (aN, .inl (cN, 36, .inr (.inl fN))), (aD, .inl (cD, 36, .inl fD))])) (va_Qi (fun (r : Int32) (u : (Nat → Int32) × (Nat → Int64) × (Nat → Int64) × (Nat → Int32) × (Int64)) => match u with | (fB2, fO2, fN2, fD2, bv2) => r = nI (GG (fun _ : Nat => (0 : Int64)) 8).2 ∧ bv2 = (GG (fun _ : Nat => (0 : Int64)) 8).1) (fun (u : (Nat → Int32) × (Nat → Int64) × (Nat → Int64) × (Nat → Int32) × (Int64)) (t : State) => match u with | (fB2, fO2, fN2, fD2, bv2) => va_P (dC, dI) vwCl [(m0, .inr (14, [.int 0, .ref aS, .ref aI, .int 0, .int 0, .int 0, .int 0, .int 0, .int 0, .ref aB, .ref aT, .int 0, .int 0, .ref aG, .ref aO, .ref aN, .ref aD, .long bv2, .ref aY, .int 0, .int 0, .int 0, .int 0])), (aS, .inl (cS, 901, .inl s0)), (aB, .inl (cB, 6, .inl fB2)), (aO, .inl (cO, 36, .inr (.inl fO2))), (aN, .inl (cN, 36, .inr (.inl fN2))), (aD, .inl (cD, 36, .inl fD2))] t.heap ∧ va_K (dC, dI) vwCl [(cS, .int), (cB, .int), (cO, .long), (cN, .long), (cD, .int)] t ∧ va_D (va_A [(m0, .inr (14, [.int 0, .ref aS, .ref aI, .int 0, .int 0, .int 0, .int 0, .int 0, .int 0, .ref aB, .ref aT, .int 0, .int 0, .ref aG, .ref aO, .ref aN, .ref aD, .long bv, .ref aY, .int 0, .int 0, .int 0, .int 0])), (aS, .inl (cS, 901, .inl s0)), (aB, .inl (cB, 6, .inl fB)), (aO, .inl (cO, 36, .inr (.inl fO))), (aN, .inl (cN, 36, .inr (.inl fN))), (aD, .inl (cD, 36, .inl fD))] sz) [(m0, .inr (14, [.int 0, .ref aS, .ref aI, .int 0, .int 0, .int 0, .int 0, .int 0, .int 0, .ref aB, .ref aT, .int 0, .int 0, .ref aG, .ref aO, .ref aN, .ref aD, .long bv2, .ref aY, .int 0, .int 0, .int 0, .int 0])), (aS, .inl (cS, 901, .inl s0)), (aB, .inl (cB, 6, .inl fB2)), (aO, .inl (cO, 36, .inr (.inl fO2))), (aN, .inl (cN, 36, .inr (.inl fN2))), (aD, .inl (cD, 36, .inl fD2))]) (va_A [(m0, .inr (14, [.int 0, .ref aS, .ref aI, .int 0, .int 0, .int 0, .int 0, .int 0, .int 0, .ref aB, .ref aT, .int 0, .int 0, .ref aG, .ref aO, .ref aN, .ref aD, .long bv, .ref aY, .int 0, .int 0, .int 0, .int 0])), (aS, .inl (cS, 901, .inl s0)), (aB, .inl (cB, 6, .inl fB)), (aO, .inl (cO, 36, .inr (.inl fO))), (aN, .inl (cN, 36, .inr (.inl fN))), (aD, .inl (cD, 36, .inl fD))] sz)) 0 0 (va_A [(m0, .inr (14, [.int 0, .ref aS, .ref aI, .int 0, .int 0, .int 0, .int 0, .int 0, .int 0, .ref aB, .ref aT, .int 0, .int 0, .ref aG, .ref aO, .ref aN, .ref aD, .long bv, .ref aY, .int 0, .int 0, .int 0, .int 0])), (aS, .inl (cS, 901, .inl s0)), (aB, .inl (cB, 6, .inl fB)), (aO, .inl (cO, 36, .inr (.inl fO))), (aN, .inl (cN, 36, .inr (.inl fN))), (aD, .inl (cD, 36, .inl fD))] sz) := by
  refine met_ofQ (cc := cX12_bestRow) (maxL := 10) (ret := (some .int)) (by decide) rfl ?_
  intro p e s m args below meth c s₁ Q B hml hv hQ
  obtain ⟨rfl, hsz, hP, hK, hD0⟩ := hv
  have hx := B.exec
  have hb := B.bytes
  have hr := B.returns
  have hts := atoms_spec (ws := wsX12_bestRow) B.pre
  have hown : s.vm.findClass RX12 = some m.cls := findClass_of_methodNamed B.named
  have hlocks := B.notSynchronized
  subst hsz
  have hD := hD0.self (sz := s.heap.size)
  generalize hAe : va_A [(m0, .inr (14, [.int 0, .ref aS, .ref aI, .int 0, .int 0, .int 0, .int 0, .int 0, .int 0, .ref aB, .ref aT, .int 0, .int 0, .ref aG, .ref aO, .ref aN, .ref aD, .long bv, .ref aY, .int 0, .int 0, .int 0, .int 0])), (aS, .inl (cS, 901, .inl s0)), (aB, .inl (cB, 6, .inl fB)), (aO, .inl (cO, 36, .inr (.inl fO))), (aN, .inl (cN, 36, .inr (.inl fN))), (aD, .inl (cD, 36, .inl fD))] s.heap.size = A at hD hQ ⊢
  have hA : ∀ q : Nat, s.heap.size ≤ q → A q := fun q h => by rw [← hAe]; exact Or.inr h
  have hS : va_S A s.heap s.heap [] := va_S.rf
  have hl := lv_entry [.ref m0, .int (nI j), .int (-1), .int 1] (n := 10) (Nat.le_of_ble_eq_true rfl)
  rw [lg_entry_eq]
  generalize (lg_sl [.ref m0, .int (nI j), .int (-1), .int 1] ++ List.replicate (10 - (lg_sl [.ref m0, .int (nI j), .int (-1), .int 1]).length) Slot.unset).toArray = ls at hl ⊢
  generalize hag : ([.ref m0, .int (nI j), .int (-1), .int 1] : List Value).toArray = args at hts hQ ⊢
  have hl : lv_has ls 10 [(0, .ref m0), (1, .int (nI j)), (2, .int (-1)), (3, .int 1)] := hl
  obtain ⟨H, hH⟩ : ∃ H : Heap, H = s.heap := ⟨_, rfl⟩
  rw [← hH] at hP
  rw [← hH]
  have hS : va_S A s.heap H [] := by rw [hH]; exact hS
  obtain ⟨locs, hlo⟩ : ∃ L : List Loc, L = [] := ⟨_, rfl⟩
  rw [← hlo] at hS
  rw [← hlo]
  clear hH hlo
  refine lv_aload_n hx hb dX12_bestRow_0 rfl (lv_at hl 0 rfl) ?_
  have hPc := hP.sub (ws' := [(m0, .inr (14, [.int 0, .ref aS, .ref aI, .int 0, .int 0, .int 0, .int 0, .int 0, .int 0, .ref aB, .ref aT, .int 0, .int 0, .ref aG, .ref aO, .ref aN, .ref aD, .long bv, .ref aY, .int 0, .int 0, .int 0, .int 0])), (aS, .inl (cS, 901, .inl s0)), (aB, .inl (cB, 6, .inl fB)), (aD, .inl (cD, 36, .inl fD))]) [0, 1, 2, 5] rfl
  have hDc := hD.sub (ws' := [(m0, .inr (14, [.int 0, .ref aS, .ref aI, .int 0, .int 0, .int 0, .int 0, .int 0, .int 0, .ref aB, .ref aT, .int 0, .int 0, .ref aG, .ref aO, .ref aN, .ref aD, .long bv, .ref aY, .int 0, .int 0, .int 0, .int 0])), (aS, .inl (cS, 901, .inl s0)), (aB, .inl (cB, 6, .inl fB)), (aD, .inl (cD, 36, .inl fD))]) [0, 1, 2, 5] (by decide) rfl
  have hKc := hK.sub (tys' := [(cS, .int), (cB, .int), (cD, .int)]) [0, 1, 4] rfl
  have hFc := va_free (wc := [(m0, .inr (14, [.int 0, .ref aS, .ref aI, .int 0, .int 0, .int 0, .int 0, .int 0, .int 0, .ref aB, .ref aT, .int 0, .int 0, .ref aG, .ref aO, .ref aN, .ref aD, .long bv, .ref aY, .int 0, .int 0, .int 0, .int 0])), (aS, .inl (cS, 901, .inl s0)), (aB, .inl (cB, 6, .inl fB)), (aD, .inl (cD, 36, .inl fD))]) hD hS hA [0, 1, 2, 5] rfl
  refine va_callv (va_runV (As := []) (rest := []) ⟨hx, hb, hml, hown, hts⟩ (c_looksFor0 l dC dI m0 aS aI aB aT aG aO aN aD aY bv cS cB cD (fB) (fD) H.size) (cwV 0 hts gX12_bestRow_X12_looksForDrifts rfl rfl rfl (by decide +kernel) ⟨Nat.le_of_ble_eq_true rfl, Nat.le_of_ble_eq_true rfl⟩) ⟨fun a U g mk q => by obtain ⟨q0, q1, qP, qK, qD⟩ := q; exact ⟨q0, q1, qP, va_K.moved (u := U) (U := U.calling g mk a) (Vm.Alike.refl U.vm) qK, qD⟩, va_recv hK hP (ci := 14) (q0 := 0) rfl rfl, fun U hU hW => ⟨rfl, by rw [hU], by rw [hU]; exact hPc, va_K.moved hW.alike hKc, hDc.weaken (fun _ _ _ _ => trivial)⟩⟩ rfl rfl hl.1 rfl (lv_room (Nat.le_of_ble_eq_true rfl)) dX12_bestRow_1 ⟨Nat.le_of_ble_eq_true rfl, Nat.le_of_ble_eq_true rfl⟩) hS (fun q _ h => hFc q h) hFc (fun u tC H1 locs htC hvm hw_2 hB hz1 hk1 hS => ?_)
  obtain ⟨fB2_3, fD2_4⟩ := u
  try dsimp only at hw_2 hB
  obtain ⟨hP1, hK1, hD1⟩ := hB
  rw [htC] at hP1
  have hK1 := va_K.moved hvm.symm hK1
  obtain ⟨hP, hD⟩ := va_join (wr := [(aO, .inl (cO, 36, .inr (.inl fO))), (aN, .inl (cN, 36, .inr (.inl fN)))]) (w1 := [(m0, .inr (14, [.int 0, .ref aS, .ref aI, .int 0, .int 0, .int 0, .int 0, .int 0, .int 0, .ref aB, .ref aT, .int 0, .int 0, .ref aG, .ref aO, .ref aN, .ref aD, .long bv, .ref aY, .int 0, .int 0, .int 0, .int 0])), (aS, .inl (cS, 901, .inl s0)), (aB, .inl (cB, 6, .inl fB2_3)), (aD, .inl (cD, 36, .inl fD2_4))]) hP hD [0, 1, 2, 5] [3, 4] rfl rfl (by decide) (by decide) hk1 hFc hP1 hD1
  have hK := (hK.sub (tys' := [(cO, .long), (cN, .long)]) [2, 3] rfl).app hK1
  generalize H1 = H at hP hS ⊢
  have hP : va_P (dC, dI) vwCl [(aO, .inl (cO, 36, .inr (.inl fO))), (aN, .inl (cN, 36, .inr (.inl fN))), (m0, .inr (14, [.int 0, .ref aS, .ref aI, .int 0, .int 0, .int 0, .int 0, .int 0, .int 0, .ref aB, .ref aT, .int 0, .int 0, .ref aG, .ref aO, .ref aN, .ref aD, .long bv, .ref aY, .int 0, .int 0, .int 0, .int 0])), (aS, .inl (cS, 901, .inl s0)), (aB, .inl (cB, 6, .inl fB2_3)), (aD, .inl (cD, 36, .inl fD2_4))] H := hP
  have hD : va_D A [(aO, .inl (cO, 36, .inr (.inl fO))), (aN, .inl (cN, 36, .inr (.inl fN))), (m0, .inr (14, [.int 0, .ref aS, .ref aI, .int 0, .int 0, .int 0, .int 0, .int 0, .int 0, .ref aB, .ref aT, .int 0, .int 0, .ref aG, .ref aO, .ref aN, .ref aD, .long bv, .ref aY, .int 0, .int 0, .int 0, .int 0])), (aS, .inl (cS, 901, .inl s0)), (aB, .inl (cB, 6, .inl fB2_3)), (aD, .inl (cD, 36, .inl fD2_4))] := hD
  have hK : va_K (dC, dI) vwCl [(cO, .long), (cN, .long), (cS, .int), (cB, .int), (cD, .int)] s := hK
  refine lv_iload_n hx hb dX12_bestRow_4 rfl (lv_at hl 3 rfl) ?_
  refine lv_iconst (v := 1) hx hb dX12_bestRow_5 (by decide) ?_
  refine lv_icmp_ne (tgt := 14) hx hb dX12_bestRow_6 (by decide) (fun c_5 => absurd c_5 (by decide)) (fun _ => ?_)
  refine lv_bipush (v := 8) hx hb dX12_bestRow_9 (by decide) ?_
  refine lv_goto (tgt := 27) hx hb dX12_bestRow_11 (by decide) ?_
  refine lv_istore (lv' := [(4, .int 8), (0, .ref m0), (1, .int (nI j)), (2, .int (-1)), (3, .int 1)]) hx hb dX12_bestRow_27 hl (by decide) rfl (fun ls hl => ?_)
  refine lv_iconst (v := (-1)) hx hb dX12_bestRow_29 (by decide) ?_
  refine lv_istore (lv' := [(5, .int (-1)), (4, .int 8), (0, .ref m0), (1, .int (nI j)), (2, .int (-1)), (3, .int 1)]) hx hb dX12_bestRow_30 hl (by decide) rfl (fun ls hl => ?_)
  refine lv_iconst (v := 0) hx hb dX12_bestRow_32 (by decide) ?_
  refine lv_istore (lv' := [(6, .int 0), (5, .int (-1)), (4, .int 8), (0, .ref m0), (1, .int (nI j)), (2, .int (-1)), (3, .int 1)]) hx hb dX12_bestRow_33 hl (by decide) rfl (fun ls hl => ?_)
  have L35 : ∀ (nF : Nat) (i : Nat) (bs : Int32) (b : Int64) (f : Nat → Int64) (t : Nat → Int64), 8 - i < nF → (i ≤ 8) → (GI (fun _ : Nat => (0 : Int64)) i bs b) → ∀ (H : Heap) (locs : List Loc), va_K (dC, dI) vwCl [(cS, .int), (cB, .int), (cO, .long), (cN, .long), (cD, .int)] s → va_P (dC, dI) vwCl [(m0, .inr (14, [.int 0, .ref aS, .ref aI, .int 0, .int 0, .int 0, .int 0, .int 0, .int 0, .ref aB, .ref aT, .int 0, .int 0, .ref aG, .ref aO, .ref aN, .ref aD, .long b, .ref aY, .int 0, .int 0, .int 0, .int 0])), (aS, .inl (cS, 901, .inl s0)), (aB, .inl (cB, 6, .inl fB2_3)), (aO, .inl (cO, 36, .inr (.inl f))), (aN, .inl (cN, 36, .inr (.inl t))), (aD, .inl (cD, 36, .inl fD2_4))] H → va_D A [(m0, .inr (14, [.int 0, .ref aS, .ref aI, .int 0, .int 0, .int 0, .int 0, .int 0, .int 0, .ref aB, .ref aT, .int 0, .int 0, .ref aG, .ref aO, .ref aN, .ref aD, .long b, .ref aY, .int 0, .int 0, .int 0, .int 0])), (aS, .inl (cS, 901, .inl s0)), (aB, .inl (cB, 6, .inl fB2_3)), (aO, .inl (cO, 36, .inr (.inl f))), (aN, .inl (cN, 36, .inr (.inl t))), (aD, .inl (cD, 36, .inl fD2_4))] → va_S A s.heap H locs → ∀ (ls : Array Slot), lv_has ls 10 [(0, .ref m0), (1, .int (nI j)), (2, .int (-1)), (3, .int 1), (4, .int 8), (5, .int bs), (6, .int (nI i))] → W p l e ({ frames := 5, cells := 0, slots := 0, locals := 113 } : Room) s m args below meth c H locs 0 0 Q (F0 m 35 ls []) := by
    intro nF
    induction nF with
    | zero => intro i bs b f t hm; exact absurd hm (Nat.not_lt_zero _)
    | succ nF ih35 =>
      intro i bs b f t hm hi hg H locs hK hP hD hS ls hl
      refine lv_iload hx hb dX12_bestRow_35 (lv_at hl 6 rfl) ?_
      refine lv_iload hx hb dX12_bestRow_37 (lv_at hl 4 rfl) ?_
      refine lv_icmp_ge (tgt := 132) hx hb dX12_bestRow_39 (by decide) (fun c_6 => ?_) (fun c_6 => ?_)
      · skip
        have c_6 : 8 ≤ i := (nI_leI (a := 8) (b := i) (by omega) (by omega)).mp c_6
        refine lv_iload hx hb dX12_bestRow_132 (lv_at hl 5 rfl) ?_
        rw [hQ]
        have hP9 := hP.sub (ws' := [(m0, .inr (14, [.int 0, .ref aS, .ref aI, .int 0, .int 0, .int 0, .int 0, .int 0, .int 0, .ref aB, .ref aT, .int 0, .int 0, .ref aG, .ref aO, .ref aN, .ref aD, .long b, .ref aY, .int 0, .int 0, .int 0, .int 0])), (aS, .inl (cS, 901, .inl s0)), (aB, .inl (cB, 6, .inl fB2_3)), (aO, .inl (cO, 36, .inr (.inl f))), (aN, .inl (cN, 36, .inr (.inl t))), (aD, .inl (cD, 36, .inl fD2_4))]) [0, 1, 2, 3, 4, 5] rfl
        have hD9 := hD.sub (ws' := [(m0, .inr (14, [.int 0, .ref aS, .ref aI, .int 0, .int 0, .int 0, .int 0, .int 0, .int 0, .ref aB, .ref aT, .int 0, .int 0, .ref aG, .ref aO, .ref aN, .ref aD, .long b, .ref aY, .int 0, .int 0, .int 0, .int 0])), (aS, .inl (cS, 901, .inl s0)), (aB, .inl (cB, 6, .inl fB2_3)), (aO, .inl (cO, 36, .inr (.inl f))), (aN, .inl (cN, 36, .inr (.inl t))), (aD, .inl (cD, 36, .inl fD2_4))]) [0, 1, 2, 3, 4, 5] (by decide) rfl
        have hK9 := hK.sub (tys' := [(cS, .int), (cB, .int), (cO, .long), (cN, .long), (cD, .int)]) [0, 1, 2, 3, 4] rfl
        exact W.iret (v := bs) hx hb hr (fun tQ htQ hWQ => ⟨⟨bs, (fB2_3, f, t, fD2_4, b), rfl, (by have e : i = 8 := (by omega); rw [e] at hg; exact hg.2 (by omega)), by rw [htQ]; exact hP9, va_K.moved hWQ.alike hK9, hD9⟩, hS.F htQ⟩) hS.2.2 dX12_bestRow_134
      · skip
        have c_6 : ¬ 8 ≤ i := fun q => c_6 ((nI_leI (a := 8) (b := i) (by omega) (by omega)).mpr q)
        refine lv_aload_n hx hb dX12_bestRow_42 rfl (lv_at hl 0 rfl) ?_
        refine lv_iload_n hx hb dX12_bestRow_43 rfl (lv_at hl 1 rfl) ?_
        refine lv_iload hx hb dX12_bestRow_44 (lv_at hl 6 rfl) ?_
        refine lv_iload_n hx hb dX12_bestRow_46 rfl (lv_at hl 3 rfl) ?_
        have hPc := hP.sub (ws' := [(m0, .inr (14, [.int 0, .ref aS, .ref aI, .int 0, .int 0, .int 0, .int 0, .int 0, .int 0, .ref aB, .ref aT, .int 0, .int 0, .ref aG, .ref aO, .ref aN, .ref aD, .long b, .ref aY, .int 0, .int 0, .int 0, .int 0])), (aS, .inl (cS, 901, .inl s0)), (aO, .inl (cO, 36, .inr (.inl f))), (aN, .inl (cN, 36, .inr (.inl t))), (aD, .inl (cD, 36, .inl fD2_4))]) [0, 1, 3, 4, 5] rfl
        have hDc := hD.sub (ws' := [(m0, .inr (14, [.int 0, .ref aS, .ref aI, .int 0, .int 0, .int 0, .int 0, .int 0, .int 0, .ref aB, .ref aT, .int 0, .int 0, .ref aG, .ref aO, .ref aN, .ref aD, .long b, .ref aY, .int 0, .int 0, .int 0, .int 0])), (aS, .inl (cS, 901, .inl s0)), (aO, .inl (cO, 36, .inr (.inl f))), (aN, .inl (cN, 36, .inr (.inl t))), (aD, .inl (cD, 36, .inl fD2_4))]) [0, 1, 3, 4, 5] (by decide) rfl
        have hKc := hK.sub (tys' := [(cS, .int), (cO, .long), (cN, .long), (cD, .int)]) [0, 2, 3, 4] rfl
        have hFc := va_free (wc := [(m0, .inr (14, [.int 0, .ref aS, .ref aI, .int 0, .int 0, .int 0, .int 0, .int 0, .int 0, .ref aB, .ref aT, .int 0, .int 0, .ref aG, .ref aO, .ref aN, .ref aD, .long b, .ref aY, .int 0, .int 0, .int 0, .int 0])), (aS, .inl (cS, 901, .inl s0)), (aO, .inl (cO, 36, .inr (.inl f))), (aN, .inl (cN, 36, .inr (.inl t))), (aD, .inl (cD, 36, .inl fD2_4))]) hD hS hA [0, 1, 3, 4, 5] rfl
        refine va_callv (va_runV (As := [.int (nI j), .int (nI i), .int 1]) (rest := []) ⟨hx, hb, hml, hown, hts⟩ (c_goesBy1 l dC dI m0 aS aI aB aT aG aO aN aD aY b cS cO cN cD (f) (t) (fD2_4) j i H.size (by omega) (by omega) hw_2) (cwV 3 hts gX12_bestRow_X12_goesBy rfl rfl rfl (by decide +kernel) ⟨Nat.le_of_ble_eq_true rfl, Nat.le_of_ble_eq_true rfl⟩) ⟨fun a U g mk q => by obtain ⟨q0, q1, qP, qK, qD⟩ := q; exact ⟨q0, q1, qP, va_K.moved (u := U) (U := U.calling g mk a) (Vm.Alike.refl U.vm) qK, qD⟩, va_recv hK hP (ci := 14) (q0 := 0) rfl rfl, fun U hU hW => ⟨rfl, by rw [hU], by rw [hU]; exact hPc, va_K.moved hW.alike hKc, hDc.weaken (fun _ _ _ _ => trivial)⟩⟩ rfl rfl hl.1 rfl (lv_room (Nat.le_of_ble_eq_true rfl)) dX12_bestRow_47 ⟨Nat.le_of_ble_eq_true rfl, Nat.le_of_ble_eq_true rfl⟩) hS (fun q _ h => hFc q h) hFc (fun u tC H1 locs htC hvm hw_8 hB hz1 hk1 hS => ?_)
        obtain ⟨fO2_9, fN2_10⟩ := u
        try dsimp only at hw_8 hB
        obtain ⟨hP1, hK1, hD1⟩ := hB
        rw [htC] at hP1
        have hK1 := va_K.moved hvm.symm hK1
        obtain ⟨hP, hD⟩ := va_join (wr := [(aB, .inl (cB, 6, .inl fB2_3))]) (w1 := [(m0, .inr (14, [.int 0, .ref aS, .ref aI, .int 0, .int 0, .int 0, .int 0, .int 0, .int 0, .ref aB, .ref aT, .int 0, .int 0, .ref aG, .ref aO, .ref aN, .ref aD, .long b, .ref aY, .int 0, .int 0, .int 0, .int 0])), (aS, .inl (cS, 901, .inl s0)), (aO, .inl (cO, 36, .inr (.inl fO2_9))), (aN, .inl (cN, 36, .inr (.inl fN2_10))), (aD, .inl (cD, 36, .inl fD2_4))]) hP hD [0, 1, 3, 4, 5] [2] rfl rfl (by decide) (by decide) hk1 hFc hP1 hD1
        have hK := (hK.sub (tys' := [(cB, .int)]) [1] rfl).app hK1
        generalize H1 = H at hP hS ⊢
        have hP : va_P (dC, dI) vwCl [(aB, .inl (cB, 6, .inl fB2_3)), (m0, .inr (14, [.int 0, .ref aS, .ref aI, .int 0, .int 0, .int 0, .int 0, .int 0, .int 0, .ref aB, .ref aT, .int 0, .int 0, .ref aG, .ref aO, .ref aN, .ref aD, .long b, .ref aY, .int 0, .int 0, .int 0, .int 0])), (aS, .inl (cS, 901, .inl s0)), (aO, .inl (cO, 36, .inr (.inl fO2_9))), (aN, .inl (cN, 36, .inr (.inl fN2_10))), (aD, .inl (cD, 36, .inl fD2_4))] H := hP
        have hD : va_D A [(aB, .inl (cB, 6, .inl fB2_3)), (m0, .inr (14, [.int 0, .ref aS, .ref aI, .int 0, .int 0, .int 0, .int 0, .int 0, .int 0, .ref aB, .ref aT, .int 0, .int 0, .ref aG, .ref aO, .ref aN, .ref aD, .long b, .ref aY, .int 0, .int 0, .int 0, .int 0])), (aS, .inl (cS, 901, .inl s0)), (aO, .inl (cO, 36, .inr (.inl fO2_9))), (aN, .inl (cN, 36, .inr (.inl fN2_10))), (aD, .inl (cD, 36, .inl fD2_4))] := hD
        have hK : va_K (dC, dI) vwCl [(cB, .int), (cS, .int), (cO, .long), (cN, .long), (cD, .int)] s := hK
        refine lv_iload_n hx hb dX12_bestRow_50 rfl (lv_at hl 2 rfl) ?_
        refine lv_iconst (v := (-1)) hx hb dX12_bestRow_51 (by decide) ?_
        refine lv_icmp_ne (tgt := 63) hx hb dX12_bestRow_52 (by decide) (fun c_11 => absurd c_11 (by decide)) (fun _ => ?_)
        refine lv_aload_n hx hb dX12_bestRow_55 rfl (lv_at hl 0 rfl) ?_
        have hPc := hP.sub (ws' := [(m0, .inr (14, [.int 0, .ref aS, .ref aI, .int 0, .int 0, .int 0, .int 0, .int 0, .int 0, .ref aB, .ref aT, .int 0, .int 0, .ref aG, .ref aO, .ref aN, .ref aD, .long b, .ref aY, .int 0, .int 0, .int 0, .int 0])), (aS, .inl (cS, 901, .inl s0)), (aO, .inl (cO, 36, .inr (.inl fO2_9)))]) [1, 2, 3] rfl
        have hKc := hK.sub (tys' := [(cS, .int), (cO, .long)]) [1, 2] rfl
        refine vp_callSl (va_runV (As := []) (rest := []) ⟨hx, hb, hml, hown, hts⟩ (c_over0 l dC dI m0 aS aI aB aT aG aO aN aD aY b cS cO (fO2_9)) (cwV 0 hts gX12_bestRow_X12_over rfl rfl rfl (by decide +kernel) ⟨Nat.le_of_ble_eq_true rfl, Nat.le_of_ble_eq_true rfl⟩) ⟨fun a U g mk q => by obtain ⟨q0, qP, qK⟩ := q; exact ⟨q0, qP, va_K.moved (u := U) (U := U.calling g mk a) (Vm.Alike.refl U.vm) qK⟩, va_recv hK hP (ci := 14) (q0 := 1) rfl rfl, fun U hU hW => ⟨rfl, by rw [hU]; exact hPc, va_K.moved hW.alike hKc⟩⟩ rfl rfl hl.1 rfl (lv_room (Nat.le_of_ble_eq_true rfl)) dX12_bestRow_56 ⟨Nat.le_of_ble_eq_true rfl, Nat.le_of_ble_eq_true rfl⟩).run (fun r_12 hw_13 => ?_)
        refine ql_as (y := 0) (hw_13) ?_
        refine lv_lneg hx hb dX12_bestRow_59 ?_
        refine ql_as (y := 0) (by decide) ?_
        refine lv_goto (tgt := 69) hx hb dX12_bestRow_60 (by decide) ?_
        refine lv_lstore (lv' := [(7, .long 0), (0, .ref m0), (1, .int (nI j)), (2, .int (-1)), (3, .int 1), (4, .int 8), (5, .int bs), (6, .int (nI i))]) hx hb dX12_bestRow_69 hl (by decide) rfl (fun ls hl => ?_)
        refine lv_iload hx hb dX12_bestRow_71 (lv_at hl 6 rfl) ?_
        refine lv_iconst (v := (-1)) hx hb dX12_bestRow_73 (by decide) ?_
        refine lv_icmp_eq (tgt := 87) hx hb dX12_bestRow_74 (by decide) (fun c_14 => ?_) (fun c_14 => ?_)
        · skip
          refine lv_iconst (v := 1) hx hb dX12_bestRow_87 (by decide) ?_
          refine lv_goto (tgt := 92) hx hb dX12_bestRow_88 (by decide) ?_
          refine lv_istore (lv' := [(9, .int 1), (7, .long 0), (0, .ref m0), (1, .int (nI j)), (2, .int (-1)), (3, .int 1), (4, .int 8), (5, .int bs), (6, .int (nI i))]) hx hb dX12_bestRow_92 hl (by decide) rfl (fun ls hl => ?_)
          refine lv_iload hx hb dX12_bestRow_94 (lv_at hl 0 rfl) ?_
          refine lv_if_eq (tgt := 104) hx hb dX12_bestRow_96 (by decide) (fun c_15 => absurd c_15 (by decide)) (fun _ => ?_)
          refine lv_iload hx hb dX12_bestRow_99 (lv_at hl 8 rfl) ?_
          refine lv_goto (tgt := 106) hx hb dX12_bestRow_101 (by decide) ?_
          refine lv_istore (lv' := [(5, .int (nI i)), (9, .int 1), (7, .long 0), (0, .ref m0), (1, .int (nI j)), (2, .int (-1)), (3, .int 1), (4, .int 8), (6, .int (nI i))]) hx hb dX12_bestRow_106 hl (by decide) rfl (fun ls hl => ?_)
          refine lv_aload_n hx hb dX12_bestRow_108 rfl (lv_at hl 3 rfl) ?_
          refine lv_iload hx hb dX12_bestRow_109 (lv_at hl 1 rfl) ?_
          refine lv_if_eq (tgt := 119) hx hb dX12_bestRow_111 (by decide) (fun c_16 => absurd c_16 (by decide)) (fun _ => ?_)
          refine lv_lload hx hb dX12_bestRow_114 (lv_at hl 2 rfl) ?_
          refine lv_goto (tgt := 123) hx hb dX12_bestRow_116 (by decide) ?_
          refine va_put (D := (dC, dI)) (ci := 14) (v := .long 0) (ty := .long) (C := RX12) (T := TX12) (N := 23) hx hb hts kc_safeRow1_0 tyX12 tyX12_ok nmX12 hown hK hP hD hS 1 rfl rfl 17 (by decide) (hts (.fieldLink RX12 236 "MistHeapsModel" "bestOften" "J") kc_safeRow1_1) (fun _ h9 => h9) rfl (by decide +kernel) rfl rfl (Nat.le_of_ble_eq_true rfl) dX12_bestRow_123 (fun H locs hP hD hS => ?_)
          have hP : va_P (dC, dI) vwCl [(aB, .inl (cB, 6, .inl fB2_3)), (m0, .inr (14, [.int 0, .ref aS, .ref aI, .int 0, .int 0, .int 0, .int 0, .int 0, .int 0, .ref aB, .ref aT, .int 0, .int 0, .ref aG, .ref aO, .ref aN, .ref aD, .long 0, .ref aY, .int 0, .int 0, .int 0, .int 0])), (aS, .inl (cS, 901, .inl s0)), (aO, .inl (cO, 36, .inr (.inl fO2_9))), (aN, .inl (cN, 36, .inr (.inl fN2_10))), (aD, .inl (cD, 36, .inl fD2_4))] H := hP
          have hD : va_D A [(aB, .inl (cB, 6, .inl fB2_3)), (m0, .inr (14, [.int 0, .ref aS, .ref aI, .int 0, .int 0, .int 0, .int 0, .int 0, .int 0, .ref aB, .ref aT, .int 0, .int 0, .ref aG, .ref aO, .ref aN, .ref aD, .long 0, .ref aY, .int 0, .int 0, .int 0, .int 0])), (aS, .inl (cS, 901, .inl s0)), (aO, .inl (cO, 36, .inr (.inl fO2_9))), (aN, .inl (cN, 36, .inr (.inl fN2_10))), (aD, .inl (cD, 36, .inl fD2_4))] := hD
          refine lv_iinc (v := nI (i + 1)) (lv' := [(6, .int (nI (i + 1))), (5, .int (nI i)), (9, .int 1), (7, .long 0), (0, .ref m0), (1, .int (nI j)), (2, .int (-1)), (3, .int 1), (4, .int 8)]) hx hb dX12_bestRow_126 hl (k := 8) rfl (nI_add i 1) (by decide) rfl (fun ls hl => ?_)
          refine lv_goto (tgt := 35) hx hb dX12_bestRow_129 (by decide) ?_
          exact ih35 _ _ _ _ _ (by omega) (by omega) (GI_A (v := (fun _ : Nat => (0 : Int64))) (by omega) hg c_14 (by decide)) _ _ (hK.sub [1, 0, 2, 3, 4] rfl) (hP.sub [1, 2, 0, 3, 4, 5] rfl) (hD.sub [1, 2, 0, 3, 4, 5] (by decide) rfl) hS ls (lv_sub hl [4, 5, 6, 7, 8, 1, 0] rfl)
        · skip
          refine lv_lload hx hb dX12_bestRow_77 (lv_at hl 0 rfl) ?_
          refine lv_aload_n hx hb dX12_bestRow_79 rfl (lv_at hl 1 rfl) ?_
          refine va_get (D := (dC, dI)) (ci := 14) (v := .long b) (C := RX12) (T := TX12) (N := 23) hx hb hts kc_safeRow1_0 hown hK hP 1 rfl rfl 17 (by decide) (hts (.fieldLink RX12 236 "MistHeapsModel" "bestOften" "J") kc_safeRow1_1) (fun _ h9 => h9) rfl dX12_bestRow_80 ?_
          refine W.lcmp hx hb dX12_bestRow_83 ?_
          refine lv_if_le (tgt := 91) hx hb dX12_bestRow_84 (by decide) (fun c_17 => ?_) (fun c_17 => ?_)
          · skip
            rw [lg_cmp_le] at c_17
            refine lv_iconst (v := 0) hx hb dX12_bestRow_91 (by decide) ?_
            refine lv_istore (lv' := [(9, .int 0), (7, .long 0), (0, .ref m0), (1, .int (nI j)), (2, .int (-1)), (3, .int 1), (4, .int 8), (5, .int bs), (6, .int (nI i))]) hx hb dX12_bestRow_92 hl (by decide) rfl (fun ls hl => ?_)
            refine lv_iload hx hb dX12_bestRow_94 (lv_at hl 0 rfl) ?_
            refine lv_if_eq (tgt := 104) hx hb dX12_bestRow_96 (by decide) (fun _ => ?_) (fun c_18 => absurd c_18 (by decide))
            refine lv_iload hx hb dX12_bestRow_104 (lv_at hl 7 rfl) ?_
            refine lv_istore (lv' := [(5, .int bs), (9, .int 0), (7, .long 0), (0, .ref m0), (1, .int (nI j)), (2, .int (-1)), (3, .int 1), (4, .int 8), (6, .int (nI i))]) hx hb dX12_bestRow_106 hl (by decide) rfl (fun ls hl => ?_)
            refine lv_aload_n hx hb dX12_bestRow_108 rfl (lv_at hl 3 rfl) ?_
            refine lv_iload hx hb dX12_bestRow_109 (lv_at hl 1 rfl) ?_
            refine lv_if_eq (tgt := 119) hx hb dX12_bestRow_111 (by decide) (fun _ => ?_) (fun c_19 => absurd c_19 (by decide))
            refine lv_aload_n hx hb dX12_bestRow_119 rfl (lv_at hl 3 rfl) ?_
            refine va_get (D := (dC, dI)) (ci := 14) (v := .long b) (C := RX12) (T := TX12) (N := 23) hx hb hts kc_safeRow1_0 hown hK hP 1 rfl rfl 17 (by decide) (hts (.fieldLink RX12 236 "MistHeapsModel" "bestOften" "J") kc_safeRow1_1) (fun _ h9 => h9) rfl dX12_bestRow_120 ?_
            refine va_put (D := (dC, dI)) (ci := 14) (v := .long b) (ty := .long) (C := RX12) (T := TX12) (N := 23) hx hb hts kc_safeRow1_0 tyX12 tyX12_ok nmX12 hown hK hP hD hS 1 rfl rfl 17 (by decide) (hts (.fieldLink RX12 236 "MistHeapsModel" "bestOften" "J") kc_safeRow1_1) (fun _ h9 => h9) rfl (by decide +kernel) rfl rfl (Nat.le_of_ble_eq_true rfl) dX12_bestRow_123 (fun H locs hP hD hS => ?_)
            have hP : va_P (dC, dI) vwCl [(aB, .inl (cB, 6, .inl fB2_3)), (m0, .inr (14, [.int 0, .ref aS, .ref aI, .int 0, .int 0, .int 0, .int 0, .int 0, .int 0, .ref aB, .ref aT, .int 0, .int 0, .ref aG, .ref aO, .ref aN, .ref aD, .long b, .ref aY, .int 0, .int 0, .int 0, .int 0])), (aS, .inl (cS, 901, .inl s0)), (aO, .inl (cO, 36, .inr (.inl fO2_9))), (aN, .inl (cN, 36, .inr (.inl fN2_10))), (aD, .inl (cD, 36, .inl fD2_4))] H := hP
            have hD : va_D A [(aB, .inl (cB, 6, .inl fB2_3)), (m0, .inr (14, [.int 0, .ref aS, .ref aI, .int 0, .int 0, .int 0, .int 0, .int 0, .int 0, .ref aB, .ref aT, .int 0, .int 0, .ref aG, .ref aO, .ref aN, .ref aD, .long b, .ref aY, .int 0, .int 0, .int 0, .int 0])), (aS, .inl (cS, 901, .inl s0)), (aO, .inl (cO, 36, .inr (.inl fO2_9))), (aN, .inl (cN, 36, .inr (.inl fN2_10))), (aD, .inl (cD, 36, .inl fD2_4))] := hD
            refine lv_iinc (v := nI (i + 1)) (lv' := [(6, .int (nI (i + 1))), (5, .int bs), (9, .int 0), (7, .long 0), (0, .ref m0), (1, .int (nI j)), (2, .int (-1)), (3, .int 1), (4, .int 8)]) hx hb dX12_bestRow_126 hl (k := 8) rfl (nI_add i 1) (by decide) rfl (fun ls hl => ?_)
            refine lv_goto (tgt := 35) hx hb dX12_bestRow_129 (by decide) ?_
            exact ih35 _ _ _ _ _ (by omega) (by omega) (GI_B1 (v := (fun _ : Nat => (0 : Int64))) hg c_14 c_17) _ _ (hK.sub [1, 0, 2, 3, 4] rfl) (hP.sub [1, 2, 0, 3, 4, 5] rfl) (hD.sub [1, 2, 0, 3, 4, 5] (by decide) rfl) hS ls (lv_sub hl [4, 5, 6, 7, 8, 1, 0] rfl)
          · skip
            rw [lg_cmp_le] at c_17
            refine lv_iconst (v := 1) hx hb dX12_bestRow_87 (by decide) ?_
            refine lv_goto (tgt := 92) hx hb dX12_bestRow_88 (by decide) ?_
            refine lv_istore (lv' := [(9, .int 1), (7, .long 0), (0, .ref m0), (1, .int (nI j)), (2, .int (-1)), (3, .int 1), (4, .int 8), (5, .int bs), (6, .int (nI i))]) hx hb dX12_bestRow_92 hl (by decide) rfl (fun ls hl => ?_)
            refine lv_iload hx hb dX12_bestRow_94 (lv_at hl 0 rfl) ?_
            refine lv_if_eq (tgt := 104) hx hb dX12_bestRow_96 (by decide) (fun c_20 => absurd c_20 (by decide)) (fun _ => ?_)
            refine lv_iload hx hb dX12_bestRow_99 (lv_at hl 8 rfl) ?_
            refine lv_goto (tgt := 106) hx hb dX12_bestRow_101 (by decide) ?_
            refine lv_istore (lv' := [(5, .int (nI i)), (9, .int 1), (7, .long 0), (0, .ref m0), (1, .int (nI j)), (2, .int (-1)), (3, .int 1), (4, .int 8), (6, .int (nI i))]) hx hb dX12_bestRow_106 hl (by decide) rfl (fun ls hl => ?_)
            refine lv_aload_n hx hb dX12_bestRow_108 rfl (lv_at hl 3 rfl) ?_
            refine lv_iload hx hb dX12_bestRow_109 (lv_at hl 1 rfl) ?_
            refine lv_if_eq (tgt := 119) hx hb dX12_bestRow_111 (by decide) (fun c_21 => absurd c_21 (by decide)) (fun _ => ?_)
            refine lv_lload hx hb dX12_bestRow_114 (lv_at hl 2 rfl) ?_
            refine lv_goto (tgt := 123) hx hb dX12_bestRow_116 (by decide) ?_
            refine va_put (D := (dC, dI)) (ci := 14) (v := .long 0) (ty := .long) (C := RX12) (T := TX12) (N := 23) hx hb hts kc_safeRow1_0 tyX12 tyX12_ok nmX12 hown hK hP hD hS 1 rfl rfl 17 (by decide) (hts (.fieldLink RX12 236 "MistHeapsModel" "bestOften" "J") kc_safeRow1_1) (fun _ h9 => h9) rfl (by decide +kernel) rfl rfl (Nat.le_of_ble_eq_true rfl) dX12_bestRow_123 (fun H locs hP hD hS => ?_)
            have hP : va_P (dC, dI) vwCl [(aB, .inl (cB, 6, .inl fB2_3)), (m0, .inr (14, [.int 0, .ref aS, .ref aI, .int 0, .int 0, .int 0, .int 0, .int 0, .int 0, .ref aB, .ref aT, .int 0, .int 0, .ref aG, .ref aO, .ref aN, .ref aD, .long 0, .ref aY, .int 0, .int 0, .int 0, .int 0])), (aS, .inl (cS, 901, .inl s0)), (aO, .inl (cO, 36, .inr (.inl fO2_9))), (aN, .inl (cN, 36, .inr (.inl fN2_10))), (aD, .inl (cD, 36, .inl fD2_4))] H := hP
            have hD : va_D A [(aB, .inl (cB, 6, .inl fB2_3)), (m0, .inr (14, [.int 0, .ref aS, .ref aI, .int 0, .int 0, .int 0, .int 0, .int 0, .int 0, .ref aB, .ref aT, .int 0, .int 0, .ref aG, .ref aO, .ref aN, .ref aD, .long 0, .ref aY, .int 0, .int 0, .int 0, .int 0])), (aS, .inl (cS, 901, .inl s0)), (aO, .inl (cO, 36, .inr (.inl fO2_9))), (aN, .inl (cN, 36, .inr (.inl fN2_10))), (aD, .inl (cD, 36, .inl fD2_4))] := hD
            refine lv_iinc (v := nI (i + 1)) (lv' := [(6, .int (nI (i + 1))), (5, .int (nI i)), (9, .int 1), (7, .long 0), (0, .ref m0), (1, .int (nI j)), (2, .int (-1)), (3, .int 1), (4, .int 8)]) hx hb dX12_bestRow_126 hl (k := 8) rfl (nI_add i 1) (by decide) rfl (fun ls hl => ?_)
            refine lv_goto (tgt := 35) hx hb dX12_bestRow_129 (by decide) ?_
            exact ih35 _ _ _ _ _ (by omega) (by omega) (GI_B2 (v := (fun _ : Nat => (0 : Int64))) hg c_14 c_17) _ _ (hK.sub [1, 0, 2, 3, 4] rfl) (hP.sub [1, 2, 0, 3, 4, 5] rfl) (hD.sub [1, 2, 0, 3, 4, 5] (by decide) rfl) hS ls (lv_sub hl [4, 5, 6, 7, 8, 1, 0] rfl)
  exact L35 _ (0) _ _ _ _ (Nat.lt_succ_self _) (by omega) (GI_0) _ _ (hK.sub [2, 3, 0, 1, 4] rfl) (hP.sub [2, 3, 4, 0, 1, 5] rfl) (hD.sub [2, 3, 4, 0, 1, 5] (by decide) rfl) hS ls (lv_sub hl [3, 4, 5, 6, 2, 1, 0] rfl)

theorem kc_bestRow2_0 : ∀ w ∈ wsX120, w ∈ wsX12_bestRow := by decide +kernel
theorem kc_bestRow2_1 : (.fieldLink RX12 28 "MistHeapsModel" "often" "[J" : Cond) ∈ wsX12_bestRow := by decide +kernel
theorem kc_bestRow2_2 : (.fieldLink RX12 236 "MistHeapsModel" "bestOften" "J" : Cond) ∈ wsX12_bestRow := by decide +kernel
set_option maxHeartbeats 4000000 in
set_option maxRecDepth 100000 in
theorem c_bestRow2 (l : Launch) (dC : Nat → ClassId) (dI : Nat → Nat → Nat) (m0 aS aI aB aT aG aO aN aD aY : Nat) (bv : Int64) (cS cB cO cN cD : ClassId) (fB fD : Nat → Int32) (fO fN : Nat → Int64) (j o : Nat) (sz : Nat) (zj : j < 36) (zo : o < 36) : Met l yX12_bestRow wsX12_bestRow ({ frames := 5, cells := 0, slots := 0, locals := 113 } : Room) (va_Pc [.ref m0, .int (nI j), .int (nI o), .int 2] (fun U => U.heap.size = sz ∧ va_P (dC, dI) vwCl [(m0, .inr (14, [.int 0, .ref aS, .ref aI, .int 0, .int 0, .int 0, .int 0, .int 0, .int 0, .ref aB, .ref aT, .int 0, .int 0, .ref aG, .ref aO, .ref aN, .ref aD, .long bv, .ref aY, .int 0, .int 0, .int 0, .int 0])), (aS, .inl (cS, 901, .inl s0)), (aB, .inl (cB, 6, .inl fB)), (aO, .inl (cO, 36, .inr (.inl fO))), (aN, .inl (cN, 36, .inr (.inl fN))), (aD, .inl (cD, 36, .inl fD))] U.heap ∧ va_K (dC, dI) vwCl [(cS, .int), (cB, .int), (cO, .long), (cN, .long), (cD, .int)] U ∧ va_D (fun _ => True) [(m0, .inr (14, [.int 0, .ref aS, .ref aI, .int 0, .int 0, .int 0, .int 0, .int 0, .int 0, .ref aB, .ref aT, .int 0, .int 0, .ref aG, .ref aO, .ref aN, .ref aD, .long bv, .ref aY, .int 0, .int 0, .int 0, .int 0])), (aS, .inl (cS, 901, .inl s0)), (aB, .inl (cB, 6, .inl fB)), (aO, .inl (cO, 36, .inr (.inl fO))), (aN, .inl (cN, 36, .inr (.inl fN))), (aD, .inl (cD, 36, .inl fD))])) (va_Qi (fun (r : Int32) (u : (Nat → Int32) × (Nat → Int64) × (Nat → Int64) × (Nat → Int32) × (Int64)) => match u with | (fB2, fO2, fN2, fD2, bv2) => r = nI (GG (fun q => ind (pth 2 j q) 2 o) 64).2 ∧ bv2 = (GG (fun q => ind (pth 2 j q) 2 o) 64).1) (fun (u : (Nat → Int32) × (Nat → Int64) × (Nat → Int64) × (Nat → Int32) × (Int64)) (t : State) => match u with | (fB2, fO2, fN2, fD2, bv2) => va_P (dC, dI) vwCl [(m0, .inr (14, [.int 0, .ref aS, .ref aI, .int 0, .int 0, .int 0, .int 0, .int 0, .int 0, .ref aB, .ref aT, .int 0, .int 0, .ref aG, .ref aO, .ref aN, .ref aD, .long bv2, .ref aY, .int 0, .int 0, .int 0, .int 0])), (aS, .inl (cS, 901, .inl s0)), (aB, .inl (cB, 6, .inl fB2)), (aO, .inl (cO, 36, .inr (.inl fO2))), (aN, .inl (cN, 36, .inr (.inl fN2))), (aD, .inl (cD, 36, .inl fD2))] t.heap ∧ va_K (dC, dI) vwCl [(cS, .int), (cB, .int), (cO, .long), (cN, .long), (cD, .int)] t ∧ va_D (va_A [(m0, .inr (14, [.int 0, .ref aS, .ref aI, .int 0, .int 0, .int 0, .int 0, .int 0, .int 0, .ref aB, .ref aT, .int 0, .int 0, .ref aG, .ref aO, .ref aN, .ref aD, .long bv, .ref aY, .int 0, .int 0, .int 0, .int 0])), (aS, .inl (cS, 901, .inl s0)), (aB, .inl (cB, 6, .inl fB)), (aO, .inl (cO, 36, .inr (.inl fO))), (aN, .inl (cN, 36, .inr (.inl fN))), (aD, .inl (cD, 36, .inl fD))] sz) [(m0, .inr (14, [.int 0, .ref aS, .ref aI, .int 0, .int 0, .int 0, .int 0, .int 0, .int 0, .ref aB, .ref aT, .int 0, .int 0, .ref aG, .ref aO, .ref aN, .ref aD, .long bv2, .ref aY, .int 0, .int 0, .int 0, .int 0])), (aS, .inl (cS, 901, .inl s0)), (aB, .inl (cB, 6, .inl fB2)), (aO, .inl (cO, 36, .inr (.inl fO2))), (aN, .inl (cN, 36, .inr (.inl fN2))), (aD, .inl (cD, 36, .inl fD2))]) (va_A [(m0, .inr (14, [.int 0, .ref aS, .ref aI, .int 0, .int 0, .int 0, .int 0, .int 0, .int 0, .ref aB, .ref aT, .int 0, .int 0, .ref aG, .ref aO, .ref aN, .ref aD, .long bv, .ref aY, .int 0, .int 0, .int 0, .int 0])), (aS, .inl (cS, 901, .inl s0)), (aB, .inl (cB, 6, .inl fB)), (aO, .inl (cO, 36, .inr (.inl fO))), (aN, .inl (cN, 36, .inr (.inl fN))), (aD, .inl (cD, 36, .inl fD))] sz)) 0 0 (va_A [(m0, .inr (14, [.int 0, .ref aS, .ref aI, .int 0, .int 0, .int 0, .int 0, .int 0, .int 0, .ref aB, .ref aT, .int 0, .int 0, .ref aG, .ref aO, .ref aN, .ref aD, .long bv, .ref aY, .int 0, .int 0, .int 0, .int 0])), (aS, .inl (cS, 901, .inl s0)), (aB, .inl (cB, 6, .inl fB)), (aO, .inl (cO, 36, .inr (.inl fO))), (aN, .inl (cN, 36, .inr (.inl fN))), (aD, .inl (cD, 36, .inl fD))] sz) := by
  refine met_ofQ (cc := cX12_bestRow) (maxL := 10) (ret := (some .int)) (by decide) rfl ?_
  intro p e s m args below meth c s₁ Q B hml hv hQ
  obtain ⟨rfl, hsz, hP, hK, hD0⟩ := hv
  have hx := B.exec
  have hb := B.bytes
  have hr := B.returns
  have hts := atoms_spec (ws := wsX12_bestRow) B.pre
  have hown : s.vm.findClass RX12 = some m.cls := findClass_of_methodNamed B.named
  have hlocks := B.notSynchronized
  subst hsz
  have hD := hD0.self (sz := s.heap.size)
  generalize hAe : va_A [(m0, .inr (14, [.int 0, .ref aS, .ref aI, .int 0, .int 0, .int 0, .int 0, .int 0, .int 0, .ref aB, .ref aT, .int 0, .int 0, .ref aG, .ref aO, .ref aN, .ref aD, .long bv, .ref aY, .int 0, .int 0, .int 0, .int 0])), (aS, .inl (cS, 901, .inl s0)), (aB, .inl (cB, 6, .inl fB)), (aO, .inl (cO, 36, .inr (.inl fO))), (aN, .inl (cN, 36, .inr (.inl fN))), (aD, .inl (cD, 36, .inl fD))] s.heap.size = A at hD hQ ⊢
  have hA : ∀ q : Nat, s.heap.size ≤ q → A q := fun q h => by rw [← hAe]; exact Or.inr h
  have hS : va_S A s.heap s.heap [] := va_S.rf
  have hl := lv_entry [.ref m0, .int (nI j), .int (nI o), .int 2] (n := 10) (Nat.le_of_ble_eq_true rfl)
  rw [lg_entry_eq]
  generalize (lg_sl [.ref m0, .int (nI j), .int (nI o), .int 2] ++ List.replicate (10 - (lg_sl [.ref m0, .int (nI j), .int (nI o), .int 2]).length) Slot.unset).toArray = ls at hl ⊢
  generalize hag : ([.ref m0, .int (nI j), .int (nI o), .int 2] : List Value).toArray = args at hts hQ ⊢
  have hl : lv_has ls 10 [(0, .ref m0), (1, .int (nI j)), (2, .int (nI o)), (3, .int 2)] := hl
  obtain ⟨H, hH⟩ : ∃ H : Heap, H = s.heap := ⟨_, rfl⟩
  rw [← hH] at hP
  rw [← hH]
  have hS : va_S A s.heap H [] := by rw [hH]; exact hS
  obtain ⟨locs, hlo⟩ : ∃ L : List Loc, L = [] := ⟨_, rfl⟩
  rw [← hlo] at hS
  rw [← hlo]
  clear hH hlo
  refine lv_aload_n hx hb dX12_bestRow_0 rfl (lv_at hl 0 rfl) ?_
  have hPc := hP.sub (ws' := [(m0, .inr (14, [.int 0, .ref aS, .ref aI, .int 0, .int 0, .int 0, .int 0, .int 0, .int 0, .ref aB, .ref aT, .int 0, .int 0, .ref aG, .ref aO, .ref aN, .ref aD, .long bv, .ref aY, .int 0, .int 0, .int 0, .int 0])), (aS, .inl (cS, 901, .inl s0)), (aB, .inl (cB, 6, .inl fB)), (aD, .inl (cD, 36, .inl fD))]) [0, 1, 2, 5] rfl
  have hDc := hD.sub (ws' := [(m0, .inr (14, [.int 0, .ref aS, .ref aI, .int 0, .int 0, .int 0, .int 0, .int 0, .int 0, .ref aB, .ref aT, .int 0, .int 0, .ref aG, .ref aO, .ref aN, .ref aD, .long bv, .ref aY, .int 0, .int 0, .int 0, .int 0])), (aS, .inl (cS, 901, .inl s0)), (aB, .inl (cB, 6, .inl fB)), (aD, .inl (cD, 36, .inl fD))]) [0, 1, 2, 5] (by decide) rfl
  have hKc := hK.sub (tys' := [(cS, .int), (cB, .int), (cD, .int)]) [0, 1, 4] rfl
  have hFc := va_free (wc := [(m0, .inr (14, [.int 0, .ref aS, .ref aI, .int 0, .int 0, .int 0, .int 0, .int 0, .int 0, .ref aB, .ref aT, .int 0, .int 0, .ref aG, .ref aO, .ref aN, .ref aD, .long bv, .ref aY, .int 0, .int 0, .int 0, .int 0])), (aS, .inl (cS, 901, .inl s0)), (aB, .inl (cB, 6, .inl fB)), (aD, .inl (cD, 36, .inl fD))]) hD hS hA [0, 1, 2, 5] rfl
  refine va_callv (va_runV (As := []) (rest := []) ⟨hx, hb, hml, hown, hts⟩ (c_looksFor0 l dC dI m0 aS aI aB aT aG aO aN aD aY bv cS cB cD (fB) (fD) H.size) (cwV 0 hts gX12_bestRow_X12_looksForDrifts rfl rfl rfl (by decide +kernel) ⟨Nat.le_of_ble_eq_true rfl, Nat.le_of_ble_eq_true rfl⟩) ⟨fun a U g mk q => by obtain ⟨q0, q1, qP, qK, qD⟩ := q; exact ⟨q0, q1, qP, va_K.moved (u := U) (U := U.calling g mk a) (Vm.Alike.refl U.vm) qK, qD⟩, va_recv hK hP (ci := 14) (q0 := 0) rfl rfl, fun U hU hW => ⟨rfl, by rw [hU], by rw [hU]; exact hPc, va_K.moved hW.alike hKc, hDc.weaken (fun _ _ _ _ => trivial)⟩⟩ rfl rfl hl.1 rfl (lv_room (Nat.le_of_ble_eq_true rfl)) dX12_bestRow_1 ⟨Nat.le_of_ble_eq_true rfl, Nat.le_of_ble_eq_true rfl⟩) hS (fun q _ h => hFc q h) hFc (fun u tC H1 locs htC hvm hw_2 hB hz1 hk1 hS => ?_)
  obtain ⟨fB2_3, fD2_4⟩ := u
  try dsimp only at hw_2 hB
  obtain ⟨hP1, hK1, hD1⟩ := hB
  rw [htC] at hP1
  have hK1 := va_K.moved hvm.symm hK1
  obtain ⟨hP, hD⟩ := va_join (wr := [(aO, .inl (cO, 36, .inr (.inl fO))), (aN, .inl (cN, 36, .inr (.inl fN)))]) (w1 := [(m0, .inr (14, [.int 0, .ref aS, .ref aI, .int 0, .int 0, .int 0, .int 0, .int 0, .int 0, .ref aB, .ref aT, .int 0, .int 0, .ref aG, .ref aO, .ref aN, .ref aD, .long bv, .ref aY, .int 0, .int 0, .int 0, .int 0])), (aS, .inl (cS, 901, .inl s0)), (aB, .inl (cB, 6, .inl fB2_3)), (aD, .inl (cD, 36, .inl fD2_4))]) hP hD [0, 1, 2, 5] [3, 4] rfl rfl (by decide) (by decide) hk1 hFc hP1 hD1
  have hK := (hK.sub (tys' := [(cO, .long), (cN, .long)]) [2, 3] rfl).app hK1
  generalize H1 = H at hP hS ⊢
  have hP : va_P (dC, dI) vwCl [(aO, .inl (cO, 36, .inr (.inl fO))), (aN, .inl (cN, 36, .inr (.inl fN))), (m0, .inr (14, [.int 0, .ref aS, .ref aI, .int 0, .int 0, .int 0, .int 0, .int 0, .int 0, .ref aB, .ref aT, .int 0, .int 0, .ref aG, .ref aO, .ref aN, .ref aD, .long bv, .ref aY, .int 0, .int 0, .int 0, .int 0])), (aS, .inl (cS, 901, .inl s0)), (aB, .inl (cB, 6, .inl fB2_3)), (aD, .inl (cD, 36, .inl fD2_4))] H := hP
  have hD : va_D A [(aO, .inl (cO, 36, .inr (.inl fO))), (aN, .inl (cN, 36, .inr (.inl fN))), (m0, .inr (14, [.int 0, .ref aS, .ref aI, .int 0, .int 0, .int 0, .int 0, .int 0, .int 0, .ref aB, .ref aT, .int 0, .int 0, .ref aG, .ref aO, .ref aN, .ref aD, .long bv, .ref aY, .int 0, .int 0, .int 0, .int 0])), (aS, .inl (cS, 901, .inl s0)), (aB, .inl (cB, 6, .inl fB2_3)), (aD, .inl (cD, 36, .inl fD2_4))] := hD
  have hK : va_K (dC, dI) vwCl [(cO, .long), (cN, .long), (cS, .int), (cB, .int), (cD, .int)] s := hK
  refine lv_iload_n hx hb dX12_bestRow_4 rfl (lv_at hl 3 rfl) ?_
  refine lv_iconst (v := 1) hx hb dX12_bestRow_5 (by decide) ?_
  refine lv_icmp_ne (tgt := 14) hx hb dX12_bestRow_6 (by decide) (fun _ => ?_) (fun c_5 => absurd c_5 (by decide))
  refine lv_iload_n hx hb dX12_bestRow_14 rfl (lv_at hl 3 rfl) ?_
  refine lv_iconst (v := 2) hx hb dX12_bestRow_15 (by decide) ?_
  refine lv_icmp_ne (tgt := 24) hx hb dX12_bestRow_16 (by decide) (fun c_6 => absurd c_6 (by decide)) (fun _ => ?_)
  refine lv_bipush (v := 64) hx hb dX12_bestRow_19 (by decide) ?_
  refine lv_goto (tgt := 27) hx hb dX12_bestRow_21 (by decide) ?_
  refine lv_istore (lv' := [(4, .int 64), (0, .ref m0), (1, .int (nI j)), (2, .int (nI o)), (3, .int 2)]) hx hb dX12_bestRow_27 hl (by decide) rfl (fun ls hl => ?_)
  refine lv_iconst (v := (-1)) hx hb dX12_bestRow_29 (by decide) ?_
  refine lv_istore (lv' := [(5, .int (-1)), (4, .int 64), (0, .ref m0), (1, .int (nI j)), (2, .int (nI o)), (3, .int 2)]) hx hb dX12_bestRow_30 hl (by decide) rfl (fun ls hl => ?_)
  refine lv_iconst (v := 0) hx hb dX12_bestRow_32 (by decide) ?_
  refine lv_istore (lv' := [(6, .int 0), (5, .int (-1)), (4, .int 64), (0, .ref m0), (1, .int (nI j)), (2, .int (nI o)), (3, .int 2)]) hx hb dX12_bestRow_33 hl (by decide) rfl (fun ls hl => ?_)
  have L35 : ∀ (nF : Nat) (i : Nat) (bs : Int32) (b : Int64) (f : Nat → Int64) (t : Nat → Int64), 64 - i < nF → (i ≤ 64) → (GI (fun q => ind (pth 2 j q) 2 o) i bs b) → ∀ (H : Heap) (locs : List Loc), va_K (dC, dI) vwCl [(cS, .int), (cB, .int), (cO, .long), (cN, .long), (cD, .int)] s → va_P (dC, dI) vwCl [(m0, .inr (14, [.int 0, .ref aS, .ref aI, .int 0, .int 0, .int 0, .int 0, .int 0, .int 0, .ref aB, .ref aT, .int 0, .int 0, .ref aG, .ref aO, .ref aN, .ref aD, .long b, .ref aY, .int 0, .int 0, .int 0, .int 0])), (aS, .inl (cS, 901, .inl s0)), (aB, .inl (cB, 6, .inl fB2_3)), (aO, .inl (cO, 36, .inr (.inl f))), (aN, .inl (cN, 36, .inr (.inl t))), (aD, .inl (cD, 36, .inl fD2_4))] H → va_D A [(m0, .inr (14, [.int 0, .ref aS, .ref aI, .int 0, .int 0, .int 0, .int 0, .int 0, .int 0, .ref aB, .ref aT, .int 0, .int 0, .ref aG, .ref aO, .ref aN, .ref aD, .long b, .ref aY, .int 0, .int 0, .int 0, .int 0])), (aS, .inl (cS, 901, .inl s0)), (aB, .inl (cB, 6, .inl fB2_3)), (aO, .inl (cO, 36, .inr (.inl f))), (aN, .inl (cN, 36, .inr (.inl t))), (aD, .inl (cD, 36, .inl fD2_4))] → va_S A s.heap H locs → ∀ (ls : Array Slot), lv_has ls 10 [(0, .ref m0), (1, .int (nI j)), (2, .int (nI o)), (3, .int 2), (4, .int 64), (5, .int bs), (6, .int (nI i))] → W p l e ({ frames := 5, cells := 0, slots := 0, locals := 113 } : Room) s m args below meth c H locs 0 0 Q (F0 m 35 ls []) := by
    intro nF
    induction nF with
    | zero => intro i bs b f t hm; exact absurd hm (Nat.not_lt_zero _)
    | succ nF ih35 =>
      intro i bs b f t hm hi hg H locs hK hP hD hS ls hl
      refine lv_iload hx hb dX12_bestRow_35 (lv_at hl 6 rfl) ?_
      refine lv_iload hx hb dX12_bestRow_37 (lv_at hl 4 rfl) ?_
      refine lv_icmp_ge (tgt := 132) hx hb dX12_bestRow_39 (by decide) (fun c_7 => ?_) (fun c_7 => ?_)
      · skip
        have c_7 : 64 ≤ i := (nI_leI (a := 64) (b := i) (by omega) (by omega)).mp c_7
        refine lv_iload hx hb dX12_bestRow_132 (lv_at hl 5 rfl) ?_
        rw [hQ]
        have hP9 := hP.sub (ws' := [(m0, .inr (14, [.int 0, .ref aS, .ref aI, .int 0, .int 0, .int 0, .int 0, .int 0, .int 0, .ref aB, .ref aT, .int 0, .int 0, .ref aG, .ref aO, .ref aN, .ref aD, .long b, .ref aY, .int 0, .int 0, .int 0, .int 0])), (aS, .inl (cS, 901, .inl s0)), (aB, .inl (cB, 6, .inl fB2_3)), (aO, .inl (cO, 36, .inr (.inl f))), (aN, .inl (cN, 36, .inr (.inl t))), (aD, .inl (cD, 36, .inl fD2_4))]) [0, 1, 2, 3, 4, 5] rfl
        have hD9 := hD.sub (ws' := [(m0, .inr (14, [.int 0, .ref aS, .ref aI, .int 0, .int 0, .int 0, .int 0, .int 0, .int 0, .ref aB, .ref aT, .int 0, .int 0, .ref aG, .ref aO, .ref aN, .ref aD, .long b, .ref aY, .int 0, .int 0, .int 0, .int 0])), (aS, .inl (cS, 901, .inl s0)), (aB, .inl (cB, 6, .inl fB2_3)), (aO, .inl (cO, 36, .inr (.inl f))), (aN, .inl (cN, 36, .inr (.inl t))), (aD, .inl (cD, 36, .inl fD2_4))]) [0, 1, 2, 3, 4, 5] (by decide) rfl
        have hK9 := hK.sub (tys' := [(cS, .int), (cB, .int), (cO, .long), (cN, .long), (cD, .int)]) [0, 1, 2, 3, 4] rfl
        exact W.iret (v := bs) hx hb hr (fun tQ htQ hWQ => ⟨⟨bs, (fB2_3, f, t, fD2_4, b), rfl, (by have e : i = 64 := (by omega); rw [e] at hg; exact hg.2 (by omega)), by rw [htQ]; exact hP9, va_K.moved hWQ.alike hK9, hD9⟩, hS.F htQ⟩) hS.2.2 dX12_bestRow_134
      · skip
        have c_7 : ¬ 64 ≤ i := fun q => c_7 ((nI_leI (a := 64) (b := i) (by omega) (by omega)).mpr q)
        refine lv_aload_n hx hb dX12_bestRow_42 rfl (lv_at hl 0 rfl) ?_
        refine lv_iload_n hx hb dX12_bestRow_43 rfl (lv_at hl 1 rfl) ?_
        refine lv_iload hx hb dX12_bestRow_44 (lv_at hl 6 rfl) ?_
        refine lv_iload_n hx hb dX12_bestRow_46 rfl (lv_at hl 3 rfl) ?_
        have hPc := hP.sub (ws' := [(m0, .inr (14, [.int 0, .ref aS, .ref aI, .int 0, .int 0, .int 0, .int 0, .int 0, .int 0, .ref aB, .ref aT, .int 0, .int 0, .ref aG, .ref aO, .ref aN, .ref aD, .long b, .ref aY, .int 0, .int 0, .int 0, .int 0])), (aS, .inl (cS, 901, .inl s0)), (aO, .inl (cO, 36, .inr (.inl f))), (aN, .inl (cN, 36, .inr (.inl t))), (aD, .inl (cD, 36, .inl fD2_4))]) [0, 1, 3, 4, 5] rfl
        have hDc := hD.sub (ws' := [(m0, .inr (14, [.int 0, .ref aS, .ref aI, .int 0, .int 0, .int 0, .int 0, .int 0, .int 0, .ref aB, .ref aT, .int 0, .int 0, .ref aG, .ref aO, .ref aN, .ref aD, .long b, .ref aY, .int 0, .int 0, .int 0, .int 0])), (aS, .inl (cS, 901, .inl s0)), (aO, .inl (cO, 36, .inr (.inl f))), (aN, .inl (cN, 36, .inr (.inl t))), (aD, .inl (cD, 36, .inl fD2_4))]) [0, 1, 3, 4, 5] (by decide) rfl
        have hKc := hK.sub (tys' := [(cS, .int), (cO, .long), (cN, .long), (cD, .int)]) [0, 2, 3, 4] rfl
        have hFc := va_free (wc := [(m0, .inr (14, [.int 0, .ref aS, .ref aI, .int 0, .int 0, .int 0, .int 0, .int 0, .int 0, .ref aB, .ref aT, .int 0, .int 0, .ref aG, .ref aO, .ref aN, .ref aD, .long b, .ref aY, .int 0, .int 0, .int 0, .int 0])), (aS, .inl (cS, 901, .inl s0)), (aO, .inl (cO, 36, .inr (.inl f))), (aN, .inl (cN, 36, .inr (.inl t))), (aD, .inl (cD, 36, .inl fD2_4))]) hD hS hA [0, 1, 3, 4, 5] rfl
        refine va_callv (va_runV (As := [.int (nI j), .int (nI i), .int 2]) (rest := []) ⟨hx, hb, hml, hown, hts⟩ (c_goesBy2 l dC dI m0 aS aI aB aT aG aO aN aD aY b cS cO cN cD (f) (t) (fD2_4) j i H.size (by omega) (by omega) hw_2) (cwV 3 hts gX12_bestRow_X12_goesBy rfl rfl rfl (by decide +kernel) ⟨Nat.le_of_ble_eq_true rfl, Nat.le_of_ble_eq_true rfl⟩) ⟨fun a U g mk q => by obtain ⟨q0, q1, qP, qK, qD⟩ := q; exact ⟨q0, q1, qP, va_K.moved (u := U) (U := U.calling g mk a) (Vm.Alike.refl U.vm) qK, qD⟩, va_recv hK hP (ci := 14) (q0 := 0) rfl rfl, fun U hU hW => ⟨rfl, by rw [hU], by rw [hU]; exact hPc, va_K.moved hW.alike hKc, hDc.weaken (fun _ _ _ _ => trivial)⟩⟩ rfl rfl hl.1 rfl (lv_room (Nat.le_of_ble_eq_true rfl)) dX12_bestRow_47 ⟨Nat.le_of_ble_eq_true rfl, Nat.le_of_ble_eq_true rfl⟩) hS (fun q _ h => hFc q h) hFc (fun u tC H1 locs htC hvm hw_9 hB hz1 hk1 hS => ?_)
        obtain ⟨fO2_10, fN2_11⟩ := u
        try dsimp only at hw_9 hB
        obtain ⟨hP1, hK1, hD1⟩ := hB
        rw [htC] at hP1
        have hK1 := va_K.moved hvm.symm hK1
        obtain ⟨hP, hD⟩ := va_join (wr := [(aB, .inl (cB, 6, .inl fB2_3))]) (w1 := [(m0, .inr (14, [.int 0, .ref aS, .ref aI, .int 0, .int 0, .int 0, .int 0, .int 0, .int 0, .ref aB, .ref aT, .int 0, .int 0, .ref aG, .ref aO, .ref aN, .ref aD, .long b, .ref aY, .int 0, .int 0, .int 0, .int 0])), (aS, .inl (cS, 901, .inl s0)), (aO, .inl (cO, 36, .inr (.inl fO2_10))), (aN, .inl (cN, 36, .inr (.inl fN2_11))), (aD, .inl (cD, 36, .inl fD2_4))]) hP hD [0, 1, 3, 4, 5] [2] rfl rfl (by decide) (by decide) hk1 hFc hP1 hD1
        have hK := (hK.sub (tys' := [(cB, .int)]) [1] rfl).app hK1
        generalize H1 = H at hP hS ⊢
        have hP : va_P (dC, dI) vwCl [(aB, .inl (cB, 6, .inl fB2_3)), (m0, .inr (14, [.int 0, .ref aS, .ref aI, .int 0, .int 0, .int 0, .int 0, .int 0, .int 0, .ref aB, .ref aT, .int 0, .int 0, .ref aG, .ref aO, .ref aN, .ref aD, .long b, .ref aY, .int 0, .int 0, .int 0, .int 0])), (aS, .inl (cS, 901, .inl s0)), (aO, .inl (cO, 36, .inr (.inl fO2_10))), (aN, .inl (cN, 36, .inr (.inl fN2_11))), (aD, .inl (cD, 36, .inl fD2_4))] H := hP
        have hD : va_D A [(aB, .inl (cB, 6, .inl fB2_3)), (m0, .inr (14, [.int 0, .ref aS, .ref aI, .int 0, .int 0, .int 0, .int 0, .int 0, .int 0, .ref aB, .ref aT, .int 0, .int 0, .ref aG, .ref aO, .ref aN, .ref aD, .long b, .ref aY, .int 0, .int 0, .int 0, .int 0])), (aS, .inl (cS, 901, .inl s0)), (aO, .inl (cO, 36, .inr (.inl fO2_10))), (aN, .inl (cN, 36, .inr (.inl fN2_11))), (aD, .inl (cD, 36, .inl fD2_4))] := hD
        have hK : va_K (dC, dI) vwCl [(cB, .int), (cS, .int), (cO, .long), (cN, .long), (cD, .int)] s := hK
        refine lv_iload_n hx hb dX12_bestRow_50 rfl (lv_at hl 2 rfl) ?_
        refine lv_iconst (v := (-1)) hx hb dX12_bestRow_51 (by decide) ?_
        refine lv_icmp_ne (tgt := 63) hx hb dX12_bestRow_52 (by decide) (fun c_12 => ?_) (fun c_12 => absurd c_12 (g_ne (by omega)))
        refine lv_aload_n hx hb dX12_bestRow_63 rfl (lv_at hl 0 rfl) ?_
        refine va_get (D := (dC, dI)) (ci := 14) (v := .ref aO) (C := RX12) (T := TX12) (N := 23) hx hb hts kc_bestRow2_0 hown hK hP 1 rfl rfl 14 (by decide) (hts (.fieldLink RX12 28 "MistHeapsModel" "often" "[J") kc_bestRow2_1) (fun _ h9 => h9) rfl dX12_bestRow_64 ?_
        refine lv_iload_n hx hb dX12_bestRow_67 rfl (lv_at hl 2 rfl) ?_
        refine va_lald hx hb hK hP 3 2 rfl rfl (vp_in_nI (n := o) (N := 36) (by omega) (by omega)) dX12_bestRow_68 ?_
        refine ql_as (y := ind (pth 2 j i) 2 o) ((show fO2_10 (nI o).toNatClampNeg = fO2_10 o from by rw [nI_clamp (by omega)]).trans (hw_9 o (by omega))) ?_
        refine lv_lstore (lv' := [(7, .long (ind (pth 2 j i) 2 o)), (0, .ref m0), (1, .int (nI j)), (2, .int (nI o)), (3, .int 2), (4, .int 64), (5, .int bs), (6, .int (nI i))]) hx hb dX12_bestRow_69 hl (by decide) rfl (fun ls hl => ?_)
        refine lv_iload hx hb dX12_bestRow_71 (lv_at hl 6 rfl) ?_
        refine lv_iconst (v := (-1)) hx hb dX12_bestRow_73 (by decide) ?_
        refine lv_icmp_eq (tgt := 87) hx hb dX12_bestRow_74 (by decide) (fun c_13 => ?_) (fun c_13 => ?_)
        · skip
          refine lv_iconst (v := 1) hx hb dX12_bestRow_87 (by decide) ?_
          refine lv_goto (tgt := 92) hx hb dX12_bestRow_88 (by decide) ?_
          refine lv_istore (lv' := [(9, .int 1), (7, .long (ind (pth 2 j i) 2 o)), (0, .ref m0), (1, .int (nI j)), (2, .int (nI o)), (3, .int 2), (4, .int 64), (5, .int bs), (6, .int (nI i))]) hx hb dX12_bestRow_92 hl (by decide) rfl (fun ls hl => ?_)
          refine lv_iload hx hb dX12_bestRow_94 (lv_at hl 0 rfl) ?_
          refine lv_if_eq (tgt := 104) hx hb dX12_bestRow_96 (by decide) (fun c_14 => absurd c_14 (by decide)) (fun _ => ?_)
          refine lv_iload hx hb dX12_bestRow_99 (lv_at hl 8 rfl) ?_
          refine lv_goto (tgt := 106) hx hb dX12_bestRow_101 (by decide) ?_
          refine lv_istore (lv' := [(5, .int (nI i)), (9, .int 1), (7, .long (ind (pth 2 j i) 2 o)), (0, .ref m0), (1, .int (nI j)), (2, .int (nI o)), (3, .int 2), (4, .int 64), (6, .int (nI i))]) hx hb dX12_bestRow_106 hl (by decide) rfl (fun ls hl => ?_)
          refine lv_aload_n hx hb dX12_bestRow_108 rfl (lv_at hl 3 rfl) ?_
          refine lv_iload hx hb dX12_bestRow_109 (lv_at hl 1 rfl) ?_
          refine lv_if_eq (tgt := 119) hx hb dX12_bestRow_111 (by decide) (fun c_15 => absurd c_15 (by decide)) (fun _ => ?_)
          refine lv_lload hx hb dX12_bestRow_114 (lv_at hl 2 rfl) ?_
          refine lv_goto (tgt := 123) hx hb dX12_bestRow_116 (by decide) ?_
          refine va_put (D := (dC, dI)) (ci := 14) (v := .long (ind (pth 2 j i) 2 o)) (ty := .long) (C := RX12) (T := TX12) (N := 23) hx hb hts kc_bestRow2_0 tyX12 tyX12_ok nmX12 hown hK hP hD hS 1 rfl rfl 17 (by decide) (hts (.fieldLink RX12 236 "MistHeapsModel" "bestOften" "J") kc_bestRow2_2) (fun _ h9 => h9) rfl (by decide +kernel) rfl rfl (Nat.le_of_ble_eq_true rfl) dX12_bestRow_123 (fun H locs hP hD hS => ?_)
          have hP : va_P (dC, dI) vwCl [(aB, .inl (cB, 6, .inl fB2_3)), (m0, .inr (14, [.int 0, .ref aS, .ref aI, .int 0, .int 0, .int 0, .int 0, .int 0, .int 0, .ref aB, .ref aT, .int 0, .int 0, .ref aG, .ref aO, .ref aN, .ref aD, .long (ind (pth 2 j i) 2 o), .ref aY, .int 0, .int 0, .int 0, .int 0])), (aS, .inl (cS, 901, .inl s0)), (aO, .inl (cO, 36, .inr (.inl fO2_10))), (aN, .inl (cN, 36, .inr (.inl fN2_11))), (aD, .inl (cD, 36, .inl fD2_4))] H := hP
          have hD : va_D A [(aB, .inl (cB, 6, .inl fB2_3)), (m0, .inr (14, [.int 0, .ref aS, .ref aI, .int 0, .int 0, .int 0, .int 0, .int 0, .int 0, .ref aB, .ref aT, .int 0, .int 0, .ref aG, .ref aO, .ref aN, .ref aD, .long (ind (pth 2 j i) 2 o), .ref aY, .int 0, .int 0, .int 0, .int 0])), (aS, .inl (cS, 901, .inl s0)), (aO, .inl (cO, 36, .inr (.inl fO2_10))), (aN, .inl (cN, 36, .inr (.inl fN2_11))), (aD, .inl (cD, 36, .inl fD2_4))] := hD
          refine lv_iinc (v := nI (i + 1)) (lv' := [(6, .int (nI (i + 1))), (5, .int (nI i)), (9, .int 1), (7, .long (ind (pth 2 j i) 2 o)), (0, .ref m0), (1, .int (nI j)), (2, .int (nI o)), (3, .int 2), (4, .int 64)]) hx hb dX12_bestRow_126 hl (k := 8) rfl (nI_add i 1) (by decide) rfl (fun ls hl => ?_)
          refine lv_goto (tgt := 35) hx hb dX12_bestRow_129 (by decide) ?_
          exact ih35 _ _ _ _ _ (by omega) (by omega) (GI_A (v := (fun q => ind (pth 2 j q) 2 o)) (by omega) hg c_13 (ind_ge _ _ _ (by omega))) _ _ (hK.sub [1, 0, 2, 3, 4] rfl) (hP.sub [1, 2, 0, 3, 4, 5] rfl) (hD.sub [1, 2, 0, 3, 4, 5] (by decide) rfl) hS ls (lv_sub hl [4, 5, 6, 7, 8, 1, 0] rfl)
        · skip
          refine lv_lload hx hb dX12_bestRow_77 (lv_at hl 0 rfl) ?_
          refine lv_aload_n hx hb dX12_bestRow_79 rfl (lv_at hl 1 rfl) ?_
          refine va_get (D := (dC, dI)) (ci := 14) (v := .long b) (C := RX12) (T := TX12) (N := 23) hx hb hts kc_bestRow2_0 hown hK hP 1 rfl rfl 17 (by decide) (hts (.fieldLink RX12 236 "MistHeapsModel" "bestOften" "J") kc_bestRow2_2) (fun _ h9 => h9) rfl dX12_bestRow_80 ?_
          refine W.lcmp hx hb dX12_bestRow_83 ?_
          refine lv_if_le (tgt := 91) hx hb dX12_bestRow_84 (by decide) (fun c_16 => ?_) (fun c_16 => ?_)
          · skip
            rw [lg_cmp_le] at c_16
            refine lv_iconst (v := 0) hx hb dX12_bestRow_91 (by decide) ?_
            refine lv_istore (lv' := [(9, .int 0), (7, .long (ind (pth 2 j i) 2 o)), (0, .ref m0), (1, .int (nI j)), (2, .int (nI o)), (3, .int 2), (4, .int 64), (5, .int bs), (6, .int (nI i))]) hx hb dX12_bestRow_92 hl (by decide) rfl (fun ls hl => ?_)
            refine lv_iload hx hb dX12_bestRow_94 (lv_at hl 0 rfl) ?_
            refine lv_if_eq (tgt := 104) hx hb dX12_bestRow_96 (by decide) (fun _ => ?_) (fun c_17 => absurd c_17 (by decide))
            refine lv_iload hx hb dX12_bestRow_104 (lv_at hl 7 rfl) ?_
            refine lv_istore (lv' := [(5, .int bs), (9, .int 0), (7, .long (ind (pth 2 j i) 2 o)), (0, .ref m0), (1, .int (nI j)), (2, .int (nI o)), (3, .int 2), (4, .int 64), (6, .int (nI i))]) hx hb dX12_bestRow_106 hl (by decide) rfl (fun ls hl => ?_)
            refine lv_aload_n hx hb dX12_bestRow_108 rfl (lv_at hl 3 rfl) ?_
            refine lv_iload hx hb dX12_bestRow_109 (lv_at hl 1 rfl) ?_
            refine lv_if_eq (tgt := 119) hx hb dX12_bestRow_111 (by decide) (fun _ => ?_) (fun c_18 => absurd c_18 (by decide))
            refine lv_aload_n hx hb dX12_bestRow_119 rfl (lv_at hl 3 rfl) ?_
            refine va_get (D := (dC, dI)) (ci := 14) (v := .long b) (C := RX12) (T := TX12) (N := 23) hx hb hts kc_bestRow2_0 hown hK hP 1 rfl rfl 17 (by decide) (hts (.fieldLink RX12 236 "MistHeapsModel" "bestOften" "J") kc_bestRow2_2) (fun _ h9 => h9) rfl dX12_bestRow_120 ?_
            refine va_put (D := (dC, dI)) (ci := 14) (v := .long b) (ty := .long) (C := RX12) (T := TX12) (N := 23) hx hb hts kc_bestRow2_0 tyX12 tyX12_ok nmX12 hown hK hP hD hS 1 rfl rfl 17 (by decide) (hts (.fieldLink RX12 236 "MistHeapsModel" "bestOften" "J") kc_bestRow2_2) (fun _ h9 => h9) rfl (by decide +kernel) rfl rfl (Nat.le_of_ble_eq_true rfl) dX12_bestRow_123 (fun H locs hP hD hS => ?_)
            have hP : va_P (dC, dI) vwCl [(aB, .inl (cB, 6, .inl fB2_3)), (m0, .inr (14, [.int 0, .ref aS, .ref aI, .int 0, .int 0, .int 0, .int 0, .int 0, .int 0, .ref aB, .ref aT, .int 0, .int 0, .ref aG, .ref aO, .ref aN, .ref aD, .long b, .ref aY, .int 0, .int 0, .int 0, .int 0])), (aS, .inl (cS, 901, .inl s0)), (aO, .inl (cO, 36, .inr (.inl fO2_10))), (aN, .inl (cN, 36, .inr (.inl fN2_11))), (aD, .inl (cD, 36, .inl fD2_4))] H := hP
            have hD : va_D A [(aB, .inl (cB, 6, .inl fB2_3)), (m0, .inr (14, [.int 0, .ref aS, .ref aI, .int 0, .int 0, .int 0, .int 0, .int 0, .int 0, .ref aB, .ref aT, .int 0, .int 0, .ref aG, .ref aO, .ref aN, .ref aD, .long b, .ref aY, .int 0, .int 0, .int 0, .int 0])), (aS, .inl (cS, 901, .inl s0)), (aO, .inl (cO, 36, .inr (.inl fO2_10))), (aN, .inl (cN, 36, .inr (.inl fN2_11))), (aD, .inl (cD, 36, .inl fD2_4))] := hD
            refine lv_iinc (v := nI (i + 1)) (lv' := [(6, .int (nI (i + 1))), (5, .int bs), (9, .int 0), (7, .long (ind (pth 2 j i) 2 o)), (0, .ref m0), (1, .int (nI j)), (2, .int (nI o)), (3, .int 2), (4, .int 64)]) hx hb dX12_bestRow_126 hl (k := 8) rfl (nI_add i 1) (by decide) rfl (fun ls hl => ?_)
            refine lv_goto (tgt := 35) hx hb dX12_bestRow_129 (by decide) ?_
            exact ih35 _ _ _ _ _ (by omega) (by omega) (GI_B1 (v := (fun q => ind (pth 2 j q) 2 o)) hg c_13 c_16) _ _ (hK.sub [1, 0, 2, 3, 4] rfl) (hP.sub [1, 2, 0, 3, 4, 5] rfl) (hD.sub [1, 2, 0, 3, 4, 5] (by decide) rfl) hS ls (lv_sub hl [4, 5, 6, 7, 8, 1, 0] rfl)
          · skip
            rw [lg_cmp_le] at c_16
            refine lv_iconst (v := 1) hx hb dX12_bestRow_87 (by decide) ?_
            refine lv_goto (tgt := 92) hx hb dX12_bestRow_88 (by decide) ?_
            refine lv_istore (lv' := [(9, .int 1), (7, .long (ind (pth 2 j i) 2 o)), (0, .ref m0), (1, .int (nI j)), (2, .int (nI o)), (3, .int 2), (4, .int 64), (5, .int bs), (6, .int (nI i))]) hx hb dX12_bestRow_92 hl (by decide) rfl (fun ls hl => ?_)
            refine lv_iload hx hb dX12_bestRow_94 (lv_at hl 0 rfl) ?_
            refine lv_if_eq (tgt := 104) hx hb dX12_bestRow_96 (by decide) (fun c_19 => absurd c_19 (by decide)) (fun _ => ?_)
            refine lv_iload hx hb dX12_bestRow_99 (lv_at hl 8 rfl) ?_
            refine lv_goto (tgt := 106) hx hb dX12_bestRow_101 (by decide) ?_
            refine lv_istore (lv' := [(5, .int (nI i)), (9, .int 1), (7, .long (ind (pth 2 j i) 2 o)), (0, .ref m0), (1, .int (nI j)), (2, .int (nI o)), (3, .int 2), (4, .int 64), (6, .int (nI i))]) hx hb dX12_bestRow_106 hl (by decide) rfl (fun ls hl => ?_)
            refine lv_aload_n hx hb dX12_bestRow_108 rfl (lv_at hl 3 rfl) ?_
            refine lv_iload hx hb dX12_bestRow_109 (lv_at hl 1 rfl) ?_
            refine lv_if_eq (tgt := 119) hx hb dX12_bestRow_111 (by decide) (fun c_20 => absurd c_20 (by decide)) (fun _ => ?_)
            refine lv_lload hx hb dX12_bestRow_114 (lv_at hl 2 rfl) ?_
            refine lv_goto (tgt := 123) hx hb dX12_bestRow_116 (by decide) ?_
            refine va_put (D := (dC, dI)) (ci := 14) (v := .long (ind (pth 2 j i) 2 o)) (ty := .long) (C := RX12) (T := TX12) (N := 23) hx hb hts kc_bestRow2_0 tyX12 tyX12_ok nmX12 hown hK hP hD hS 1 rfl rfl 17 (by decide) (hts (.fieldLink RX12 236 "MistHeapsModel" "bestOften" "J") kc_bestRow2_2) (fun _ h9 => h9) rfl (by decide +kernel) rfl rfl (Nat.le_of_ble_eq_true rfl) dX12_bestRow_123 (fun H locs hP hD hS => ?_)
            have hP : va_P (dC, dI) vwCl [(aB, .inl (cB, 6, .inl fB2_3)), (m0, .inr (14, [.int 0, .ref aS, .ref aI, .int 0, .int 0, .int 0, .int 0, .int 0, .int 0, .ref aB, .ref aT, .int 0, .int 0, .ref aG, .ref aO, .ref aN, .ref aD, .long (ind (pth 2 j i) 2 o), .ref aY, .int 0, .int 0, .int 0, .int 0])), (aS, .inl (cS, 901, .inl s0)), (aO, .inl (cO, 36, .inr (.inl fO2_10))), (aN, .inl (cN, 36, .inr (.inl fN2_11))), (aD, .inl (cD, 36, .inl fD2_4))] H := hP
            have hD : va_D A [(aB, .inl (cB, 6, .inl fB2_3)), (m0, .inr (14, [.int 0, .ref aS, .ref aI, .int 0, .int 0, .int 0, .int 0, .int 0, .int 0, .ref aB, .ref aT, .int 0, .int 0, .ref aG, .ref aO, .ref aN, .ref aD, .long (ind (pth 2 j i) 2 o), .ref aY, .int 0, .int 0, .int 0, .int 0])), (aS, .inl (cS, 901, .inl s0)), (aO, .inl (cO, 36, .inr (.inl fO2_10))), (aN, .inl (cN, 36, .inr (.inl fN2_11))), (aD, .inl (cD, 36, .inl fD2_4))] := hD
            refine lv_iinc (v := nI (i + 1)) (lv' := [(6, .int (nI (i + 1))), (5, .int (nI i)), (9, .int 1), (7, .long (ind (pth 2 j i) 2 o)), (0, .ref m0), (1, .int (nI j)), (2, .int (nI o)), (3, .int 2), (4, .int 64)]) hx hb dX12_bestRow_126 hl (k := 8) rfl (nI_add i 1) (by decide) rfl (fun ls hl => ?_)
            refine lv_goto (tgt := 35) hx hb dX12_bestRow_129 (by decide) ?_
            exact ih35 _ _ _ _ _ (by omega) (by omega) (GI_B2 (v := (fun q => ind (pth 2 j q) 2 o)) hg c_13 c_16) _ _ (hK.sub [1, 0, 2, 3, 4] rfl) (hP.sub [1, 2, 0, 3, 4, 5] rfl) (hD.sub [1, 2, 0, 3, 4, 5] (by decide) rfl) hS ls (lv_sub hl [4, 5, 6, 7, 8, 1, 0] rfl)
  exact L35 _ (0) _ _ _ _ (Nat.lt_succ_self _) (by omega) (GI_0) _ _ (hK.sub [2, 3, 0, 1, 4] rfl) (hP.sub [2, 3, 4, 0, 1, 5] rfl) (hD.sub [2, 3, 4, 0, 1, 5] (by decide) rfl) hS ls (lv_sub hl [3, 4, 5, 6, 2, 1, 0] rfl)

theorem kc_safeRow2_0 : ∀ w ∈ wsX120, w ∈ wsX12_bestRow := by decide +kernel
theorem kc_safeRow2_1 : (.fieldLink RX12 236 "MistHeapsModel" "bestOften" "J" : Cond) ∈ wsX12_bestRow := by decide +kernel
set_option maxHeartbeats 4000000 in
set_option maxRecDepth 100000 in
theorem c_safeRow2 (l : Launch) (dC : Nat → ClassId) (dI : Nat → Nat → Nat) (m0 aS aI aB aT aG aO aN aD aY : Nat) (bv : Int64) (cS cB cO cN cD : ClassId) (fB fD : Nat → Int32) (fO fN : Nat → Int64) (j : Nat) (sz : Nat) (zj : j < 36) : Met l yX12_bestRow wsX12_bestRow ({ frames := 5, cells := 0, slots := 0, locals := 113 } : Room) (va_Pc [.ref m0, .int (nI j), .int (-1), .int 2] (fun U => U.heap.size = sz ∧ va_P (dC, dI) vwCl [(m0, .inr (14, [.int 0, .ref aS, .ref aI, .int 0, .int 0, .int 0, .int 0, .int 0, .int 0, .ref aB, .ref aT, .int 0, .int 0, .ref aG, .ref aO, .ref aN, .ref aD, .long bv, .ref aY, .int 0, .int 0, .int 0, .int 0])), (aS, .inl (cS, 901, .inl s0)), (aB, .inl (cB, 6, .inl fB)), (aO, .inl (cO, 36, .inr (.inl fO))), (aN, .inl (cN, 36, .inr (.inl fN))), (aD, .inl (cD, 36, .inl fD))] U.heap ∧ va_K (dC, dI) vwCl [(cS, .int), (cB, .int), (cO, .long), (cN, .long), (cD, .int)] U ∧ va_D (fun _ => True) [(m0, .inr (14, [.int 0, .ref aS, .ref aI, .int 0, .int 0, .int 0, .int 0, .int 0, .int 0, .ref aB, .ref aT, .int 0, .int 0, .ref aG, .ref aO, .ref aN, .ref aD, .long bv, .ref aY, .int 0, .int 0, .int 0, .int 0])), (aS, .inl (cS, 901, .inl s0)), (aB, .inl (cB, 6, .inl fB)), (aO, .inl (cO, 36, .inr (.inl fO))), (aN, .inl (cN, 36, .inr (.inl fN))), (aD, .inl (cD, 36, .inl fD))])) (va_Qi (fun (r : Int32) (u : (Nat → Int32) × (Nat → Int64) × (Nat → Int64) × (Nat → Int32) × (Int64)) => match u with | (fB2, fO2, fN2, fD2, bv2) => r = nI (GG (fun _ : Nat => (0 : Int64)) 64).2 ∧ bv2 = (GG (fun _ : Nat => (0 : Int64)) 64).1) (fun (u : (Nat → Int32) × (Nat → Int64) × (Nat → Int64) × (Nat → Int32) × (Int64)) (t : State) => match u with | (fB2, fO2, fN2, fD2, bv2) => va_P (dC, dI) vwCl [(m0, .inr (14, [.int 0, .ref aS, .ref aI, .int 0, .int 0, .int 0, .int 0, .int 0, .int 0, .ref aB, .ref aT, .int 0, .int 0, .ref aG, .ref aO, .ref aN, .ref aD, .long bv2, .ref aY, .int 0, .int 0, .int 0, .int 0])), (aS, .inl (cS, 901, .inl s0)), (aB, .inl (cB, 6, .inl fB2)), (aO, .inl (cO, 36, .inr (.inl fO2))), (aN, .inl (cN, 36, .inr (.inl fN2))), (aD, .inl (cD, 36, .inl fD2))] t.heap ∧ va_K (dC, dI) vwCl [(cS, .int), (cB, .int), (cO, .long), (cN, .long), (cD, .int)] t ∧ va_D (va_A [(m0, .inr (14, [.int 0, .ref aS, .ref aI, .int 0, .int 0, .int 0, .int 0, .int 0, .int 0, .ref aB, .ref aT, .int 0, .int 0, .ref aG, .ref aO, .ref aN, .ref aD, .long bv, .ref aY, .int 0, .int 0, .int 0, .int 0])), (aS, .inl (cS, 901, .inl s0)), (aB, .inl (cB, 6, .inl fB)), (aO, .inl (cO, 36, .inr (.inl fO))), (aN, .inl (cN, 36, .inr (.inl fN))), (aD, .inl (cD, 36, .inl fD))] sz) [(m0, .inr (14, [.int 0, .ref aS, .ref aI, .int 0, .int 0, .int 0, .int 0, .int 0, .int 0, .ref aB, .ref aT, .int 0, .int 0, .ref aG, .ref aO, .ref aN, .ref aD, .long bv2, .ref aY, .int 0, .int 0, .int 0, .int 0])), (aS, .inl (cS, 901, .inl s0)), (aB, .inl (cB, 6, .inl fB2)), (aO, .inl (cO, 36, .inr (.inl fO2))), (aN, .inl (cN, 36, .inr (.inl fN2))), (aD, .inl (cD, 36, .inl fD2))]) (va_A [(m0, .inr (14, [.int 0, .ref aS, .ref aI, .int 0, .int 0, .int 0, .int 0, .int 0, .int 0, .ref aB, .ref aT, .int 0, .int 0, .ref aG, .ref aO, .ref aN, .ref aD, .long bv, .ref aY, .int 0, .int 0, .int 0, .int 0])), (aS, .inl (cS, 901, .inl s0)), (aB, .inl (cB, 6, .inl fB)), (aO, .inl (cO, 36, .inr (.inl fO))), (aN, .inl (cN, 36, .inr (.inl fN))), (aD, .inl (cD, 36, .inl fD))] sz)) 0 0 (va_A [(m0, .inr (14, [.int 0, .ref aS, .ref aI, .int 0, .int 0, .int 0, .int 0, .int 0, .int 0, .ref aB, .ref aT, .int 0, .int 0, .ref aG, .ref aO, .ref aN, .ref aD, .long bv, .ref aY, .int 0, .int 0, .int 0, .int 0])), (aS, .inl (cS, 901, .inl s0)), (aB, .inl (cB, 6, .inl fB)), (aO, .inl (cO, 36, .inr (.inl fO))), (aN, .inl (cN, 36, .inr (.inl fN))), (aD, .inl (cD, 36, .inl fD))] sz) := by
  refine met_ofQ (cc := cX12_bestRow) (maxL := 10) (ret := (some .int)) (by decide) rfl ?_
  intro p e s m args below meth c s₁ Q B hml hv hQ
  obtain ⟨rfl, hsz, hP, hK, hD0⟩ := hv
  have hx := B.exec
  have hb := B.bytes
  have hr := B.returns
  have hts := atoms_spec (ws := wsX12_bestRow) B.pre
  have hown : s.vm.findClass RX12 = some m.cls := findClass_of_methodNamed B.named
  have hlocks := B.notSynchronized
  subst hsz
  have hD := hD0.self (sz := s.heap.size)
  generalize hAe : va_A [(m0, .inr (14, [.int 0, .ref aS, .ref aI, .int 0, .int 0, .int 0, .int 0, .int 0, .int 0, .ref aB, .ref aT, .int 0, .int 0, .ref aG, .ref aO, .ref aN, .ref aD, .long bv, .ref aY, .int 0, .int 0, .int 0, .int 0])), (aS, .inl (cS, 901, .inl s0)), (aB, .inl (cB, 6, .inl fB)), (aO, .inl (cO, 36, .inr (.inl fO))), (aN, .inl (cN, 36, .inr (.inl fN))), (aD, .inl (cD, 36, .inl fD))] s.heap.size = A at hD hQ ⊢
  have hA : ∀ q : Nat, s.heap.size ≤ q → A q := fun q h => by rw [← hAe]; exact Or.inr h
  have hS : va_S A s.heap s.heap [] := va_S.rf
  have hl := lv_entry [.ref m0, .int (nI j), .int (-1), .int 2] (n := 10) (Nat.le_of_ble_eq_true rfl)
  rw [lg_entry_eq]
  generalize (lg_sl [.ref m0, .int (nI j), .int (-1), .int 2] ++ List.replicate (10 - (lg_sl [.ref m0, .int (nI j), .int (-1), .int 2]).length) Slot.unset).toArray = ls at hl ⊢
  generalize hag : ([.ref m0, .int (nI j), .int (-1), .int 2] : List Value).toArray = args at hts hQ ⊢
  have hl : lv_has ls 10 [(0, .ref m0), (1, .int (nI j)), (2, .int (-1)), (3, .int 2)] := hl
  obtain ⟨H, hH⟩ : ∃ H : Heap, H = s.heap := ⟨_, rfl⟩
  rw [← hH] at hP
  rw [← hH]
  have hS : va_S A s.heap H [] := by rw [hH]; exact hS
  obtain ⟨locs, hlo⟩ : ∃ L : List Loc, L = [] := ⟨_, rfl⟩
  rw [← hlo] at hS
  rw [← hlo]
  clear hH hlo
  refine lv_aload_n hx hb dX12_bestRow_0 rfl (lv_at hl 0 rfl) ?_
  have hPc := hP.sub (ws' := [(m0, .inr (14, [.int 0, .ref aS, .ref aI, .int 0, .int 0, .int 0, .int 0, .int 0, .int 0, .ref aB, .ref aT, .int 0, .int 0, .ref aG, .ref aO, .ref aN, .ref aD, .long bv, .ref aY, .int 0, .int 0, .int 0, .int 0])), (aS, .inl (cS, 901, .inl s0)), (aB, .inl (cB, 6, .inl fB)), (aD, .inl (cD, 36, .inl fD))]) [0, 1, 2, 5] rfl
  have hDc := hD.sub (ws' := [(m0, .inr (14, [.int 0, .ref aS, .ref aI, .int 0, .int 0, .int 0, .int 0, .int 0, .int 0, .ref aB, .ref aT, .int 0, .int 0, .ref aG, .ref aO, .ref aN, .ref aD, .long bv, .ref aY, .int 0, .int 0, .int 0, .int 0])), (aS, .inl (cS, 901, .inl s0)), (aB, .inl (cB, 6, .inl fB)), (aD, .inl (cD, 36, .inl fD))]) [0, 1, 2, 5] (by decide) rfl
  have hKc := hK.sub (tys' := [(cS, .int), (cB, .int), (cD, .int)]) [0, 1, 4] rfl
  have hFc := va_free (wc := [(m0, .inr (14, [.int 0, .ref aS, .ref aI, .int 0, .int 0, .int 0, .int 0, .int 0, .int 0, .ref aB, .ref aT, .int 0, .int 0, .ref aG, .ref aO, .ref aN, .ref aD, .long bv, .ref aY, .int 0, .int 0, .int 0, .int 0])), (aS, .inl (cS, 901, .inl s0)), (aB, .inl (cB, 6, .inl fB)), (aD, .inl (cD, 36, .inl fD))]) hD hS hA [0, 1, 2, 5] rfl
  refine va_callv (va_runV (As := []) (rest := []) ⟨hx, hb, hml, hown, hts⟩ (c_looksFor0 l dC dI m0 aS aI aB aT aG aO aN aD aY bv cS cB cD (fB) (fD) H.size) (cwV 0 hts gX12_bestRow_X12_looksForDrifts rfl rfl rfl (by decide +kernel) ⟨Nat.le_of_ble_eq_true rfl, Nat.le_of_ble_eq_true rfl⟩) ⟨fun a U g mk q => by obtain ⟨q0, q1, qP, qK, qD⟩ := q; exact ⟨q0, q1, qP, va_K.moved (u := U) (U := U.calling g mk a) (Vm.Alike.refl U.vm) qK, qD⟩, va_recv hK hP (ci := 14) (q0 := 0) rfl rfl, fun U hU hW => ⟨rfl, by rw [hU], by rw [hU]; exact hPc, va_K.moved hW.alike hKc, hDc.weaken (fun _ _ _ _ => trivial)⟩⟩ rfl rfl hl.1 rfl (lv_room (Nat.le_of_ble_eq_true rfl)) dX12_bestRow_1 ⟨Nat.le_of_ble_eq_true rfl, Nat.le_of_ble_eq_true rfl⟩) hS (fun q _ h => hFc q h) hFc (fun u tC H1 locs htC hvm hw_2 hB hz1 hk1 hS => ?_)
  obtain ⟨fB2_3, fD2_4⟩ := u
  try dsimp only at hw_2 hB
  obtain ⟨hP1, hK1, hD1⟩ := hB
  rw [htC] at hP1
  have hK1 := va_K.moved hvm.symm hK1
  obtain ⟨hP, hD⟩ := va_join (wr := [(aO, .inl (cO, 36, .inr (.inl fO))), (aN, .inl (cN, 36, .inr (.inl fN)))]) (w1 := [(m0, .inr (14, [.int 0, .ref aS, .ref aI, .int 0, .int 0, .int 0, .int 0, .int 0, .int 0, .ref aB, .ref aT, .int 0, .int 0, .ref aG, .ref aO, .ref aN, .ref aD, .long bv, .ref aY, .int 0, .int 0, .int 0, .int 0])), (aS, .inl (cS, 901, .inl s0)), (aB, .inl (cB, 6, .inl fB2_3)), (aD, .inl (cD, 36, .inl fD2_4))]) hP hD [0, 1, 2, 5] [3, 4] rfl rfl (by decide) (by decide) hk1 hFc hP1 hD1
  have hK := (hK.sub (tys' := [(cO, .long), (cN, .long)]) [2, 3] rfl).app hK1
  generalize H1 = H at hP hS ⊢
  have hP : va_P (dC, dI) vwCl [(aO, .inl (cO, 36, .inr (.inl fO))), (aN, .inl (cN, 36, .inr (.inl fN))), (m0, .inr (14, [.int 0, .ref aS, .ref aI, .int 0, .int 0, .int 0, .int 0, .int 0, .int 0, .ref aB, .ref aT, .int 0, .int 0, .ref aG, .ref aO, .ref aN, .ref aD, .long bv, .ref aY, .int 0, .int 0, .int 0, .int 0])), (aS, .inl (cS, 901, .inl s0)), (aB, .inl (cB, 6, .inl fB2_3)), (aD, .inl (cD, 36, .inl fD2_4))] H := hP
  have hD : va_D A [(aO, .inl (cO, 36, .inr (.inl fO))), (aN, .inl (cN, 36, .inr (.inl fN))), (m0, .inr (14, [.int 0, .ref aS, .ref aI, .int 0, .int 0, .int 0, .int 0, .int 0, .int 0, .ref aB, .ref aT, .int 0, .int 0, .ref aG, .ref aO, .ref aN, .ref aD, .long bv, .ref aY, .int 0, .int 0, .int 0, .int 0])), (aS, .inl (cS, 901, .inl s0)), (aB, .inl (cB, 6, .inl fB2_3)), (aD, .inl (cD, 36, .inl fD2_4))] := hD
  have hK : va_K (dC, dI) vwCl [(cO, .long), (cN, .long), (cS, .int), (cB, .int), (cD, .int)] s := hK
  refine lv_iload_n hx hb dX12_bestRow_4 rfl (lv_at hl 3 rfl) ?_
  refine lv_iconst (v := 1) hx hb dX12_bestRow_5 (by decide) ?_
  refine lv_icmp_ne (tgt := 14) hx hb dX12_bestRow_6 (by decide) (fun _ => ?_) (fun c_5 => absurd c_5 (by decide))
  refine lv_iload_n hx hb dX12_bestRow_14 rfl (lv_at hl 3 rfl) ?_
  refine lv_iconst (v := 2) hx hb dX12_bestRow_15 (by decide) ?_
  refine lv_icmp_ne (tgt := 24) hx hb dX12_bestRow_16 (by decide) (fun c_6 => absurd c_6 (by decide)) (fun _ => ?_)
  refine lv_bipush (v := 64) hx hb dX12_bestRow_19 (by decide) ?_
  refine lv_goto (tgt := 27) hx hb dX12_bestRow_21 (by decide) ?_
  refine lv_istore (lv' := [(4, .int 64), (0, .ref m0), (1, .int (nI j)), (2, .int (-1)), (3, .int 2)]) hx hb dX12_bestRow_27 hl (by decide) rfl (fun ls hl => ?_)
  refine lv_iconst (v := (-1)) hx hb dX12_bestRow_29 (by decide) ?_
  refine lv_istore (lv' := [(5, .int (-1)), (4, .int 64), (0, .ref m0), (1, .int (nI j)), (2, .int (-1)), (3, .int 2)]) hx hb dX12_bestRow_30 hl (by decide) rfl (fun ls hl => ?_)
  refine lv_iconst (v := 0) hx hb dX12_bestRow_32 (by decide) ?_
  refine lv_istore (lv' := [(6, .int 0), (5, .int (-1)), (4, .int 64), (0, .ref m0), (1, .int (nI j)), (2, .int (-1)), (3, .int 2)]) hx hb dX12_bestRow_33 hl (by decide) rfl (fun ls hl => ?_)
  have L35 : ∀ (nF : Nat) (i : Nat) (bs : Int32) (b : Int64) (f : Nat → Int64) (t : Nat → Int64), 64 - i < nF → (i ≤ 64) → (GI (fun _ : Nat => (0 : Int64)) i bs b) → ∀ (H : Heap) (locs : List Loc), va_K (dC, dI) vwCl [(cS, .int), (cB, .int), (cO, .long), (cN, .long), (cD, .int)] s → va_P (dC, dI) vwCl [(m0, .inr (14, [.int 0, .ref aS, .ref aI, .int 0, .int 0, .int 0, .int 0, .int 0, .int 0, .ref aB, .ref aT, .int 0, .int 0, .ref aG, .ref aO, .ref aN, .ref aD, .long b, .ref aY, .int 0, .int 0, .int 0, .int 0])), (aS, .inl (cS, 901, .inl s0)), (aB, .inl (cB, 6, .inl fB2_3)), (aO, .inl (cO, 36, .inr (.inl f))), (aN, .inl (cN, 36, .inr (.inl t))), (aD, .inl (cD, 36, .inl fD2_4))] H → va_D A [(m0, .inr (14, [.int 0, .ref aS, .ref aI, .int 0, .int 0, .int 0, .int 0, .int 0, .int 0, .ref aB, .ref aT, .int 0, .int 0, .ref aG, .ref aO, .ref aN, .ref aD, .long b, .ref aY, .int 0, .int 0, .int 0, .int 0])), (aS, .inl (cS, 901, .inl s0)), (aB, .inl (cB, 6, .inl fB2_3)), (aO, .inl (cO, 36, .inr (.inl f))), (aN, .inl (cN, 36, .inr (.inl t))), (aD, .inl (cD, 36, .inl fD2_4))] → va_S A s.heap H locs → ∀ (ls : Array Slot), lv_has ls 10 [(0, .ref m0), (1, .int (nI j)), (2, .int (-1)), (3, .int 2), (4, .int 64), (5, .int bs), (6, .int (nI i))] → W p l e ({ frames := 5, cells := 0, slots := 0, locals := 113 } : Room) s m args below meth c H locs 0 0 Q (F0 m 35 ls []) := by
    intro nF
    induction nF with
    | zero => intro i bs b f t hm; exact absurd hm (Nat.not_lt_zero _)
    | succ nF ih35 =>
      intro i bs b f t hm hi hg H locs hK hP hD hS ls hl
      refine lv_iload hx hb dX12_bestRow_35 (lv_at hl 6 rfl) ?_
      refine lv_iload hx hb dX12_bestRow_37 (lv_at hl 4 rfl) ?_
      refine lv_icmp_ge (tgt := 132) hx hb dX12_bestRow_39 (by decide) (fun c_7 => ?_) (fun c_7 => ?_)
      · skip
        have c_7 : 64 ≤ i := (nI_leI (a := 64) (b := i) (by omega) (by omega)).mp c_7
        refine lv_iload hx hb dX12_bestRow_132 (lv_at hl 5 rfl) ?_
        rw [hQ]
        have hP9 := hP.sub (ws' := [(m0, .inr (14, [.int 0, .ref aS, .ref aI, .int 0, .int 0, .int 0, .int 0, .int 0, .int 0, .ref aB, .ref aT, .int 0, .int 0, .ref aG, .ref aO, .ref aN, .ref aD, .long b, .ref aY, .int 0, .int 0, .int 0, .int 0])), (aS, .inl (cS, 901, .inl s0)), (aB, .inl (cB, 6, .inl fB2_3)), (aO, .inl (cO, 36, .inr (.inl f))), (aN, .inl (cN, 36, .inr (.inl t))), (aD, .inl (cD, 36, .inl fD2_4))]) [0, 1, 2, 3, 4, 5] rfl
        have hD9 := hD.sub (ws' := [(m0, .inr (14, [.int 0, .ref aS, .ref aI, .int 0, .int 0, .int 0, .int 0, .int 0, .int 0, .ref aB, .ref aT, .int 0, .int 0, .ref aG, .ref aO, .ref aN, .ref aD, .long b, .ref aY, .int 0, .int 0, .int 0, .int 0])), (aS, .inl (cS, 901, .inl s0)), (aB, .inl (cB, 6, .inl fB2_3)), (aO, .inl (cO, 36, .inr (.inl f))), (aN, .inl (cN, 36, .inr (.inl t))), (aD, .inl (cD, 36, .inl fD2_4))]) [0, 1, 2, 3, 4, 5] (by decide) rfl
        have hK9 := hK.sub (tys' := [(cS, .int), (cB, .int), (cO, .long), (cN, .long), (cD, .int)]) [0, 1, 2, 3, 4] rfl
        exact W.iret (v := bs) hx hb hr (fun tQ htQ hWQ => ⟨⟨bs, (fB2_3, f, t, fD2_4, b), rfl, (by have e : i = 64 := (by omega); rw [e] at hg; exact hg.2 (by omega)), by rw [htQ]; exact hP9, va_K.moved hWQ.alike hK9, hD9⟩, hS.F htQ⟩) hS.2.2 dX12_bestRow_134
      · skip
        have c_7 : ¬ 64 ≤ i := fun q => c_7 ((nI_leI (a := 64) (b := i) (by omega) (by omega)).mpr q)
        refine lv_aload_n hx hb dX12_bestRow_42 rfl (lv_at hl 0 rfl) ?_
        refine lv_iload_n hx hb dX12_bestRow_43 rfl (lv_at hl 1 rfl) ?_
        refine lv_iload hx hb dX12_bestRow_44 (lv_at hl 6 rfl) ?_
        refine lv_iload_n hx hb dX12_bestRow_46 rfl (lv_at hl 3 rfl) ?_
        have hPc := hP.sub (ws' := [(m0, .inr (14, [.int 0, .ref aS, .ref aI, .int 0, .int 0, .int 0, .int 0, .int 0, .int 0, .ref aB, .ref aT, .int 0, .int 0, .ref aG, .ref aO, .ref aN, .ref aD, .long b, .ref aY, .int 0, .int 0, .int 0, .int 0])), (aS, .inl (cS, 901, .inl s0)), (aO, .inl (cO, 36, .inr (.inl f))), (aN, .inl (cN, 36, .inr (.inl t))), (aD, .inl (cD, 36, .inl fD2_4))]) [0, 1, 3, 4, 5] rfl
        have hDc := hD.sub (ws' := [(m0, .inr (14, [.int 0, .ref aS, .ref aI, .int 0, .int 0, .int 0, .int 0, .int 0, .int 0, .ref aB, .ref aT, .int 0, .int 0, .ref aG, .ref aO, .ref aN, .ref aD, .long b, .ref aY, .int 0, .int 0, .int 0, .int 0])), (aS, .inl (cS, 901, .inl s0)), (aO, .inl (cO, 36, .inr (.inl f))), (aN, .inl (cN, 36, .inr (.inl t))), (aD, .inl (cD, 36, .inl fD2_4))]) [0, 1, 3, 4, 5] (by decide) rfl
        have hKc := hK.sub (tys' := [(cS, .int), (cO, .long), (cN, .long), (cD, .int)]) [0, 2, 3, 4] rfl
        have hFc := va_free (wc := [(m0, .inr (14, [.int 0, .ref aS, .ref aI, .int 0, .int 0, .int 0, .int 0, .int 0, .int 0, .ref aB, .ref aT, .int 0, .int 0, .ref aG, .ref aO, .ref aN, .ref aD, .long b, .ref aY, .int 0, .int 0, .int 0, .int 0])), (aS, .inl (cS, 901, .inl s0)), (aO, .inl (cO, 36, .inr (.inl f))), (aN, .inl (cN, 36, .inr (.inl t))), (aD, .inl (cD, 36, .inl fD2_4))]) hD hS hA [0, 1, 3, 4, 5] rfl
        refine va_callv (va_runV (As := [.int (nI j), .int (nI i), .int 2]) (rest := []) ⟨hx, hb, hml, hown, hts⟩ (c_goesBy2 l dC dI m0 aS aI aB aT aG aO aN aD aY b cS cO cN cD (f) (t) (fD2_4) j i H.size (by omega) (by omega) hw_2) (cwV 3 hts gX12_bestRow_X12_goesBy rfl rfl rfl (by decide +kernel) ⟨Nat.le_of_ble_eq_true rfl, Nat.le_of_ble_eq_true rfl⟩) ⟨fun a U g mk q => by obtain ⟨q0, q1, qP, qK, qD⟩ := q; exact ⟨q0, q1, qP, va_K.moved (u := U) (U := U.calling g mk a) (Vm.Alike.refl U.vm) qK, qD⟩, va_recv hK hP (ci := 14) (q0 := 0) rfl rfl, fun U hU hW => ⟨rfl, by rw [hU], by rw [hU]; exact hPc, va_K.moved hW.alike hKc, hDc.weaken (fun _ _ _ _ => trivial)⟩⟩ rfl rfl hl.1 rfl (lv_room (Nat.le_of_ble_eq_true rfl)) dX12_bestRow_47 ⟨Nat.le_of_ble_eq_true rfl, Nat.le_of_ble_eq_true rfl⟩) hS (fun q _ h => hFc q h) hFc (fun u tC H1 locs htC hvm hw_9 hB hz1 hk1 hS => ?_)
        obtain ⟨fO2_10, fN2_11⟩ := u
        try dsimp only at hw_9 hB
        obtain ⟨hP1, hK1, hD1⟩ := hB
        rw [htC] at hP1
        have hK1 := va_K.moved hvm.symm hK1
        obtain ⟨hP, hD⟩ := va_join (wr := [(aB, .inl (cB, 6, .inl fB2_3))]) (w1 := [(m0, .inr (14, [.int 0, .ref aS, .ref aI, .int 0, .int 0, .int 0, .int 0, .int 0, .int 0, .ref aB, .ref aT, .int 0, .int 0, .ref aG, .ref aO, .ref aN, .ref aD, .long b, .ref aY, .int 0, .int 0, .int 0, .int 0])), (aS, .inl (cS, 901, .inl s0)), (aO, .inl (cO, 36, .inr (.inl fO2_10))), (aN, .inl (cN, 36, .inr (.inl fN2_11))), (aD, .inl (cD, 36, .inl fD2_4))]) hP hD [0, 1, 3, 4, 5] [2] rfl rfl (by decide) (by decide) hk1 hFc hP1 hD1
        have hK := (hK.sub (tys' := [(cB, .int)]) [1] rfl).app hK1
        generalize H1 = H at hP hS ⊢
        have hP : va_P (dC, dI) vwCl [(aB, .inl (cB, 6, .inl fB2_3)), (m0, .inr (14, [.int 0, .ref aS, .ref aI, .int 0, .int 0, .int 0, .int 0, .int 0, .int 0, .ref aB, .ref aT, .int 0, .int 0, .ref aG, .ref aO, .ref aN, .ref aD, .long b, .ref aY, .int 0, .int 0, .int 0, .int 0])), (aS, .inl (cS, 901, .inl s0)), (aO, .inl (cO, 36, .inr (.inl fO2_10))), (aN, .inl (cN, 36, .inr (.inl fN2_11))), (aD, .inl (cD, 36, .inl fD2_4))] H := hP
        have hD : va_D A [(aB, .inl (cB, 6, .inl fB2_3)), (m0, .inr (14, [.int 0, .ref aS, .ref aI, .int 0, .int 0, .int 0, .int 0, .int 0, .int 0, .ref aB, .ref aT, .int 0, .int 0, .ref aG, .ref aO, .ref aN, .ref aD, .long b, .ref aY, .int 0, .int 0, .int 0, .int 0])), (aS, .inl (cS, 901, .inl s0)), (aO, .inl (cO, 36, .inr (.inl fO2_10))), (aN, .inl (cN, 36, .inr (.inl fN2_11))), (aD, .inl (cD, 36, .inl fD2_4))] := hD
        have hK : va_K (dC, dI) vwCl [(cB, .int), (cS, .int), (cO, .long), (cN, .long), (cD, .int)] s := hK
        refine lv_iload_n hx hb dX12_bestRow_50 rfl (lv_at hl 2 rfl) ?_
        refine lv_iconst (v := (-1)) hx hb dX12_bestRow_51 (by decide) ?_
        refine lv_icmp_ne (tgt := 63) hx hb dX12_bestRow_52 (by decide) (fun c_12 => absurd c_12 (by decide)) (fun _ => ?_)
        refine lv_aload_n hx hb dX12_bestRow_55 rfl (lv_at hl 0 rfl) ?_
        have hPc := hP.sub (ws' := [(m0, .inr (14, [.int 0, .ref aS, .ref aI, .int 0, .int 0, .int 0, .int 0, .int 0, .int 0, .ref aB, .ref aT, .int 0, .int 0, .ref aG, .ref aO, .ref aN, .ref aD, .long b, .ref aY, .int 0, .int 0, .int 0, .int 0])), (aS, .inl (cS, 901, .inl s0)), (aO, .inl (cO, 36, .inr (.inl fO2_10)))]) [1, 2, 3] rfl
        have hKc := hK.sub (tys' := [(cS, .int), (cO, .long)]) [1, 2] rfl
        refine vp_callSl (va_runV (As := []) (rest := []) ⟨hx, hb, hml, hown, hts⟩ (c_over0 l dC dI m0 aS aI aB aT aG aO aN aD aY b cS cO (fO2_10)) (cwV 0 hts gX12_bestRow_X12_over rfl rfl rfl (by decide +kernel) ⟨Nat.le_of_ble_eq_true rfl, Nat.le_of_ble_eq_true rfl⟩) ⟨fun a U g mk q => by obtain ⟨q0, qP, qK⟩ := q; exact ⟨q0, qP, va_K.moved (u := U) (U := U.calling g mk a) (Vm.Alike.refl U.vm) qK⟩, va_recv hK hP (ci := 14) (q0 := 1) rfl rfl, fun U hU hW => ⟨rfl, by rw [hU]; exact hPc, va_K.moved hW.alike hKc⟩⟩ rfl rfl hl.1 rfl (lv_room (Nat.le_of_ble_eq_true rfl)) dX12_bestRow_56 ⟨Nat.le_of_ble_eq_true rfl, Nat.le_of_ble_eq_true rfl⟩).run (fun r_13 hw_14 => ?_)
        refine ql_as (y := 0) (hw_14) ?_
        refine lv_lneg hx hb dX12_bestRow_59 ?_
        refine ql_as (y := 0) (by decide) ?_
        refine lv_goto (tgt := 69) hx hb dX12_bestRow_60 (by decide) ?_
        refine lv_lstore (lv' := [(7, .long 0), (0, .ref m0), (1, .int (nI j)), (2, .int (-1)), (3, .int 2), (4, .int 64), (5, .int bs), (6, .int (nI i))]) hx hb dX12_bestRow_69 hl (by decide) rfl (fun ls hl => ?_)
        refine lv_iload hx hb dX12_bestRow_71 (lv_at hl 6 rfl) ?_
        refine lv_iconst (v := (-1)) hx hb dX12_bestRow_73 (by decide) ?_
        refine lv_icmp_eq (tgt := 87) hx hb dX12_bestRow_74 (by decide) (fun c_15 => ?_) (fun c_15 => ?_)
        · skip
          refine lv_iconst (v := 1) hx hb dX12_bestRow_87 (by decide) ?_
          refine lv_goto (tgt := 92) hx hb dX12_bestRow_88 (by decide) ?_
          refine lv_istore (lv' := [(9, .int 1), (7, .long 0), (0, .ref m0), (1, .int (nI j)), (2, .int (-1)), (3, .int 2), (4, .int 64), (5, .int bs), (6, .int (nI i))]) hx hb dX12_bestRow_92 hl (by decide) rfl (fun ls hl => ?_)
          refine lv_iload hx hb dX12_bestRow_94 (lv_at hl 0 rfl) ?_
          refine lv_if_eq (tgt := 104) hx hb dX12_bestRow_96 (by decide) (fun c_16 => absurd c_16 (by decide)) (fun _ => ?_)
          refine lv_iload hx hb dX12_bestRow_99 (lv_at hl 8 rfl) ?_
          refine lv_goto (tgt := 106) hx hb dX12_bestRow_101 (by decide) ?_
          refine lv_istore (lv' := [(5, .int (nI i)), (9, .int 1), (7, .long 0), (0, .ref m0), (1, .int (nI j)), (2, .int (-1)), (3, .int 2), (4, .int 64), (6, .int (nI i))]) hx hb dX12_bestRow_106 hl (by decide) rfl (fun ls hl => ?_)
          refine lv_aload_n hx hb dX12_bestRow_108 rfl (lv_at hl 3 rfl) ?_
          refine lv_iload hx hb dX12_bestRow_109 (lv_at hl 1 rfl) ?_
          refine lv_if_eq (tgt := 119) hx hb dX12_bestRow_111 (by decide) (fun c_17 => absurd c_17 (by decide)) (fun _ => ?_)
          refine lv_lload hx hb dX12_bestRow_114 (lv_at hl 2 rfl) ?_
          refine lv_goto (tgt := 123) hx hb dX12_bestRow_116 (by decide) ?_
          refine va_put (D := (dC, dI)) (ci := 14) (v := .long 0) (ty := .long) (C := RX12) (T := TX12) (N := 23) hx hb hts kc_safeRow2_0 tyX12 tyX12_ok nmX12 hown hK hP hD hS 1 rfl rfl 17 (by decide) (hts (.fieldLink RX12 236 "MistHeapsModel" "bestOften" "J") kc_safeRow2_1) (fun _ h9 => h9) rfl (by decide +kernel) rfl rfl (Nat.le_of_ble_eq_true rfl) dX12_bestRow_123 (fun H locs hP hD hS => ?_)
          have hP : va_P (dC, dI) vwCl [(aB, .inl (cB, 6, .inl fB2_3)), (m0, .inr (14, [.int 0, .ref aS, .ref aI, .int 0, .int 0, .int 0, .int 0, .int 0, .int 0, .ref aB, .ref aT, .int 0, .int 0, .ref aG, .ref aO, .ref aN, .ref aD, .long 0, .ref aY, .int 0, .int 0, .int 0, .int 0])), (aS, .inl (cS, 901, .inl s0)), (aO, .inl (cO, 36, .inr (.inl fO2_10))), (aN, .inl (cN, 36, .inr (.inl fN2_11))), (aD, .inl (cD, 36, .inl fD2_4))] H := hP
          have hD : va_D A [(aB, .inl (cB, 6, .inl fB2_3)), (m0, .inr (14, [.int 0, .ref aS, .ref aI, .int 0, .int 0, .int 0, .int 0, .int 0, .int 0, .ref aB, .ref aT, .int 0, .int 0, .ref aG, .ref aO, .ref aN, .ref aD, .long 0, .ref aY, .int 0, .int 0, .int 0, .int 0])), (aS, .inl (cS, 901, .inl s0)), (aO, .inl (cO, 36, .inr (.inl fO2_10))), (aN, .inl (cN, 36, .inr (.inl fN2_11))), (aD, .inl (cD, 36, .inl fD2_4))] := hD
          refine lv_iinc (v := nI (i + 1)) (lv' := [(6, .int (nI (i + 1))), (5, .int (nI i)), (9, .int 1), (7, .long 0), (0, .ref m0), (1, .int (nI j)), (2, .int (-1)), (3, .int 2), (4, .int 64)]) hx hb dX12_bestRow_126 hl (k := 8) rfl (nI_add i 1) (by decide) rfl (fun ls hl => ?_)
          refine lv_goto (tgt := 35) hx hb dX12_bestRow_129 (by decide) ?_
          exact ih35 _ _ _ _ _ (by omega) (by omega) (GI_A (v := (fun _ : Nat => (0 : Int64))) (by omega) hg c_15 (by decide)) _ _ (hK.sub [1, 0, 2, 3, 4] rfl) (hP.sub [1, 2, 0, 3, 4, 5] rfl) (hD.sub [1, 2, 0, 3, 4, 5] (by decide) rfl) hS ls (lv_sub hl [4, 5, 6, 7, 8, 1, 0] rfl)
        · skip
          refine lv_lload hx hb dX12_bestRow_77 (lv_at hl 0 rfl) ?_
          refine lv_aload_n hx hb dX12_bestRow_79 rfl (lv_at hl 1 rfl) ?_
          refine va_get (D := (dC, dI)) (ci := 14) (v := .long b) (C := RX12) (T := TX12) (N := 23) hx hb hts kc_safeRow2_0 hown hK hP 1 rfl rfl 17 (by decide) (hts (.fieldLink RX12 236 "MistHeapsModel" "bestOften" "J") kc_safeRow2_1) (fun _ h9 => h9) rfl dX12_bestRow_80 ?_
          refine W.lcmp hx hb dX12_bestRow_83 ?_
          refine lv_if_le (tgt := 91) hx hb dX12_bestRow_84 (by decide) (fun c_18 => ?_) (fun c_18 => ?_)
          · skip
            rw [lg_cmp_le] at c_18
            refine lv_iconst (v := 0) hx hb dX12_bestRow_91 (by decide) ?_
            refine lv_istore (lv' := [(9, .int 0), (7, .long 0), (0, .ref m0), (1, .int (nI j)), (2, .int (-1)), (3, .int 2), (4, .int 64), (5, .int bs), (6, .int (nI i))]) hx hb dX12_bestRow_92 hl (by decide) rfl (fun ls hl => ?_)
            refine lv_iload hx hb dX12_bestRow_94 (lv_at hl 0 rfl) ?_
            refine lv_if_eq (tgt := 104) hx hb dX12_bestRow_96 (by decide) (fun _ => ?_) (fun c_19 => absurd c_19 (by decide))
            refine lv_iload hx hb dX12_bestRow_104 (lv_at hl 7 rfl) ?_
            refine lv_istore (lv' := [(5, .int bs), (9, .int 0), (7, .long 0), (0, .ref m0), (1, .int (nI j)), (2, .int (-1)), (3, .int 2), (4, .int 64), (6, .int (nI i))]) hx hb dX12_bestRow_106 hl (by decide) rfl (fun ls hl => ?_)
            refine lv_aload_n hx hb dX12_bestRow_108 rfl (lv_at hl 3 rfl) ?_
            refine lv_iload hx hb dX12_bestRow_109 (lv_at hl 1 rfl) ?_
            refine lv_if_eq (tgt := 119) hx hb dX12_bestRow_111 (by decide) (fun _ => ?_) (fun c_20 => absurd c_20 (by decide))
            refine lv_aload_n hx hb dX12_bestRow_119 rfl (lv_at hl 3 rfl) ?_
            refine va_get (D := (dC, dI)) (ci := 14) (v := .long b) (C := RX12) (T := TX12) (N := 23) hx hb hts kc_safeRow2_0 hown hK hP 1 rfl rfl 17 (by decide) (hts (.fieldLink RX12 236 "MistHeapsModel" "bestOften" "J") kc_safeRow2_1) (fun _ h9 => h9) rfl dX12_bestRow_120 ?_
            refine va_put (D := (dC, dI)) (ci := 14) (v := .long b) (ty := .long) (C := RX12) (T := TX12) (N := 23) hx hb hts kc_safeRow2_0 tyX12 tyX12_ok nmX12 hown hK hP hD hS 1 rfl rfl 17 (by decide) (hts (.fieldLink RX12 236 "MistHeapsModel" "bestOften" "J") kc_safeRow2_1) (fun _ h9 => h9) rfl (by decide +kernel) rfl rfl (Nat.le_of_ble_eq_true rfl) dX12_bestRow_123 (fun H locs hP hD hS => ?_)
            have hP : va_P (dC, dI) vwCl [(aB, .inl (cB, 6, .inl fB2_3)), (m0, .inr (14, [.int 0, .ref aS, .ref aI, .int 0, .int 0, .int 0, .int 0, .int 0, .int 0, .ref aB, .ref aT, .int 0, .int 0, .ref aG, .ref aO, .ref aN, .ref aD, .long b, .ref aY, .int 0, .int 0, .int 0, .int 0])), (aS, .inl (cS, 901, .inl s0)), (aO, .inl (cO, 36, .inr (.inl fO2_10))), (aN, .inl (cN, 36, .inr (.inl fN2_11))), (aD, .inl (cD, 36, .inl fD2_4))] H := hP
            have hD : va_D A [(aB, .inl (cB, 6, .inl fB2_3)), (m0, .inr (14, [.int 0, .ref aS, .ref aI, .int 0, .int 0, .int 0, .int 0, .int 0, .int 0, .ref aB, .ref aT, .int 0, .int 0, .ref aG, .ref aO, .ref aN, .ref aD, .long b, .ref aY, .int 0, .int 0, .int 0, .int 0])), (aS, .inl (cS, 901, .inl s0)), (aO, .inl (cO, 36, .inr (.inl fO2_10))), (aN, .inl (cN, 36, .inr (.inl fN2_11))), (aD, .inl (cD, 36, .inl fD2_4))] := hD
            refine lv_iinc (v := nI (i + 1)) (lv' := [(6, .int (nI (i + 1))), (5, .int bs), (9, .int 0), (7, .long 0), (0, .ref m0), (1, .int (nI j)), (2, .int (-1)), (3, .int 2), (4, .int 64)]) hx hb dX12_bestRow_126 hl (k := 8) rfl (nI_add i 1) (by decide) rfl (fun ls hl => ?_)
            refine lv_goto (tgt := 35) hx hb dX12_bestRow_129 (by decide) ?_
            exact ih35 _ _ _ _ _ (by omega) (by omega) (GI_B1 (v := (fun _ : Nat => (0 : Int64))) hg c_15 c_18) _ _ (hK.sub [1, 0, 2, 3, 4] rfl) (hP.sub [1, 2, 0, 3, 4, 5] rfl) (hD.sub [1, 2, 0, 3, 4, 5] (by decide) rfl) hS ls (lv_sub hl [4, 5, 6, 7, 8, 1, 0] rfl)
          · skip
            rw [lg_cmp_le] at c_18
            refine lv_iconst (v := 1) hx hb dX12_bestRow_87 (by decide) ?_
            refine lv_goto (tgt := 92) hx hb dX12_bestRow_88 (by decide) ?_
            refine lv_istore (lv' := [(9, .int 1), (7, .long 0), (0, .ref m0), (1, .int (nI j)), (2, .int (-1)), (3, .int 2), (4, .int 64), (5, .int bs), (6, .int (nI i))]) hx hb dX12_bestRow_92 hl (by decide) rfl (fun ls hl => ?_)
            refine lv_iload hx hb dX12_bestRow_94 (lv_at hl 0 rfl) ?_
            refine lv_if_eq (tgt := 104) hx hb dX12_bestRow_96 (by decide) (fun c_21 => absurd c_21 (by decide)) (fun _ => ?_)
            refine lv_iload hx hb dX12_bestRow_99 (lv_at hl 8 rfl) ?_
            refine lv_goto (tgt := 106) hx hb dX12_bestRow_101 (by decide) ?_
            refine lv_istore (lv' := [(5, .int (nI i)), (9, .int 1), (7, .long 0), (0, .ref m0), (1, .int (nI j)), (2, .int (-1)), (3, .int 2), (4, .int 64), (6, .int (nI i))]) hx hb dX12_bestRow_106 hl (by decide) rfl (fun ls hl => ?_)
            refine lv_aload_n hx hb dX12_bestRow_108 rfl (lv_at hl 3 rfl) ?_
            refine lv_iload hx hb dX12_bestRow_109 (lv_at hl 1 rfl) ?_
            refine lv_if_eq (tgt := 119) hx hb dX12_bestRow_111 (by decide) (fun c_22 => absurd c_22 (by decide)) (fun _ => ?_)
            refine lv_lload hx hb dX12_bestRow_114 (lv_at hl 2 rfl) ?_
            refine lv_goto (tgt := 123) hx hb dX12_bestRow_116 (by decide) ?_
            refine va_put (D := (dC, dI)) (ci := 14) (v := .long 0) (ty := .long) (C := RX12) (T := TX12) (N := 23) hx hb hts kc_safeRow2_0 tyX12 tyX12_ok nmX12 hown hK hP hD hS 1 rfl rfl 17 (by decide) (hts (.fieldLink RX12 236 "MistHeapsModel" "bestOften" "J") kc_safeRow2_1) (fun _ h9 => h9) rfl (by decide +kernel) rfl rfl (Nat.le_of_ble_eq_true rfl) dX12_bestRow_123 (fun H locs hP hD hS => ?_)
            have hP : va_P (dC, dI) vwCl [(aB, .inl (cB, 6, .inl fB2_3)), (m0, .inr (14, [.int 0, .ref aS, .ref aI, .int 0, .int 0, .int 0, .int 0, .int 0, .int 0, .ref aB, .ref aT, .int 0, .int 0, .ref aG, .ref aO, .ref aN, .ref aD, .long 0, .ref aY, .int 0, .int 0, .int 0, .int 0])), (aS, .inl (cS, 901, .inl s0)), (aO, .inl (cO, 36, .inr (.inl fO2_10))), (aN, .inl (cN, 36, .inr (.inl fN2_11))), (aD, .inl (cD, 36, .inl fD2_4))] H := hP
            have hD : va_D A [(aB, .inl (cB, 6, .inl fB2_3)), (m0, .inr (14, [.int 0, .ref aS, .ref aI, .int 0, .int 0, .int 0, .int 0, .int 0, .int 0, .ref aB, .ref aT, .int 0, .int 0, .ref aG, .ref aO, .ref aN, .ref aD, .long 0, .ref aY, .int 0, .int 0, .int 0, .int 0])), (aS, .inl (cS, 901, .inl s0)), (aO, .inl (cO, 36, .inr (.inl fO2_10))), (aN, .inl (cN, 36, .inr (.inl fN2_11))), (aD, .inl (cD, 36, .inl fD2_4))] := hD
            refine lv_iinc (v := nI (i + 1)) (lv' := [(6, .int (nI (i + 1))), (5, .int (nI i)), (9, .int 1), (7, .long 0), (0, .ref m0), (1, .int (nI j)), (2, .int (-1)), (3, .int 2), (4, .int 64)]) hx hb dX12_bestRow_126 hl (k := 8) rfl (nI_add i 1) (by decide) rfl (fun ls hl => ?_)
            refine lv_goto (tgt := 35) hx hb dX12_bestRow_129 (by decide) ?_
            exact ih35 _ _ _ _ _ (by omega) (by omega) (GI_B2 (v := (fun _ : Nat => (0 : Int64))) hg c_15 c_18) _ _ (hK.sub [1, 0, 2, 3, 4] rfl) (hP.sub [1, 2, 0, 3, 4, 5] rfl) (hD.sub [1, 2, 0, 3, 4, 5] (by decide) rfl) hS ls (lv_sub hl [4, 5, 6, 7, 8, 1, 0] rfl)
  exact L35 _ (0) _ _ _ _ (Nat.lt_succ_self _) (by omega) (GI_0) _ _ (hK.sub [2, 3, 0, 1, 4] rfl) (hP.sub [2, 3, 4, 0, 1, 5] rfl) (hD.sub [2, 3, 4, 0, 1, 5] (by decide) rfl) hS ls (lv_sub hl [3, 4, 5, 6, 2, 1, 0] rfl)

theorem kc_bestRow3_0 : ∀ w ∈ wsX120, w ∈ wsX12_bestRow := by decide +kernel
theorem kc_bestRow3_1 : (.fieldLink RX12 28 "MistHeapsModel" "often" "[J" : Cond) ∈ wsX12_bestRow := by decide +kernel
theorem kc_bestRow3_2 : (.fieldLink RX12 236 "MistHeapsModel" "bestOften" "J" : Cond) ∈ wsX12_bestRow := by decide +kernel
set_option maxHeartbeats 4000000 in
set_option maxRecDepth 100000 in
theorem c_bestRow3 (l : Launch) (dC : Nat → ClassId) (dI : Nat → Nat → Nat) (m0 aS aI aB aT aG aO aN aD aY : Nat) (bv : Int64) (cS cB cO cN cD : ClassId) (fB fD : Nat → Int32) (fO fN : Nat → Int64) (j o : Nat) (sz : Nat) (zj : j < 36) (zo : o < 36) : Met l yX12_bestRow wsX12_bestRow ({ frames := 5, cells := 0, slots := 0, locals := 113 } : Room) (va_Pc [.ref m0, .int (nI j), .int (nI o), .int 3] (fun U => U.heap.size = sz ∧ va_P (dC, dI) vwCl [(m0, .inr (14, [.int 0, .ref aS, .ref aI, .int 0, .int 0, .int 0, .int 0, .int 0, .int 0, .ref aB, .ref aT, .int 0, .int 0, .ref aG, .ref aO, .ref aN, .ref aD, .long bv, .ref aY, .int 0, .int 0, .int 0, .int 0])), (aS, .inl (cS, 901, .inl s0)), (aB, .inl (cB, 6, .inl fB)), (aO, .inl (cO, 36, .inr (.inl fO))), (aN, .inl (cN, 36, .inr (.inl fN))), (aD, .inl (cD, 36, .inl fD))] U.heap ∧ va_K (dC, dI) vwCl [(cS, .int), (cB, .int), (cO, .long), (cN, .long), (cD, .int)] U ∧ va_D (fun _ => True) [(m0, .inr (14, [.int 0, .ref aS, .ref aI, .int 0, .int 0, .int 0, .int 0, .int 0, .int 0, .ref aB, .ref aT, .int 0, .int 0, .ref aG, .ref aO, .ref aN, .ref aD, .long bv, .ref aY, .int 0, .int 0, .int 0, .int 0])), (aS, .inl (cS, 901, .inl s0)), (aB, .inl (cB, 6, .inl fB)), (aO, .inl (cO, 36, .inr (.inl fO))), (aN, .inl (cN, 36, .inr (.inl fN))), (aD, .inl (cD, 36, .inl fD))])) (va_Qi (fun (r : Int32) (u : (Nat → Int32) × (Nat → Int64) × (Nat → Int64) × (Nat → Int32) × (Int64)) => match u with | (fB2, fO2, fN2, fD2, bv2) => r = nI (GG (fun q => ind (pth 3 j q) 3 o) 512).2 ∧ bv2 = (GG (fun q => ind (pth 3 j q) 3 o) 512).1) (fun (u : (Nat → Int32) × (Nat → Int64) × (Nat → Int64) × (Nat → Int32) × (Int64)) (t : State) => match u with | (fB2, fO2, fN2, fD2, bv2) => va_P (dC, dI) vwCl [(m0, .inr (14, [.int 0, .ref aS, .ref aI, .int 0, .int 0, .int 0, .int 0, .int 0, .int 0, .ref aB, .ref aT, .int 0, .int 0, .ref aG, .ref aO, .ref aN, .ref aD, .long bv2, .ref aY, .int 0, .int 0, .int 0, .int 0])), (aS, .inl (cS, 901, .inl s0)), (aB, .inl (cB, 6, .inl fB2)), (aO, .inl (cO, 36, .inr (.inl fO2))), (aN, .inl (cN, 36, .inr (.inl fN2))), (aD, .inl (cD, 36, .inl fD2))] t.heap ∧ va_K (dC, dI) vwCl [(cS, .int), (cB, .int), (cO, .long), (cN, .long), (cD, .int)] t ∧ va_D (va_A [(m0, .inr (14, [.int 0, .ref aS, .ref aI, .int 0, .int 0, .int 0, .int 0, .int 0, .int 0, .ref aB, .ref aT, .int 0, .int 0, .ref aG, .ref aO, .ref aN, .ref aD, .long bv, .ref aY, .int 0, .int 0, .int 0, .int 0])), (aS, .inl (cS, 901, .inl s0)), (aB, .inl (cB, 6, .inl fB)), (aO, .inl (cO, 36, .inr (.inl fO))), (aN, .inl (cN, 36, .inr (.inl fN))), (aD, .inl (cD, 36, .inl fD))] sz) [(m0, .inr (14, [.int 0, .ref aS, .ref aI, .int 0, .int 0, .int 0, .int 0, .int 0, .int 0, .ref aB, .ref aT, .int 0, .int 0, .ref aG, .ref aO, .ref aN, .ref aD, .long bv2, .ref aY, .int 0, .int 0, .int 0, .int 0])), (aS, .inl (cS, 901, .inl s0)), (aB, .inl (cB, 6, .inl fB2)), (aO, .inl (cO, 36, .inr (.inl fO2))), (aN, .inl (cN, 36, .inr (.inl fN2))), (aD, .inl (cD, 36, .inl fD2))]) (va_A [(m0, .inr (14, [.int 0, .ref aS, .ref aI, .int 0, .int 0, .int 0, .int 0, .int 0, .int 0, .ref aB, .ref aT, .int 0, .int 0, .ref aG, .ref aO, .ref aN, .ref aD, .long bv, .ref aY, .int 0, .int 0, .int 0, .int 0])), (aS, .inl (cS, 901, .inl s0)), (aB, .inl (cB, 6, .inl fB)), (aO, .inl (cO, 36, .inr (.inl fO))), (aN, .inl (cN, 36, .inr (.inl fN))), (aD, .inl (cD, 36, .inl fD))] sz)) 0 0 (va_A [(m0, .inr (14, [.int 0, .ref aS, .ref aI, .int 0, .int 0, .int 0, .int 0, .int 0, .int 0, .ref aB, .ref aT, .int 0, .int 0, .ref aG, .ref aO, .ref aN, .ref aD, .long bv, .ref aY, .int 0, .int 0, .int 0, .int 0])), (aS, .inl (cS, 901, .inl s0)), (aB, .inl (cB, 6, .inl fB)), (aO, .inl (cO, 36, .inr (.inl fO))), (aN, .inl (cN, 36, .inr (.inl fN))), (aD, .inl (cD, 36, .inl fD))] sz) := by
  refine met_ofQ (cc := cX12_bestRow) (maxL := 10) (ret := (some .int)) (by decide) rfl ?_
  intro p e s m args below meth c s₁ Q B hml hv hQ
  obtain ⟨rfl, hsz, hP, hK, hD0⟩ := hv
  have hx := B.exec
  have hb := B.bytes
  have hr := B.returns
  have hts := atoms_spec (ws := wsX12_bestRow) B.pre
  have hown : s.vm.findClass RX12 = some m.cls := findClass_of_methodNamed B.named
  have hlocks := B.notSynchronized
  subst hsz
  have hD := hD0.self (sz := s.heap.size)
  generalize hAe : va_A [(m0, .inr (14, [.int 0, .ref aS, .ref aI, .int 0, .int 0, .int 0, .int 0, .int 0, .int 0, .ref aB, .ref aT, .int 0, .int 0, .ref aG, .ref aO, .ref aN, .ref aD, .long bv, .ref aY, .int 0, .int 0, .int 0, .int 0])), (aS, .inl (cS, 901, .inl s0)), (aB, .inl (cB, 6, .inl fB)), (aO, .inl (cO, 36, .inr (.inl fO))), (aN, .inl (cN, 36, .inr (.inl fN))), (aD, .inl (cD, 36, .inl fD))] s.heap.size = A at hD hQ ⊢
  have hA : ∀ q : Nat, s.heap.size ≤ q → A q := fun q h => by rw [← hAe]; exact Or.inr h
  have hS : va_S A s.heap s.heap [] := va_S.rf
  have hl := lv_entry [.ref m0, .int (nI j), .int (nI o), .int 3] (n := 10) (Nat.le_of_ble_eq_true rfl)
  rw [lg_entry_eq]
  generalize (lg_sl [.ref m0, .int (nI j), .int (nI o), .int 3] ++ List.replicate (10 - (lg_sl [.ref m0, .int (nI j), .int (nI o), .int 3]).length) Slot.unset).toArray = ls at hl ⊢
  generalize hag : ([.ref m0, .int (nI j), .int (nI o), .int 3] : List Value).toArray = args at hts hQ ⊢
  have hl : lv_has ls 10 [(0, .ref m0), (1, .int (nI j)), (2, .int (nI o)), (3, .int 3)] := hl
  obtain ⟨H, hH⟩ : ∃ H : Heap, H = s.heap := ⟨_, rfl⟩
  rw [← hH] at hP
  rw [← hH]
  have hS : va_S A s.heap H [] := by rw [hH]; exact hS
  obtain ⟨locs, hlo⟩ : ∃ L : List Loc, L = [] := ⟨_, rfl⟩
  rw [← hlo] at hS
  rw [← hlo]
  clear hH hlo
  refine lv_aload_n hx hb dX12_bestRow_0 rfl (lv_at hl 0 rfl) ?_
  have hPc := hP.sub (ws' := [(m0, .inr (14, [.int 0, .ref aS, .ref aI, .int 0, .int 0, .int 0, .int 0, .int 0, .int 0, .ref aB, .ref aT, .int 0, .int 0, .ref aG, .ref aO, .ref aN, .ref aD, .long bv, .ref aY, .int 0, .int 0, .int 0, .int 0])), (aS, .inl (cS, 901, .inl s0)), (aB, .inl (cB, 6, .inl fB)), (aD, .inl (cD, 36, .inl fD))]) [0, 1, 2, 5] rfl
  have hDc := hD.sub (ws' := [(m0, .inr (14, [.int 0, .ref aS, .ref aI, .int 0, .int 0, .int 0, .int 0, .int 0, .int 0, .ref aB, .ref aT, .int 0, .int 0, .ref aG, .ref aO, .ref aN, .ref aD, .long bv, .ref aY, .int 0, .int 0, .int 0, .int 0])), (aS, .inl (cS, 901, .inl s0)), (aB, .inl (cB, 6, .inl fB)), (aD, .inl (cD, 36, .inl fD))]) [0, 1, 2, 5] (by decide) rfl
  have hKc := hK.sub (tys' := [(cS, .int), (cB, .int), (cD, .int)]) [0, 1, 4] rfl
  have hFc := va_free (wc := [(m0, .inr (14, [.int 0, .ref aS, .ref aI, .int 0, .int 0, .int 0, .int 0, .int 0, .int 0, .ref aB, .ref aT, .int 0, .int 0, .ref aG, .ref aO, .ref aN, .ref aD, .long bv, .ref aY, .int 0, .int 0, .int 0, .int 0])), (aS, .inl (cS, 901, .inl s0)), (aB, .inl (cB, 6, .inl fB)), (aD, .inl (cD, 36, .inl fD))]) hD hS hA [0, 1, 2, 5] rfl
  refine va_callv (va_runV (As := []) (rest := []) ⟨hx, hb, hml, hown, hts⟩ (c_looksFor0 l dC dI m0 aS aI aB aT aG aO aN aD aY bv cS cB cD (fB) (fD) H.size) (cwV 0 hts gX12_bestRow_X12_looksForDrifts rfl rfl rfl (by decide +kernel) ⟨Nat.le_of_ble_eq_true rfl, Nat.le_of_ble_eq_true rfl⟩) ⟨fun a U g mk q => by obtain ⟨q0, q1, qP, qK, qD⟩ := q; exact ⟨q0, q1, qP, va_K.moved (u := U) (U := U.calling g mk a) (Vm.Alike.refl U.vm) qK, qD⟩, va_recv hK hP (ci := 14) (q0 := 0) rfl rfl, fun U hU hW => ⟨rfl, by rw [hU], by rw [hU]; exact hPc, va_K.moved hW.alike hKc, hDc.weaken (fun _ _ _ _ => trivial)⟩⟩ rfl rfl hl.1 rfl (lv_room (Nat.le_of_ble_eq_true rfl)) dX12_bestRow_1 ⟨Nat.le_of_ble_eq_true rfl, Nat.le_of_ble_eq_true rfl⟩) hS (fun q _ h => hFc q h) hFc (fun u tC H1 locs htC hvm hw_2 hB hz1 hk1 hS => ?_)
  obtain ⟨fB2_3, fD2_4⟩ := u
  try dsimp only at hw_2 hB
  obtain ⟨hP1, hK1, hD1⟩ := hB
  rw [htC] at hP1
  have hK1 := va_K.moved hvm.symm hK1
  obtain ⟨hP, hD⟩ := va_join (wr := [(aO, .inl (cO, 36, .inr (.inl fO))), (aN, .inl (cN, 36, .inr (.inl fN)))]) (w1 := [(m0, .inr (14, [.int 0, .ref aS, .ref aI, .int 0, .int 0, .int 0, .int 0, .int 0, .int 0, .ref aB, .ref aT, .int 0, .int 0, .ref aG, .ref aO, .ref aN, .ref aD, .long bv, .ref aY, .int 0, .int 0, .int 0, .int 0])), (aS, .inl (cS, 901, .inl s0)), (aB, .inl (cB, 6, .inl fB2_3)), (aD, .inl (cD, 36, .inl fD2_4))]) hP hD [0, 1, 2, 5] [3, 4] rfl rfl (by decide) (by decide) hk1 hFc hP1 hD1
  have hK := (hK.sub (tys' := [(cO, .long), (cN, .long)]) [2, 3] rfl).app hK1
  generalize H1 = H at hP hS ⊢
  have hP : va_P (dC, dI) vwCl [(aO, .inl (cO, 36, .inr (.inl fO))), (aN, .inl (cN, 36, .inr (.inl fN))), (m0, .inr (14, [.int 0, .ref aS, .ref aI, .int 0, .int 0, .int 0, .int 0, .int 0, .int 0, .ref aB, .ref aT, .int 0, .int 0, .ref aG, .ref aO, .ref aN, .ref aD, .long bv, .ref aY, .int 0, .int 0, .int 0, .int 0])), (aS, .inl (cS, 901, .inl s0)), (aB, .inl (cB, 6, .inl fB2_3)), (aD, .inl (cD, 36, .inl fD2_4))] H := hP
  have hD : va_D A [(aO, .inl (cO, 36, .inr (.inl fO))), (aN, .inl (cN, 36, .inr (.inl fN))), (m0, .inr (14, [.int 0, .ref aS, .ref aI, .int 0, .int 0, .int 0, .int 0, .int 0, .int 0, .ref aB, .ref aT, .int 0, .int 0, .ref aG, .ref aO, .ref aN, .ref aD, .long bv, .ref aY, .int 0, .int 0, .int 0, .int 0])), (aS, .inl (cS, 901, .inl s0)), (aB, .inl (cB, 6, .inl fB2_3)), (aD, .inl (cD, 36, .inl fD2_4))] := hD
  have hK : va_K (dC, dI) vwCl [(cO, .long), (cN, .long), (cS, .int), (cB, .int), (cD, .int)] s := hK
  refine lv_iload_n hx hb dX12_bestRow_4 rfl (lv_at hl 3 rfl) ?_
  refine lv_iconst (v := 1) hx hb dX12_bestRow_5 (by decide) ?_
  refine lv_icmp_ne (tgt := 14) hx hb dX12_bestRow_6 (by decide) (fun _ => ?_) (fun c_5 => absurd c_5 (by decide))
  refine lv_iload_n hx hb dX12_bestRow_14 rfl (lv_at hl 3 rfl) ?_
  refine lv_iconst (v := 2) hx hb dX12_bestRow_15 (by decide) ?_
  refine lv_icmp_ne (tgt := 24) hx hb dX12_bestRow_16 (by decide) (fun _ => ?_) (fun c_6 => absurd c_6 (by decide))
  refine lv_sipush (v := 512) hx hb dX12_bestRow_24 (by decide) ?_
  refine lv_istore (lv' := [(4, .int 512), (0, .ref m0), (1, .int (nI j)), (2, .int (nI o)), (3, .int 3)]) hx hb dX12_bestRow_27 hl (by decide) rfl (fun ls hl => ?_)
  refine lv_iconst (v := (-1)) hx hb dX12_bestRow_29 (by decide) ?_
  refine lv_istore (lv' := [(5, .int (-1)), (4, .int 512), (0, .ref m0), (1, .int (nI j)), (2, .int (nI o)), (3, .int 3)]) hx hb dX12_bestRow_30 hl (by decide) rfl (fun ls hl => ?_)
  refine lv_iconst (v := 0) hx hb dX12_bestRow_32 (by decide) ?_
  refine lv_istore (lv' := [(6, .int 0), (5, .int (-1)), (4, .int 512), (0, .ref m0), (1, .int (nI j)), (2, .int (nI o)), (3, .int 3)]) hx hb dX12_bestRow_33 hl (by decide) rfl (fun ls hl => ?_)
  have L35 : ∀ (nF : Nat) (i : Nat) (bs : Int32) (b : Int64) (f : Nat → Int64) (t : Nat → Int64), 512 - i < nF → (i ≤ 512) → (GI (fun q => ind (pth 3 j q) 3 o) i bs b) → ∀ (H : Heap) (locs : List Loc), va_K (dC, dI) vwCl [(cS, .int), (cB, .int), (cO, .long), (cN, .long), (cD, .int)] s → va_P (dC, dI) vwCl [(m0, .inr (14, [.int 0, .ref aS, .ref aI, .int 0, .int 0, .int 0, .int 0, .int 0, .int 0, .ref aB, .ref aT, .int 0, .int 0, .ref aG, .ref aO, .ref aN, .ref aD, .long b, .ref aY, .int 0, .int 0, .int 0, .int 0])), (aS, .inl (cS, 901, .inl s0)), (aB, .inl (cB, 6, .inl fB2_3)), (aO, .inl (cO, 36, .inr (.inl f))), (aN, .inl (cN, 36, .inr (.inl t))), (aD, .inl (cD, 36, .inl fD2_4))] H → va_D A [(m0, .inr (14, [.int 0, .ref aS, .ref aI, .int 0, .int 0, .int 0, .int 0, .int 0, .int 0, .ref aB, .ref aT, .int 0, .int 0, .ref aG, .ref aO, .ref aN, .ref aD, .long b, .ref aY, .int 0, .int 0, .int 0, .int 0])), (aS, .inl (cS, 901, .inl s0)), (aB, .inl (cB, 6, .inl fB2_3)), (aO, .inl (cO, 36, .inr (.inl f))), (aN, .inl (cN, 36, .inr (.inl t))), (aD, .inl (cD, 36, .inl fD2_4))] → va_S A s.heap H locs → ∀ (ls : Array Slot), lv_has ls 10 [(0, .ref m0), (1, .int (nI j)), (2, .int (nI o)), (3, .int 3), (4, .int 512), (5, .int bs), (6, .int (nI i))] → W p l e ({ frames := 5, cells := 0, slots := 0, locals := 113 } : Room) s m args below meth c H locs 0 0 Q (F0 m 35 ls []) := by
    intro nF
    induction nF with
    | zero => intro i bs b f t hm; exact absurd hm (Nat.not_lt_zero _)
    | succ nF ih35 =>
      intro i bs b f t hm hi hg H locs hK hP hD hS ls hl
      refine lv_iload hx hb dX12_bestRow_35 (lv_at hl 6 rfl) ?_
      refine lv_iload hx hb dX12_bestRow_37 (lv_at hl 4 rfl) ?_
      refine lv_icmp_ge (tgt := 132) hx hb dX12_bestRow_39 (by decide) (fun c_7 => ?_) (fun c_7 => ?_)
      · skip
        have c_7 : 512 ≤ i := (nI_leI (a := 512) (b := i) (by omega) (by omega)).mp c_7
        refine lv_iload hx hb dX12_bestRow_132 (lv_at hl 5 rfl) ?_
        rw [hQ]
        have hP9 := hP.sub (ws' := [(m0, .inr (14, [.int 0, .ref aS, .ref aI, .int 0, .int 0, .int 0, .int 0, .int 0, .int 0, .ref aB, .ref aT, .int 0, .int 0, .ref aG, .ref aO, .ref aN, .ref aD, .long b, .ref aY, .int 0, .int 0, .int 0, .int 0])), (aS, .inl (cS, 901, .inl s0)), (aB, .inl (cB, 6, .inl fB2_3)), (aO, .inl (cO, 36, .inr (.inl f))), (aN, .inl (cN, 36, .inr (.inl t))), (aD, .inl (cD, 36, .inl fD2_4))]) [0, 1, 2, 3, 4, 5] rfl
        have hD9 := hD.sub (ws' := [(m0, .inr (14, [.int 0, .ref aS, .ref aI, .int 0, .int 0, .int 0, .int 0, .int 0, .int 0, .ref aB, .ref aT, .int 0, .int 0, .ref aG, .ref aO, .ref aN, .ref aD, .long b, .ref aY, .int 0, .int 0, .int 0, .int 0])), (aS, .inl (cS, 901, .inl s0)), (aB, .inl (cB, 6, .inl fB2_3)), (aO, .inl (cO, 36, .inr (.inl f))), (aN, .inl (cN, 36, .inr (.inl t))), (aD, .inl (cD, 36, .inl fD2_4))]) [0, 1, 2, 3, 4, 5] (by decide) rfl
        have hK9 := hK.sub (tys' := [(cS, .int), (cB, .int), (cO, .long), (cN, .long), (cD, .int)]) [0, 1, 2, 3, 4] rfl
        exact W.iret (v := bs) hx hb hr (fun tQ htQ hWQ => ⟨⟨bs, (fB2_3, f, t, fD2_4, b), rfl, (by have e : i = 512 := (by omega); rw [e] at hg; exact hg.2 (by omega)), by rw [htQ]; exact hP9, va_K.moved hWQ.alike hK9, hD9⟩, hS.F htQ⟩) hS.2.2 dX12_bestRow_134
      · skip
        have c_7 : ¬ 512 ≤ i := fun q => c_7 ((nI_leI (a := 512) (b := i) (by omega) (by omega)).mpr q)
        refine lv_aload_n hx hb dX12_bestRow_42 rfl (lv_at hl 0 rfl) ?_
        refine lv_iload_n hx hb dX12_bestRow_43 rfl (lv_at hl 1 rfl) ?_
        refine lv_iload hx hb dX12_bestRow_44 (lv_at hl 6 rfl) ?_
        refine lv_iload_n hx hb dX12_bestRow_46 rfl (lv_at hl 3 rfl) ?_
        have hPc := hP.sub (ws' := [(m0, .inr (14, [.int 0, .ref aS, .ref aI, .int 0, .int 0, .int 0, .int 0, .int 0, .int 0, .ref aB, .ref aT, .int 0, .int 0, .ref aG, .ref aO, .ref aN, .ref aD, .long b, .ref aY, .int 0, .int 0, .int 0, .int 0])), (aS, .inl (cS, 901, .inl s0)), (aO, .inl (cO, 36, .inr (.inl f))), (aN, .inl (cN, 36, .inr (.inl t))), (aD, .inl (cD, 36, .inl fD2_4))]) [0, 1, 3, 4, 5] rfl
        have hDc := hD.sub (ws' := [(m0, .inr (14, [.int 0, .ref aS, .ref aI, .int 0, .int 0, .int 0, .int 0, .int 0, .int 0, .ref aB, .ref aT, .int 0, .int 0, .ref aG, .ref aO, .ref aN, .ref aD, .long b, .ref aY, .int 0, .int 0, .int 0, .int 0])), (aS, .inl (cS, 901, .inl s0)), (aO, .inl (cO, 36, .inr (.inl f))), (aN, .inl (cN, 36, .inr (.inl t))), (aD, .inl (cD, 36, .inl fD2_4))]) [0, 1, 3, 4, 5] (by decide) rfl
        have hKc := hK.sub (tys' := [(cS, .int), (cO, .long), (cN, .long), (cD, .int)]) [0, 2, 3, 4] rfl
        have hFc := va_free (wc := [(m0, .inr (14, [.int 0, .ref aS, .ref aI, .int 0, .int 0, .int 0, .int 0, .int 0, .int 0, .ref aB, .ref aT, .int 0, .int 0, .ref aG, .ref aO, .ref aN, .ref aD, .long b, .ref aY, .int 0, .int 0, .int 0, .int 0])), (aS, .inl (cS, 901, .inl s0)), (aO, .inl (cO, 36, .inr (.inl f))), (aN, .inl (cN, 36, .inr (.inl t))), (aD, .inl (cD, 36, .inl fD2_4))]) hD hS hA [0, 1, 3, 4, 5] rfl
        refine va_callv (va_runV (As := [.int (nI j), .int (nI i), .int 3]) (rest := []) ⟨hx, hb, hml, hown, hts⟩ (c_goesBy3 l dC dI m0 aS aI aB aT aG aO aN aD aY b cS cO cN cD (f) (t) (fD2_4) j i H.size (by omega) (by omega) hw_2) (cwV 3 hts gX12_bestRow_X12_goesBy rfl rfl rfl (by decide +kernel) ⟨Nat.le_of_ble_eq_true rfl, Nat.le_of_ble_eq_true rfl⟩) ⟨fun a U g mk q => by obtain ⟨q0, q1, qP, qK, qD⟩ := q; exact ⟨q0, q1, qP, va_K.moved (u := U) (U := U.calling g mk a) (Vm.Alike.refl U.vm) qK, qD⟩, va_recv hK hP (ci := 14) (q0 := 0) rfl rfl, fun U hU hW => ⟨rfl, by rw [hU], by rw [hU]; exact hPc, va_K.moved hW.alike hKc, hDc.weaken (fun _ _ _ _ => trivial)⟩⟩ rfl rfl hl.1 rfl (lv_room (Nat.le_of_ble_eq_true rfl)) dX12_bestRow_47 ⟨Nat.le_of_ble_eq_true rfl, Nat.le_of_ble_eq_true rfl⟩) hS (fun q _ h => hFc q h) hFc (fun u tC H1 locs htC hvm hw_9 hB hz1 hk1 hS => ?_)
        obtain ⟨fO2_10, fN2_11⟩ := u
        try dsimp only at hw_9 hB
        obtain ⟨hP1, hK1, hD1⟩ := hB
        rw [htC] at hP1
        have hK1 := va_K.moved hvm.symm hK1
        obtain ⟨hP, hD⟩ := va_join (wr := [(aB, .inl (cB, 6, .inl fB2_3))]) (w1 := [(m0, .inr (14, [.int 0, .ref aS, .ref aI, .int 0, .int 0, .int 0, .int 0, .int 0, .int 0, .ref aB, .ref aT, .int 0, .int 0, .ref aG, .ref aO, .ref aN, .ref aD, .long b, .ref aY, .int 0, .int 0, .int 0, .int 0])), (aS, .inl (cS, 901, .inl s0)), (aO, .inl (cO, 36, .inr (.inl fO2_10))), (aN, .inl (cN, 36, .inr (.inl fN2_11))), (aD, .inl (cD, 36, .inl fD2_4))]) hP hD [0, 1, 3, 4, 5] [2] rfl rfl (by decide) (by decide) hk1 hFc hP1 hD1
        have hK := (hK.sub (tys' := [(cB, .int)]) [1] rfl).app hK1
        generalize H1 = H at hP hS ⊢
        have hP : va_P (dC, dI) vwCl [(aB, .inl (cB, 6, .inl fB2_3)), (m0, .inr (14, [.int 0, .ref aS, .ref aI, .int 0, .int 0, .int 0, .int 0, .int 0, .int 0, .ref aB, .ref aT, .int 0, .int 0, .ref aG, .ref aO, .ref aN, .ref aD, .long b, .ref aY, .int 0, .int 0, .int 0, .int 0])), (aS, .inl (cS, 901, .inl s0)), (aO, .inl (cO, 36, .inr (.inl fO2_10))), (aN, .inl (cN, 36, .inr (.inl fN2_11))), (aD, .inl (cD, 36, .inl fD2_4))] H := hP
        have hD : va_D A [(aB, .inl (cB, 6, .inl fB2_3)), (m0, .inr (14, [.int 0, .ref aS, .ref aI, .int 0, .int 0, .int 0, .int 0, .int 0, .int 0, .ref aB, .ref aT, .int 0, .int 0, .ref aG, .ref aO, .ref aN, .ref aD, .long b, .ref aY, .int 0, .int 0, .int 0, .int 0])), (aS, .inl (cS, 901, .inl s0)), (aO, .inl (cO, 36, .inr (.inl fO2_10))), (aN, .inl (cN, 36, .inr (.inl fN2_11))), (aD, .inl (cD, 36, .inl fD2_4))] := hD
        have hK : va_K (dC, dI) vwCl [(cB, .int), (cS, .int), (cO, .long), (cN, .long), (cD, .int)] s := hK
        refine lv_iload_n hx hb dX12_bestRow_50 rfl (lv_at hl 2 rfl) ?_
        refine lv_iconst (v := (-1)) hx hb dX12_bestRow_51 (by decide) ?_
        refine lv_icmp_ne (tgt := 63) hx hb dX12_bestRow_52 (by decide) (fun c_12 => ?_) (fun c_12 => absurd c_12 (g_ne (by omega)))
        refine lv_aload_n hx hb dX12_bestRow_63 rfl (lv_at hl 0 rfl) ?_
        refine va_get (D := (dC, dI)) (ci := 14) (v := .ref aO) (C := RX12) (T := TX12) (N := 23) hx hb hts kc_bestRow3_0 hown hK hP 1 rfl rfl 14 (by decide) (hts (.fieldLink RX12 28 "MistHeapsModel" "often" "[J") kc_bestRow3_1) (fun _ h9 => h9) rfl dX12_bestRow_64 ?_
        refine lv_iload_n hx hb dX12_bestRow_67 rfl (lv_at hl 2 rfl) ?_
        refine va_lald hx hb hK hP 3 2 rfl rfl (vp_in_nI (n := o) (N := 36) (by omega) (by omega)) dX12_bestRow_68 ?_
        refine ql_as (y := ind (pth 3 j i) 3 o) ((show fO2_10 (nI o).toNatClampNeg = fO2_10 o from by rw [nI_clamp (by omega)]).trans (hw_9 o (by omega))) ?_
        refine lv_lstore (lv' := [(7, .long (ind (pth 3 j i) 3 o)), (0, .ref m0), (1, .int (nI j)), (2, .int (nI o)), (3, .int 3), (4, .int 512), (5, .int bs), (6, .int (nI i))]) hx hb dX12_bestRow_69 hl (by decide) rfl (fun ls hl => ?_)
        refine lv_iload hx hb dX12_bestRow_71 (lv_at hl 6 rfl) ?_
        refine lv_iconst (v := (-1)) hx hb dX12_bestRow_73 (by decide) ?_
        refine lv_icmp_eq (tgt := 87) hx hb dX12_bestRow_74 (by decide) (fun c_13 => ?_) (fun c_13 => ?_)
        · skip
          refine lv_iconst (v := 1) hx hb dX12_bestRow_87 (by decide) ?_
          refine lv_goto (tgt := 92) hx hb dX12_bestRow_88 (by decide) ?_
          refine lv_istore (lv' := [(9, .int 1), (7, .long (ind (pth 3 j i) 3 o)), (0, .ref m0), (1, .int (nI j)), (2, .int (nI o)), (3, .int 3), (4, .int 512), (5, .int bs), (6, .int (nI i))]) hx hb dX12_bestRow_92 hl (by decide) rfl (fun ls hl => ?_)
          refine lv_iload hx hb dX12_bestRow_94 (lv_at hl 0 rfl) ?_
          refine lv_if_eq (tgt := 104) hx hb dX12_bestRow_96 (by decide) (fun c_14 => absurd c_14 (by decide)) (fun _ => ?_)
          refine lv_iload hx hb dX12_bestRow_99 (lv_at hl 8 rfl) ?_
          refine lv_goto (tgt := 106) hx hb dX12_bestRow_101 (by decide) ?_
          refine lv_istore (lv' := [(5, .int (nI i)), (9, .int 1), (7, .long (ind (pth 3 j i) 3 o)), (0, .ref m0), (1, .int (nI j)), (2, .int (nI o)), (3, .int 3), (4, .int 512), (6, .int (nI i))]) hx hb dX12_bestRow_106 hl (by decide) rfl (fun ls hl => ?_)
          refine lv_aload_n hx hb dX12_bestRow_108 rfl (lv_at hl 3 rfl) ?_
          refine lv_iload hx hb dX12_bestRow_109 (lv_at hl 1 rfl) ?_
          refine lv_if_eq (tgt := 119) hx hb dX12_bestRow_111 (by decide) (fun c_15 => absurd c_15 (by decide)) (fun _ => ?_)
          refine lv_lload hx hb dX12_bestRow_114 (lv_at hl 2 rfl) ?_
          refine lv_goto (tgt := 123) hx hb dX12_bestRow_116 (by decide) ?_
          refine va_put (D := (dC, dI)) (ci := 14) (v := .long (ind (pth 3 j i) 3 o)) (ty := .long) (C := RX12) (T := TX12) (N := 23) hx hb hts kc_bestRow3_0 tyX12 tyX12_ok nmX12 hown hK hP hD hS 1 rfl rfl 17 (by decide) (hts (.fieldLink RX12 236 "MistHeapsModel" "bestOften" "J") kc_bestRow3_2) (fun _ h9 => h9) rfl (by decide +kernel) rfl rfl (Nat.le_of_ble_eq_true rfl) dX12_bestRow_123 (fun H locs hP hD hS => ?_)
          have hP : va_P (dC, dI) vwCl [(aB, .inl (cB, 6, .inl fB2_3)), (m0, .inr (14, [.int 0, .ref aS, .ref aI, .int 0, .int 0, .int 0, .int 0, .int 0, .int 0, .ref aB, .ref aT, .int 0, .int 0, .ref aG, .ref aO, .ref aN, .ref aD, .long (ind (pth 3 j i) 3 o), .ref aY, .int 0, .int 0, .int 0, .int 0])), (aS, .inl (cS, 901, .inl s0)), (aO, .inl (cO, 36, .inr (.inl fO2_10))), (aN, .inl (cN, 36, .inr (.inl fN2_11))), (aD, .inl (cD, 36, .inl fD2_4))] H := hP
          have hD : va_D A [(aB, .inl (cB, 6, .inl fB2_3)), (m0, .inr (14, [.int 0, .ref aS, .ref aI, .int 0, .int 0, .int 0, .int 0, .int 0, .int 0, .ref aB, .ref aT, .int 0, .int 0, .ref aG, .ref aO, .ref aN, .ref aD, .long (ind (pth 3 j i) 3 o), .ref aY, .int 0, .int 0, .int 0, .int 0])), (aS, .inl (cS, 901, .inl s0)), (aO, .inl (cO, 36, .inr (.inl fO2_10))), (aN, .inl (cN, 36, .inr (.inl fN2_11))), (aD, .inl (cD, 36, .inl fD2_4))] := hD
          refine lv_iinc (v := nI (i + 1)) (lv' := [(6, .int (nI (i + 1))), (5, .int (nI i)), (9, .int 1), (7, .long (ind (pth 3 j i) 3 o)), (0, .ref m0), (1, .int (nI j)), (2, .int (nI o)), (3, .int 3), (4, .int 512)]) hx hb dX12_bestRow_126 hl (k := 8) rfl (nI_add i 1) (by decide) rfl (fun ls hl => ?_)
          refine lv_goto (tgt := 35) hx hb dX12_bestRow_129 (by decide) ?_
          exact ih35 _ _ _ _ _ (by omega) (by omega) (GI_A (v := (fun q => ind (pth 3 j q) 3 o)) (by omega) hg c_13 (ind_ge _ _ _ (by omega))) _ _ (hK.sub [1, 0, 2, 3, 4] rfl) (hP.sub [1, 2, 0, 3, 4, 5] rfl) (hD.sub [1, 2, 0, 3, 4, 5] (by decide) rfl) hS ls (lv_sub hl [4, 5, 6, 7, 8, 1, 0] rfl)
        · skip
          refine lv_lload hx hb dX12_bestRow_77 (lv_at hl 0 rfl) ?_
          refine lv_aload_n hx hb dX12_bestRow_79 rfl (lv_at hl 1 rfl) ?_
          refine va_get (D := (dC, dI)) (ci := 14) (v := .long b) (C := RX12) (T := TX12) (N := 23) hx hb hts kc_bestRow3_0 hown hK hP 1 rfl rfl 17 (by decide) (hts (.fieldLink RX12 236 "MistHeapsModel" "bestOften" "J") kc_bestRow3_2) (fun _ h9 => h9) rfl dX12_bestRow_80 ?_
          refine W.lcmp hx hb dX12_bestRow_83 ?_
          refine lv_if_le (tgt := 91) hx hb dX12_bestRow_84 (by decide) (fun c_16 => ?_) (fun c_16 => ?_)
          · skip
            rw [lg_cmp_le] at c_16
            refine lv_iconst (v := 0) hx hb dX12_bestRow_91 (by decide) ?_
            refine lv_istore (lv' := [(9, .int 0), (7, .long (ind (pth 3 j i) 3 o)), (0, .ref m0), (1, .int (nI j)), (2, .int (nI o)), (3, .int 3), (4, .int 512), (5, .int bs), (6, .int (nI i))]) hx hb dX12_bestRow_92 hl (by decide) rfl (fun ls hl => ?_)
            refine lv_iload hx hb dX12_bestRow_94 (lv_at hl 0 rfl) ?_
            refine lv_if_eq (tgt := 104) hx hb dX12_bestRow_96 (by decide) (fun _ => ?_) (fun c_17 => absurd c_17 (by decide))
            refine lv_iload hx hb dX12_bestRow_104 (lv_at hl 7 rfl) ?_
            refine lv_istore (lv' := [(5, .int bs), (9, .int 0), (7, .long (ind (pth 3 j i) 3 o)), (0, .ref m0), (1, .int (nI j)), (2, .int (nI o)), (3, .int 3), (4, .int 512), (6, .int (nI i))]) hx hb dX12_bestRow_106 hl (by decide) rfl (fun ls hl => ?_)
            refine lv_aload_n hx hb dX12_bestRow_108 rfl (lv_at hl 3 rfl) ?_
            refine lv_iload hx hb dX12_bestRow_109 (lv_at hl 1 rfl) ?_
            refine lv_if_eq (tgt := 119) hx hb dX12_bestRow_111 (by decide) (fun _ => ?_) (fun c_18 => absurd c_18 (by decide))
            refine lv_aload_n hx hb dX12_bestRow_119 rfl (lv_at hl 3 rfl) ?_
            refine va_get (D := (dC, dI)) (ci := 14) (v := .long b) (C := RX12) (T := TX12) (N := 23) hx hb hts kc_bestRow3_0 hown hK hP 1 rfl rfl 17 (by decide) (hts (.fieldLink RX12 236 "MistHeapsModel" "bestOften" "J") kc_bestRow3_2) (fun _ h9 => h9) rfl dX12_bestRow_120 ?_
            refine va_put (D := (dC, dI)) (ci := 14) (v := .long b) (ty := .long) (C := RX12) (T := TX12) (N := 23) hx hb hts kc_bestRow3_0 tyX12 tyX12_ok nmX12 hown hK hP hD hS 1 rfl rfl 17 (by decide) (hts (.fieldLink RX12 236 "MistHeapsModel" "bestOften" "J") kc_bestRow3_2) (fun _ h9 => h9) rfl (by decide +kernel) rfl rfl (Nat.le_of_ble_eq_true rfl) dX12_bestRow_123 (fun H locs hP hD hS => ?_)
            have hP : va_P (dC, dI) vwCl [(aB, .inl (cB, 6, .inl fB2_3)), (m0, .inr (14, [.int 0, .ref aS, .ref aI, .int 0, .int 0, .int 0, .int 0, .int 0, .int 0, .ref aB, .ref aT, .int 0, .int 0, .ref aG, .ref aO, .ref aN, .ref aD, .long b, .ref aY, .int 0, .int 0, .int 0, .int 0])), (aS, .inl (cS, 901, .inl s0)), (aO, .inl (cO, 36, .inr (.inl fO2_10))), (aN, .inl (cN, 36, .inr (.inl fN2_11))), (aD, .inl (cD, 36, .inl fD2_4))] H := hP
            have hD : va_D A [(aB, .inl (cB, 6, .inl fB2_3)), (m0, .inr (14, [.int 0, .ref aS, .ref aI, .int 0, .int 0, .int 0, .int 0, .int 0, .int 0, .ref aB, .ref aT, .int 0, .int 0, .ref aG, .ref aO, .ref aN, .ref aD, .long b, .ref aY, .int 0, .int 0, .int 0, .int 0])), (aS, .inl (cS, 901, .inl s0)), (aO, .inl (cO, 36, .inr (.inl fO2_10))), (aN, .inl (cN, 36, .inr (.inl fN2_11))), (aD, .inl (cD, 36, .inl fD2_4))] := hD
            refine lv_iinc (v := nI (i + 1)) (lv' := [(6, .int (nI (i + 1))), (5, .int bs), (9, .int 0), (7, .long (ind (pth 3 j i) 3 o)), (0, .ref m0), (1, .int (nI j)), (2, .int (nI o)), (3, .int 3), (4, .int 512)]) hx hb dX12_bestRow_126 hl (k := 8) rfl (nI_add i 1) (by decide) rfl (fun ls hl => ?_)
            refine lv_goto (tgt := 35) hx hb dX12_bestRow_129 (by decide) ?_
            exact ih35 _ _ _ _ _ (by omega) (by omega) (GI_B1 (v := (fun q => ind (pth 3 j q) 3 o)) hg c_13 c_16) _ _ (hK.sub [1, 0, 2, 3, 4] rfl) (hP.sub [1, 2, 0, 3, 4, 5] rfl) (hD.sub [1, 2, 0, 3, 4, 5] (by decide) rfl) hS ls (lv_sub hl [4, 5, 6, 7, 8, 1, 0] rfl)
          · skip
            rw [lg_cmp_le] at c_16
            refine lv_iconst (v := 1) hx hb dX12_bestRow_87 (by decide) ?_
            refine lv_goto (tgt := 92) hx hb dX12_bestRow_88 (by decide) ?_
            refine lv_istore (lv' := [(9, .int 1), (7, .long (ind (pth 3 j i) 3 o)), (0, .ref m0), (1, .int (nI j)), (2, .int (nI o)), (3, .int 3), (4, .int 512), (5, .int bs), (6, .int (nI i))]) hx hb dX12_bestRow_92 hl (by decide) rfl (fun ls hl => ?_)
            refine lv_iload hx hb dX12_bestRow_94 (lv_at hl 0 rfl) ?_
            refine lv_if_eq (tgt := 104) hx hb dX12_bestRow_96 (by decide) (fun c_19 => absurd c_19 (by decide)) (fun _ => ?_)
            refine lv_iload hx hb dX12_bestRow_99 (lv_at hl 8 rfl) ?_
            refine lv_goto (tgt := 106) hx hb dX12_bestRow_101 (by decide) ?_
            refine lv_istore (lv' := [(5, .int (nI i)), (9, .int 1), (7, .long (ind (pth 3 j i) 3 o)), (0, .ref m0), (1, .int (nI j)), (2, .int (nI o)), (3, .int 3), (4, .int 512), (6, .int (nI i))]) hx hb dX12_bestRow_106 hl (by decide) rfl (fun ls hl => ?_)
            refine lv_aload_n hx hb dX12_bestRow_108 rfl (lv_at hl 3 rfl) ?_
            refine lv_iload hx hb dX12_bestRow_109 (lv_at hl 1 rfl) ?_
            refine lv_if_eq (tgt := 119) hx hb dX12_bestRow_111 (by decide) (fun c_20 => absurd c_20 (by decide)) (fun _ => ?_)
            refine lv_lload hx hb dX12_bestRow_114 (lv_at hl 2 rfl) ?_
            refine lv_goto (tgt := 123) hx hb dX12_bestRow_116 (by decide) ?_
            refine va_put (D := (dC, dI)) (ci := 14) (v := .long (ind (pth 3 j i) 3 o)) (ty := .long) (C := RX12) (T := TX12) (N := 23) hx hb hts kc_bestRow3_0 tyX12 tyX12_ok nmX12 hown hK hP hD hS 1 rfl rfl 17 (by decide) (hts (.fieldLink RX12 236 "MistHeapsModel" "bestOften" "J") kc_bestRow3_2) (fun _ h9 => h9) rfl (by decide +kernel) rfl rfl (Nat.le_of_ble_eq_true rfl) dX12_bestRow_123 (fun H locs hP hD hS => ?_)
            have hP : va_P (dC, dI) vwCl [(aB, .inl (cB, 6, .inl fB2_3)), (m0, .inr (14, [.int 0, .ref aS, .ref aI, .int 0, .int 0, .int 0, .int 0, .int 0, .int 0, .ref aB, .ref aT, .int 0, .int 0, .ref aG, .ref aO, .ref aN, .ref aD, .long (ind (pth 3 j i) 3 o), .ref aY, .int 0, .int 0, .int 0, .int 0])), (aS, .inl (cS, 901, .inl s0)), (aO, .inl (cO, 36, .inr (.inl fO2_10))), (aN, .inl (cN, 36, .inr (.inl fN2_11))), (aD, .inl (cD, 36, .inl fD2_4))] H := hP
            have hD : va_D A [(aB, .inl (cB, 6, .inl fB2_3)), (m0, .inr (14, [.int 0, .ref aS, .ref aI, .int 0, .int 0, .int 0, .int 0, .int 0, .int 0, .ref aB, .ref aT, .int 0, .int 0, .ref aG, .ref aO, .ref aN, .ref aD, .long (ind (pth 3 j i) 3 o), .ref aY, .int 0, .int 0, .int 0, .int 0])), (aS, .inl (cS, 901, .inl s0)), (aO, .inl (cO, 36, .inr (.inl fO2_10))), (aN, .inl (cN, 36, .inr (.inl fN2_11))), (aD, .inl (cD, 36, .inl fD2_4))] := hD
            refine lv_iinc (v := nI (i + 1)) (lv' := [(6, .int (nI (i + 1))), (5, .int (nI i)), (9, .int 1), (7, .long (ind (pth 3 j i) 3 o)), (0, .ref m0), (1, .int (nI j)), (2, .int (nI o)), (3, .int 3), (4, .int 512)]) hx hb dX12_bestRow_126 hl (k := 8) rfl (nI_add i 1) (by decide) rfl (fun ls hl => ?_)
            refine lv_goto (tgt := 35) hx hb dX12_bestRow_129 (by decide) ?_
            exact ih35 _ _ _ _ _ (by omega) (by omega) (GI_B2 (v := (fun q => ind (pth 3 j q) 3 o)) hg c_13 c_16) _ _ (hK.sub [1, 0, 2, 3, 4] rfl) (hP.sub [1, 2, 0, 3, 4, 5] rfl) (hD.sub [1, 2, 0, 3, 4, 5] (by decide) rfl) hS ls (lv_sub hl [4, 5, 6, 7, 8, 1, 0] rfl)
  exact L35 _ (0) _ _ _ _ (Nat.lt_succ_self _) (by omega) (GI_0) _ _ (hK.sub [2, 3, 0, 1, 4] rfl) (hP.sub [2, 3, 4, 0, 1, 5] rfl) (hD.sub [2, 3, 4, 0, 1, 5] (by decide) rfl) hS ls (lv_sub hl [3, 4, 5, 6, 2, 1, 0] rfl)

theorem kc_safeRow3_0 : ∀ w ∈ wsX120, w ∈ wsX12_bestRow := by decide +kernel
theorem kc_safeRow3_1 : (.fieldLink RX12 236 "MistHeapsModel" "bestOften" "J" : Cond) ∈ wsX12_bestRow := by decide +kernel
set_option maxHeartbeats 4000000 in
set_option maxRecDepth 100000 in
theorem c_safeRow3 (l : Launch) (dC : Nat → ClassId) (dI : Nat → Nat → Nat) (m0 aS aI aB aT aG aO aN aD aY : Nat) (bv : Int64) (cS cB cO cN cD : ClassId) (fB fD : Nat → Int32) (fO fN : Nat → Int64) (j : Nat) (sz : Nat) (zj : j < 36) : Met l yX12_bestRow wsX12_bestRow ({ frames := 5, cells := 0, slots := 0, locals := 113 } : Room) (va_Pc [.ref m0, .int (nI j), .int (-1), .int 3] (fun U => U.heap.size = sz ∧ va_P (dC, dI) vwCl [(m0, .inr (14, [.int 0, .ref aS, .ref aI, .int 0, .int 0, .int 0, .int 0, .int 0, .int 0, .ref aB, .ref aT, .int 0, .int 0, .ref aG, .ref aO, .ref aN, .ref aD, .long bv, .ref aY, .int 0, .int 0, .int 0, .int 0])), (aS, .inl (cS, 901, .inl s0)), (aB, .inl (cB, 6, .inl fB)), (aO, .inl (cO, 36, .inr (.inl fO))), (aN, .inl (cN, 36, .inr (.inl fN))), (aD, .inl (cD, 36, .inl fD))] U.heap ∧ va_K (dC, dI) vwCl [(cS, .int), (cB, .int), (cO, .long), (cN, .long), (cD, .int)] U ∧ va_D (fun _ => True) [(m0, .inr (14, [.int 0, .ref aS, .ref aI, .int 0, .int 0, .int 0, .int 0, .int 0, .int 0, .ref aB, .ref aT, .int 0, .int 0, .ref aG, .ref aO, .ref aN, .ref aD, .long bv, .ref aY, .int 0, .int 0, .int 0, .int 0])), (aS, .inl (cS, 901, .inl s0)), (aB, .inl (cB, 6, .inl fB)), (aO, .inl (cO, 36, .inr (.inl fO))), (aN, .inl (cN, 36, .inr (.inl fN))), (aD, .inl (cD, 36, .inl fD))])) (va_Qi (fun (r : Int32) (u : (Nat → Int32) × (Nat → Int64) × (Nat → Int64) × (Nat → Int32) × (Int64)) => match u with | (fB2, fO2, fN2, fD2, bv2) => r = nI (GG (fun _ : Nat => (0 : Int64)) 512).2 ∧ bv2 = (GG (fun _ : Nat => (0 : Int64)) 512).1) (fun (u : (Nat → Int32) × (Nat → Int64) × (Nat → Int64) × (Nat → Int32) × (Int64)) (t : State) => match u with | (fB2, fO2, fN2, fD2, bv2) => va_P (dC, dI) vwCl [(m0, .inr (14, [.int 0, .ref aS, .ref aI, .int 0, .int 0, .int 0, .int 0, .int 0, .int 0, .ref aB, .ref aT, .int 0, .int 0, .ref aG, .ref aO, .ref aN, .ref aD, .long bv2, .ref aY, .int 0, .int 0, .int 0, .int 0])), (aS, .inl (cS, 901, .inl s0)), (aB, .inl (cB, 6, .inl fB2)), (aO, .inl (cO, 36, .inr (.inl fO2))), (aN, .inl (cN, 36, .inr (.inl fN2))), (aD, .inl (cD, 36, .inl fD2))] t.heap ∧ va_K (dC, dI) vwCl [(cS, .int), (cB, .int), (cO, .long), (cN, .long), (cD, .int)] t ∧ va_D (va_A [(m0, .inr (14, [.int 0, .ref aS, .ref aI, .int 0, .int 0, .int 0, .int 0, .int 0, .int 0, .ref aB, .ref aT, .int 0, .int 0, .ref aG, .ref aO, .ref aN, .ref aD, .long bv, .ref aY, .int 0, .int 0, .int 0, .int 0])), (aS, .inl (cS, 901, .inl s0)), (aB, .inl (cB, 6, .inl fB)), (aO, .inl (cO, 36, .inr (.inl fO))), (aN, .inl (cN, 36, .inr (.inl fN))), (aD, .inl (cD, 36, .inl fD))] sz) [(m0, .inr (14, [.int 0, .ref aS, .ref aI, .int 0, .int 0, .int 0, .int 0, .int 0, .int 0, .ref aB, .ref aT, .int 0, .int 0, .ref aG, .ref aO, .ref aN, .ref aD, .long bv2, .ref aY, .int 0, .int 0, .int 0, .int 0])), (aS, .inl (cS, 901, .inl s0)), (aB, .inl (cB, 6, .inl fB2)), (aO, .inl (cO, 36, .inr (.inl fO2))), (aN, .inl (cN, 36, .inr (.inl fN2))), (aD, .inl (cD, 36, .inl fD2))]) (va_A [(m0, .inr (14, [.int 0, .ref aS, .ref aI, .int 0, .int 0, .int 0, .int 0, .int 0, .int 0, .ref aB, .ref aT, .int 0, .int 0, .ref aG, .ref aO, .ref aN, .ref aD, .long bv, .ref aY, .int 0, .int 0, .int 0, .int 0])), (aS, .inl (cS, 901, .inl s0)), (aB, .inl (cB, 6, .inl fB)), (aO, .inl (cO, 36, .inr (.inl fO))), (aN, .inl (cN, 36, .inr (.inl fN))), (aD, .inl (cD, 36, .inl fD))] sz)) 0 0 (va_A [(m0, .inr (14, [.int 0, .ref aS, .ref aI, .int 0, .int 0, .int 0, .int 0, .int 0, .int 0, .ref aB, .ref aT, .int 0, .int 0, .ref aG, .ref aO, .ref aN, .ref aD, .long bv, .ref aY, .int 0, .int 0, .int 0, .int 0])), (aS, .inl (cS, 901, .inl s0)), (aB, .inl (cB, 6, .inl fB)), (aO, .inl (cO, 36, .inr (.inl fO))), (aN, .inl (cN, 36, .inr (.inl fN))), (aD, .inl (cD, 36, .inl fD))] sz) := by
  refine met_ofQ (cc := cX12_bestRow) (maxL := 10) (ret := (some .int)) (by decide) rfl ?_
  intro p e s m args below meth c s₁ Q B hml hv hQ
  obtain ⟨rfl, hsz, hP, hK, hD0⟩ := hv
  have hx := B.exec
  have hb := B.bytes
  have hr := B.returns
  have hts := atoms_spec (ws := wsX12_bestRow) B.pre
  have hown : s.vm.findClass RX12 = some m.cls := findClass_of_methodNamed B.named
  have hlocks := B.notSynchronized
  subst hsz
  have hD := hD0.self (sz := s.heap.size)
  generalize hAe : va_A [(m0, .inr (14, [.int 0, .ref aS, .ref aI, .int 0, .int 0, .int 0, .int 0, .int 0, .int 0, .ref aB, .ref aT, .int 0, .int 0, .ref aG, .ref aO, .ref aN, .ref aD, .long bv, .ref aY, .int 0, .int 0, .int 0, .int 0])), (aS, .inl (cS, 901, .inl s0)), (aB, .inl (cB, 6, .inl fB)), (aO, .inl (cO, 36, .inr (.inl fO))), (aN, .inl (cN, 36, .inr (.inl fN))), (aD, .inl (cD, 36, .inl fD))] s.heap.size = A at hD hQ ⊢
  have hA : ∀ q : Nat, s.heap.size ≤ q → A q := fun q h => by rw [← hAe]; exact Or.inr h
  have hS : va_S A s.heap s.heap [] := va_S.rf
  have hl := lv_entry [.ref m0, .int (nI j), .int (-1), .int 3] (n := 10) (Nat.le_of_ble_eq_true rfl)
  rw [lg_entry_eq]
  generalize (lg_sl [.ref m0, .int (nI j), .int (-1), .int 3] ++ List.replicate (10 - (lg_sl [.ref m0, .int (nI j), .int (-1), .int 3]).length) Slot.unset).toArray = ls at hl ⊢
  generalize hag : ([.ref m0, .int (nI j), .int (-1), .int 3] : List Value).toArray = args at hts hQ ⊢
  have hl : lv_has ls 10 [(0, .ref m0), (1, .int (nI j)), (2, .int (-1)), (3, .int 3)] := hl
  obtain ⟨H, hH⟩ : ∃ H : Heap, H = s.heap := ⟨_, rfl⟩
  rw [← hH] at hP
  rw [← hH]
  have hS : va_S A s.heap H [] := by rw [hH]; exact hS
  obtain ⟨locs, hlo⟩ : ∃ L : List Loc, L = [] := ⟨_, rfl⟩
  rw [← hlo] at hS
  rw [← hlo]
  clear hH hlo
  refine lv_aload_n hx hb dX12_bestRow_0 rfl (lv_at hl 0 rfl) ?_
  have hPc := hP.sub (ws' := [(m0, .inr (14, [.int 0, .ref aS, .ref aI, .int 0, .int 0, .int 0, .int 0, .int 0, .int 0, .ref aB, .ref aT, .int 0, .int 0, .ref aG, .ref aO, .ref aN, .ref aD, .long bv, .ref aY, .int 0, .int 0, .int 0, .int 0])), (aS, .inl (cS, 901, .inl s0)), (aB, .inl (cB, 6, .inl fB)), (aD, .inl (cD, 36, .inl fD))]) [0, 1, 2, 5] rfl
  have hDc := hD.sub (ws' := [(m0, .inr (14, [.int 0, .ref aS, .ref aI, .int 0, .int 0, .int 0, .int 0, .int 0, .int 0, .ref aB, .ref aT, .int 0, .int 0, .ref aG, .ref aO, .ref aN, .ref aD, .long bv, .ref aY, .int 0, .int 0, .int 0, .int 0])), (aS, .inl (cS, 901, .inl s0)), (aB, .inl (cB, 6, .inl fB)), (aD, .inl (cD, 36, .inl fD))]) [0, 1, 2, 5] (by decide) rfl
  have hKc := hK.sub (tys' := [(cS, .int), (cB, .int), (cD, .int)]) [0, 1, 4] rfl
  have hFc := va_free (wc := [(m0, .inr (14, [.int 0, .ref aS, .ref aI, .int 0, .int 0, .int 0, .int 0, .int 0, .int 0, .ref aB, .ref aT, .int 0, .int 0, .ref aG, .ref aO, .ref aN, .ref aD, .long bv, .ref aY, .int 0, .int 0, .int 0, .int 0])), (aS, .inl (cS, 901, .inl s0)), (aB, .inl (cB, 6, .inl fB)), (aD, .inl (cD, 36, .inl fD))]) hD hS hA [0, 1, 2, 5] rfl
  refine va_callv (va_runV (As := []) (rest := []) ⟨hx, hb, hml, hown, hts⟩ (c_looksFor0 l dC dI m0 aS aI aB aT aG aO aN aD aY bv cS cB cD (fB) (fD) H.size) (cwV 0 hts gX12_bestRow_X12_looksForDrifts rfl rfl rfl (by decide +kernel) ⟨Nat.le_of_ble_eq_true rfl, Nat.le_of_ble_eq_true rfl⟩) ⟨fun a U g mk q => by obtain ⟨q0, q1, qP, qK, qD⟩ := q; exact ⟨q0, q1, qP, va_K.moved (u := U) (U := U.calling g mk a) (Vm.Alike.refl U.vm) qK, qD⟩, va_recv hK hP (ci := 14) (q0 := 0) rfl rfl, fun U hU hW => ⟨rfl, by rw [hU], by rw [hU]; exact hPc, va_K.moved hW.alike hKc, hDc.weaken (fun _ _ _ _ => trivial)⟩⟩ rfl rfl hl.1 rfl (lv_room (Nat.le_of_ble_eq_true rfl)) dX12_bestRow_1 ⟨Nat.le_of_ble_eq_true rfl, Nat.le_of_ble_eq_true rfl⟩) hS (fun q _ h => hFc q h) hFc (fun u tC H1 locs htC hvm hw_2 hB hz1 hk1 hS => ?_)
  obtain ⟨fB2_3, fD2_4⟩ := u
  try dsimp only at hw_2 hB
  obtain ⟨hP1, hK1, hD1⟩ := hB
  rw [htC] at hP1
  have hK1 := va_K.moved hvm.symm hK1
  obtain ⟨hP, hD⟩ := va_join (wr := [(aO, .inl (cO, 36, .inr (.inl fO))), (aN, .inl (cN, 36, .inr (.inl fN)))]) (w1 := [(m0, .inr (14, [.int 0, .ref aS, .ref aI, .int 0, .int 0, .int 0, .int 0, .int 0, .int 0, .ref aB, .ref aT, .int 0, .int 0, .ref aG, .ref aO, .ref aN, .ref aD, .long bv, .ref aY, .int 0, .int 0, .int 0, .int 0])), (aS, .inl (cS, 901, .inl s0)), (aB, .inl (cB, 6, .inl fB2_3)), (aD, .inl (cD, 36, .inl fD2_4))]) hP hD [0, 1, 2, 5] [3, 4] rfl rfl (by decide) (by decide) hk1 hFc hP1 hD1
  have hK := (hK.sub (tys' := [(cO, .long), (cN, .long)]) [2, 3] rfl).app hK1
  generalize H1 = H at hP hS ⊢
  have hP : va_P (dC, dI) vwCl [(aO, .inl (cO, 36, .inr (.inl fO))), (aN, .inl (cN, 36, .inr (.inl fN))), (m0, .inr (14, [.int 0, .ref aS, .ref aI, .int 0, .int 0, .int 0, .int 0, .int 0, .int 0, .ref aB, .ref aT, .int 0, .int 0, .ref aG, .ref aO, .ref aN, .ref aD, .long bv, .ref aY, .int 0, .int 0, .int 0, .int 0])), (aS, .inl (cS, 901, .inl s0)), (aB, .inl (cB, 6, .inl fB2_3)), (aD, .inl (cD, 36, .inl fD2_4))] H := hP
  have hD : va_D A [(aO, .inl (cO, 36, .inr (.inl fO))), (aN, .inl (cN, 36, .inr (.inl fN))), (m0, .inr (14, [.int 0, .ref aS, .ref aI, .int 0, .int 0, .int 0, .int 0, .int 0, .int 0, .ref aB, .ref aT, .int 0, .int 0, .ref aG, .ref aO, .ref aN, .ref aD, .long bv, .ref aY, .int 0, .int 0, .int 0, .int 0])), (aS, .inl (cS, 901, .inl s0)), (aB, .inl (cB, 6, .inl fB2_3)), (aD, .inl (cD, 36, .inl fD2_4))] := hD
  have hK : va_K (dC, dI) vwCl [(cO, .long), (cN, .long), (cS, .int), (cB, .int), (cD, .int)] s := hK
  refine lv_iload_n hx hb dX12_bestRow_4 rfl (lv_at hl 3 rfl) ?_
  refine lv_iconst (v := 1) hx hb dX12_bestRow_5 (by decide) ?_
  refine lv_icmp_ne (tgt := 14) hx hb dX12_bestRow_6 (by decide) (fun _ => ?_) (fun c_5 => absurd c_5 (by decide))
  refine lv_iload_n hx hb dX12_bestRow_14 rfl (lv_at hl 3 rfl) ?_
  refine lv_iconst (v := 2) hx hb dX12_bestRow_15 (by decide) ?_
  refine lv_icmp_ne (tgt := 24) hx hb dX12_bestRow_16 (by decide) (fun _ => ?_) (fun c_6 => absurd c_6 (by decide))
  refine lv_sipush (v := 512) hx hb dX12_bestRow_24 (by decide) ?_
  refine lv_istore (lv' := [(4, .int 512), (0, .ref m0), (1, .int (nI j)), (2, .int (-1)), (3, .int 3)]) hx hb dX12_bestRow_27 hl (by decide) rfl (fun ls hl => ?_)
  refine lv_iconst (v := (-1)) hx hb dX12_bestRow_29 (by decide) ?_
  refine lv_istore (lv' := [(5, .int (-1)), (4, .int 512), (0, .ref m0), (1, .int (nI j)), (2, .int (-1)), (3, .int 3)]) hx hb dX12_bestRow_30 hl (by decide) rfl (fun ls hl => ?_)
  refine lv_iconst (v := 0) hx hb dX12_bestRow_32 (by decide) ?_
  refine lv_istore (lv' := [(6, .int 0), (5, .int (-1)), (4, .int 512), (0, .ref m0), (1, .int (nI j)), (2, .int (-1)), (3, .int 3)]) hx hb dX12_bestRow_33 hl (by decide) rfl (fun ls hl => ?_)
  have L35 : ∀ (nF : Nat) (i : Nat) (bs : Int32) (b : Int64) (f : Nat → Int64) (t : Nat → Int64), 512 - i < nF → (i ≤ 512) → (GI (fun _ : Nat => (0 : Int64)) i bs b) → ∀ (H : Heap) (locs : List Loc), va_K (dC, dI) vwCl [(cS, .int), (cB, .int), (cO, .long), (cN, .long), (cD, .int)] s → va_P (dC, dI) vwCl [(m0, .inr (14, [.int 0, .ref aS, .ref aI, .int 0, .int 0, .int 0, .int 0, .int 0, .int 0, .ref aB, .ref aT, .int 0, .int 0, .ref aG, .ref aO, .ref aN, .ref aD, .long b, .ref aY, .int 0, .int 0, .int 0, .int 0])), (aS, .inl (cS, 901, .inl s0)), (aB, .inl (cB, 6, .inl fB2_3)), (aO, .inl (cO, 36, .inr (.inl f))), (aN, .inl (cN, 36, .inr (.inl t))), (aD, .inl (cD, 36, .inl fD2_4))] H → va_D A [(m0, .inr (14, [.int 0, .ref aS, .ref aI, .int 0, .int 0, .int 0, .int 0, .int 0, .int 0, .ref aB, .ref aT, .int 0, .int 0, .ref aG, .ref aO, .ref aN, .ref aD, .long b, .ref aY, .int 0, .int 0, .int 0, .int 0])), (aS, .inl (cS, 901, .inl s0)), (aB, .inl (cB, 6, .inl fB2_3)), (aO, .inl (cO, 36, .inr (.inl f))), (aN, .inl (cN, 36, .inr (.inl t))), (aD, .inl (cD, 36, .inl fD2_4))] → va_S A s.heap H locs → ∀ (ls : Array Slot), lv_has ls 10 [(0, .ref m0), (1, .int (nI j)), (2, .int (-1)), (3, .int 3), (4, .int 512), (5, .int bs), (6, .int (nI i))] → W p l e ({ frames := 5, cells := 0, slots := 0, locals := 113 } : Room) s m args below meth c H locs 0 0 Q (F0 m 35 ls []) := by
    intro nF
    induction nF with
    | zero => intro i bs b f t hm; exact absurd hm (Nat.not_lt_zero _)
    | succ nF ih35 =>
      intro i bs b f t hm hi hg H locs hK hP hD hS ls hl
      refine lv_iload hx hb dX12_bestRow_35 (lv_at hl 6 rfl) ?_
      refine lv_iload hx hb dX12_bestRow_37 (lv_at hl 4 rfl) ?_
      refine lv_icmp_ge (tgt := 132) hx hb dX12_bestRow_39 (by decide) (fun c_7 => ?_) (fun c_7 => ?_)
      · skip
        have c_7 : 512 ≤ i := (nI_leI (a := 512) (b := i) (by omega) (by omega)).mp c_7
        refine lv_iload hx hb dX12_bestRow_132 (lv_at hl 5 rfl) ?_
        rw [hQ]
        have hP9 := hP.sub (ws' := [(m0, .inr (14, [.int 0, .ref aS, .ref aI, .int 0, .int 0, .int 0, .int 0, .int 0, .int 0, .ref aB, .ref aT, .int 0, .int 0, .ref aG, .ref aO, .ref aN, .ref aD, .long b, .ref aY, .int 0, .int 0, .int 0, .int 0])), (aS, .inl (cS, 901, .inl s0)), (aB, .inl (cB, 6, .inl fB2_3)), (aO, .inl (cO, 36, .inr (.inl f))), (aN, .inl (cN, 36, .inr (.inl t))), (aD, .inl (cD, 36, .inl fD2_4))]) [0, 1, 2, 3, 4, 5] rfl
        have hD9 := hD.sub (ws' := [(m0, .inr (14, [.int 0, .ref aS, .ref aI, .int 0, .int 0, .int 0, .int 0, .int 0, .int 0, .ref aB, .ref aT, .int 0, .int 0, .ref aG, .ref aO, .ref aN, .ref aD, .long b, .ref aY, .int 0, .int 0, .int 0, .int 0])), (aS, .inl (cS, 901, .inl s0)), (aB, .inl (cB, 6, .inl fB2_3)), (aO, .inl (cO, 36, .inr (.inl f))), (aN, .inl (cN, 36, .inr (.inl t))), (aD, .inl (cD, 36, .inl fD2_4))]) [0, 1, 2, 3, 4, 5] (by decide) rfl
        have hK9 := hK.sub (tys' := [(cS, .int), (cB, .int), (cO, .long), (cN, .long), (cD, .int)]) [0, 1, 2, 3, 4] rfl
        exact W.iret (v := bs) hx hb hr (fun tQ htQ hWQ => ⟨⟨bs, (fB2_3, f, t, fD2_4, b), rfl, (by have e : i = 512 := (by omega); rw [e] at hg; exact hg.2 (by omega)), by rw [htQ]; exact hP9, va_K.moved hWQ.alike hK9, hD9⟩, hS.F htQ⟩) hS.2.2 dX12_bestRow_134
      · skip
        have c_7 : ¬ 512 ≤ i := fun q => c_7 ((nI_leI (a := 512) (b := i) (by omega) (by omega)).mpr q)
        refine lv_aload_n hx hb dX12_bestRow_42 rfl (lv_at hl 0 rfl) ?_
        refine lv_iload_n hx hb dX12_bestRow_43 rfl (lv_at hl 1 rfl) ?_
        refine lv_iload hx hb dX12_bestRow_44 (lv_at hl 6 rfl) ?_
        refine lv_iload_n hx hb dX12_bestRow_46 rfl (lv_at hl 3 rfl) ?_
        have hPc := hP.sub (ws' := [(m0, .inr (14, [.int 0, .ref aS, .ref aI, .int 0, .int 0, .int 0, .int 0, .int 0, .int 0, .ref aB, .ref aT, .int 0, .int 0, .ref aG, .ref aO, .ref aN, .ref aD, .long b, .ref aY, .int 0, .int 0, .int 0, .int 0])), (aS, .inl (cS, 901, .inl s0)), (aO, .inl (cO, 36, .inr (.inl f))), (aN, .inl (cN, 36, .inr (.inl t))), (aD, .inl (cD, 36, .inl fD2_4))]) [0, 1, 3, 4, 5] rfl
        have hDc := hD.sub (ws' := [(m0, .inr (14, [.int 0, .ref aS, .ref aI, .int 0, .int 0, .int 0, .int 0, .int 0, .int 0, .ref aB, .ref aT, .int 0, .int 0, .ref aG, .ref aO, .ref aN, .ref aD, .long b, .ref aY, .int 0, .int 0, .int 0, .int 0])), (aS, .inl (cS, 901, .inl s0)), (aO, .inl (cO, 36, .inr (.inl f))), (aN, .inl (cN, 36, .inr (.inl t))), (aD, .inl (cD, 36, .inl fD2_4))]) [0, 1, 3, 4, 5] (by decide) rfl
        have hKc := hK.sub (tys' := [(cS, .int), (cO, .long), (cN, .long), (cD, .int)]) [0, 2, 3, 4] rfl
        have hFc := va_free (wc := [(m0, .inr (14, [.int 0, .ref aS, .ref aI, .int 0, .int 0, .int 0, .int 0, .int 0, .int 0, .ref aB, .ref aT, .int 0, .int 0, .ref aG, .ref aO, .ref aN, .ref aD, .long b, .ref aY, .int 0, .int 0, .int 0, .int 0])), (aS, .inl (cS, 901, .inl s0)), (aO, .inl (cO, 36, .inr (.inl f))), (aN, .inl (cN, 36, .inr (.inl t))), (aD, .inl (cD, 36, .inl fD2_4))]) hD hS hA [0, 1, 3, 4, 5] rfl
        refine va_callv (va_runV (As := [.int (nI j), .int (nI i), .int 3]) (rest := []) ⟨hx, hb, hml, hown, hts⟩ (c_goesBy3 l dC dI m0 aS aI aB aT aG aO aN aD aY b cS cO cN cD (f) (t) (fD2_4) j i H.size (by omega) (by omega) hw_2) (cwV 3 hts gX12_bestRow_X12_goesBy rfl rfl rfl (by decide +kernel) ⟨Nat.le_of_ble_eq_true rfl, Nat.le_of_ble_eq_true rfl⟩) ⟨fun a U g mk q => by obtain ⟨q0, q1, qP, qK, qD⟩ := q; exact ⟨q0, q1, qP, va_K.moved (u := U) (U := U.calling g mk a) (Vm.Alike.refl U.vm) qK, qD⟩, va_recv hK hP (ci := 14) (q0 := 0) rfl rfl, fun U hU hW => ⟨rfl, by rw [hU], by rw [hU]; exact hPc, va_K.moved hW.alike hKc, hDc.weaken (fun _ _ _ _ => trivial)⟩⟩ rfl rfl hl.1 rfl (lv_room (Nat.le_of_ble_eq_true rfl)) dX12_bestRow_47 ⟨Nat.le_of_ble_eq_true rfl, Nat.le_of_ble_eq_true rfl⟩) hS (fun q _ h => hFc q h) hFc (fun u tC H1 locs htC hvm hw_9 hB hz1 hk1 hS => ?_)
        obtain ⟨fO2_10, fN2_11⟩ := u
        try dsimp only at hw_9 hB
        obtain ⟨hP1, hK1, hD1⟩ := hB
        rw [htC] at hP1
        have hK1 := va_K.moved hvm.symm hK1
        obtain ⟨hP, hD⟩ := va_join (wr := [(aB, .inl (cB, 6, .inl fB2_3))]) (w1 := [(m0, .inr (14, [.int 0, .ref aS, .ref aI, .int 0, .int 0, .int 0, .int 0, .int 0, .int 0, .ref aB, .ref aT, .int 0, .int 0, .ref aG, .ref aO, .ref aN, .ref aD, .long b, .ref aY, .int 0, .int 0, .int 0, .int 0])), (aS, .inl (cS, 901, .inl s0)), (aO, .inl (cO, 36, .inr (.inl fO2_10))), (aN, .inl (cN, 36, .inr (.inl fN2_11))), (aD, .inl (cD, 36, .inl fD2_4))]) hP hD [0, 1, 3, 4, 5] [2] rfl rfl (by decide) (by decide) hk1 hFc hP1 hD1
        have hK := (hK.sub (tys' := [(cB, .int)]) [1] rfl).app hK1
        generalize H1 = H at hP hS ⊢
        have hP : va_P (dC, dI) vwCl [(aB, .inl (cB, 6, .inl fB2_3)), (m0, .inr (14, [.int 0, .ref aS, .ref aI, .int 0, .int 0, .int 0, .int 0, .int 0, .int 0, .ref aB, .ref aT, .int 0, .int 0, .ref aG, .ref aO, .ref aN, .ref aD, .long b, .ref aY, .int 0, .int 0, .int 0, .int 0])), (aS, .inl (cS, 901, .inl s0)), (aO, .inl (cO, 36, .inr (.inl fO2_10))), (aN, .inl (cN, 36, .inr (.inl fN2_11))), (aD, .inl (cD, 36, .inl fD2_4))] H := hP
        have hD : va_D A [(aB, .inl (cB, 6, .inl fB2_3)), (m0, .inr (14, [.int 0, .ref aS, .ref aI, .int 0, .int 0, .int 0, .int 0, .int 0, .int 0, .ref aB, .ref aT, .int 0, .int 0, .ref aG, .ref aO, .ref aN, .ref aD, .long b, .ref aY, .int 0, .int 0, .int 0, .int 0])), (aS, .inl (cS, 901, .inl s0)), (aO, .inl (cO, 36, .inr (.inl fO2_10))), (aN, .inl (cN, 36, .inr (.inl fN2_11))), (aD, .inl (cD, 36, .inl fD2_4))] := hD
        have hK : va_K (dC, dI) vwCl [(cB, .int), (cS, .int), (cO, .long), (cN, .long), (cD, .int)] s := hK
        refine lv_iload_n hx hb dX12_bestRow_50 rfl (lv_at hl 2 rfl) ?_
        refine lv_iconst (v := (-1)) hx hb dX12_bestRow_51 (by decide) ?_
        refine lv_icmp_ne (tgt := 63) hx hb dX12_bestRow_52 (by decide) (fun c_12 => absurd c_12 (by decide)) (fun _ => ?_)
        refine lv_aload_n hx hb dX12_bestRow_55 rfl (lv_at hl 0 rfl) ?_
        have hPc := hP.sub (ws' := [(m0, .inr (14, [.int 0, .ref aS, .ref aI, .int 0, .int 0, .int 0, .int 0, .int 0, .int 0, .ref aB, .ref aT, .int 0, .int 0, .ref aG, .ref aO, .ref aN, .ref aD, .long b, .ref aY, .int 0, .int 0, .int 0, .int 0])), (aS, .inl (cS, 901, .inl s0)), (aO, .inl (cO, 36, .inr (.inl fO2_10)))]) [1, 2, 3] rfl
        have hKc := hK.sub (tys' := [(cS, .int), (cO, .long)]) [1, 2] rfl
        refine vp_callSl (va_runV (As := []) (rest := []) ⟨hx, hb, hml, hown, hts⟩ (c_over0 l dC dI m0 aS aI aB aT aG aO aN aD aY b cS cO (fO2_10)) (cwV 0 hts gX12_bestRow_X12_over rfl rfl rfl (by decide +kernel) ⟨Nat.le_of_ble_eq_true rfl, Nat.le_of_ble_eq_true rfl⟩) ⟨fun a U g mk q => by obtain ⟨q0, qP, qK⟩ := q; exact ⟨q0, qP, va_K.moved (u := U) (U := U.calling g mk a) (Vm.Alike.refl U.vm) qK⟩, va_recv hK hP (ci := 14) (q0 := 1) rfl rfl, fun U hU hW => ⟨rfl, by rw [hU]; exact hPc, va_K.moved hW.alike hKc⟩⟩ rfl rfl hl.1 rfl (lv_room (Nat.le_of_ble_eq_true rfl)) dX12_bestRow_56 ⟨Nat.le_of_ble_eq_true rfl, Nat.le_of_ble_eq_true rfl⟩).run (fun r_13 hw_14 => ?_)
        refine ql_as (y := 0) (hw_14) ?_
        refine lv_lneg hx hb dX12_bestRow_59 ?_
        refine ql_as (y := 0) (by decide) ?_
        refine lv_goto (tgt := 69) hx hb dX12_bestRow_60 (by decide) ?_
        refine lv_lstore (lv' := [(7, .long 0), (0, .ref m0), (1, .int (nI j)), (2, .int (-1)), (3, .int 3), (4, .int 512), (5, .int bs), (6, .int (nI i))]) hx hb dX12_bestRow_69 hl (by decide) rfl (fun ls hl => ?_)
        refine lv_iload hx hb dX12_bestRow_71 (lv_at hl 6 rfl) ?_
        refine lv_iconst (v := (-1)) hx hb dX12_bestRow_73 (by decide) ?_
        refine lv_icmp_eq (tgt := 87) hx hb dX12_bestRow_74 (by decide) (fun c_15 => ?_) (fun c_15 => ?_)
        · skip
          refine lv_iconst (v := 1) hx hb dX12_bestRow_87 (by decide) ?_
          refine lv_goto (tgt := 92) hx hb dX12_bestRow_88 (by decide) ?_
          refine lv_istore (lv' := [(9, .int 1), (7, .long 0), (0, .ref m0), (1, .int (nI j)), (2, .int (-1)), (3, .int 3), (4, .int 512), (5, .int bs), (6, .int (nI i))]) hx hb dX12_bestRow_92 hl (by decide) rfl (fun ls hl => ?_)
          refine lv_iload hx hb dX12_bestRow_94 (lv_at hl 0 rfl) ?_
          refine lv_if_eq (tgt := 104) hx hb dX12_bestRow_96 (by decide) (fun c_16 => absurd c_16 (by decide)) (fun _ => ?_)
          refine lv_iload hx hb dX12_bestRow_99 (lv_at hl 8 rfl) ?_
          refine lv_goto (tgt := 106) hx hb dX12_bestRow_101 (by decide) ?_
          refine lv_istore (lv' := [(5, .int (nI i)), (9, .int 1), (7, .long 0), (0, .ref m0), (1, .int (nI j)), (2, .int (-1)), (3, .int 3), (4, .int 512), (6, .int (nI i))]) hx hb dX12_bestRow_106 hl (by decide) rfl (fun ls hl => ?_)
          refine lv_aload_n hx hb dX12_bestRow_108 rfl (lv_at hl 3 rfl) ?_
          refine lv_iload hx hb dX12_bestRow_109 (lv_at hl 1 rfl) ?_
          refine lv_if_eq (tgt := 119) hx hb dX12_bestRow_111 (by decide) (fun c_17 => absurd c_17 (by decide)) (fun _ => ?_)
          refine lv_lload hx hb dX12_bestRow_114 (lv_at hl 2 rfl) ?_
          refine lv_goto (tgt := 123) hx hb dX12_bestRow_116 (by decide) ?_
          refine va_put (D := (dC, dI)) (ci := 14) (v := .long 0) (ty := .long) (C := RX12) (T := TX12) (N := 23) hx hb hts kc_safeRow3_0 tyX12 tyX12_ok nmX12 hown hK hP hD hS 1 rfl rfl 17 (by decide) (hts (.fieldLink RX12 236 "MistHeapsModel" "bestOften" "J") kc_safeRow3_1) (fun _ h9 => h9) rfl (by decide +kernel) rfl rfl (Nat.le_of_ble_eq_true rfl) dX12_bestRow_123 (fun H locs hP hD hS => ?_)
          have hP : va_P (dC, dI) vwCl [(aB, .inl (cB, 6, .inl fB2_3)), (m0, .inr (14, [.int 0, .ref aS, .ref aI, .int 0, .int 0, .int 0, .int 0, .int 0, .int 0, .ref aB, .ref aT, .int 0, .int 0, .ref aG, .ref aO, .ref aN, .ref aD, .long 0, .ref aY, .int 0, .int 0, .int 0, .int 0])), (aS, .inl (cS, 901, .inl s0)), (aO, .inl (cO, 36, .inr (.inl fO2_10))), (aN, .inl (cN, 36, .inr (.inl fN2_11))), (aD, .inl (cD, 36, .inl fD2_4))] H := hP
          have hD : va_D A [(aB, .inl (cB, 6, .inl fB2_3)), (m0, .inr (14, [.int 0, .ref aS, .ref aI, .int 0, .int 0, .int 0, .int 0, .int 0, .int 0, .ref aB, .ref aT, .int 0, .int 0, .ref aG, .ref aO, .ref aN, .ref aD, .long 0, .ref aY, .int 0, .int 0, .int 0, .int 0])), (aS, .inl (cS, 901, .inl s0)), (aO, .inl (cO, 36, .inr (.inl fO2_10))), (aN, .inl (cN, 36, .inr (.inl fN2_11))), (aD, .inl (cD, 36, .inl fD2_4))] := hD
          refine lv_iinc (v := nI (i + 1)) (lv' := [(6, .int (nI (i + 1))), (5, .int (nI i)), (9, .int 1), (7, .long 0), (0, .ref m0), (1, .int (nI j)), (2, .int (-1)), (3, .int 3), (4, .int 512)]) hx hb dX12_bestRow_126 hl (k := 8) rfl (nI_add i 1) (by decide) rfl (fun ls hl => ?_)
          refine lv_goto (tgt := 35) hx hb dX12_bestRow_129 (by decide) ?_
          exact ih35 _ _ _ _ _ (by omega) (by omega) (GI_A (v := (fun _ : Nat => (0 : Int64))) (by omega) hg c_15 (by decide)) _ _ (hK.sub [1, 0, 2, 3, 4] rfl) (hP.sub [1, 2, 0, 3, 4, 5] rfl) (hD.sub [1, 2, 0, 3, 4, 5] (by decide) rfl) hS ls (lv_sub hl [4, 5, 6, 7, 8, 1, 0] rfl)
        · skip
          refine lv_lload hx hb dX12_bestRow_77 (lv_at hl 0 rfl) ?_
          refine lv_aload_n hx hb dX12_bestRow_79 rfl (lv_at hl 1 rfl) ?_
          refine va_get (D := (dC, dI)) (ci := 14) (v := .long b) (C := RX12) (T := TX12) (N := 23) hx hb hts kc_safeRow3_0 hown hK hP 1 rfl rfl 17 (by decide) (hts (.fieldLink RX12 236 "MistHeapsModel" "bestOften" "J") kc_safeRow3_1) (fun _ h9 => h9) rfl dX12_bestRow_80 ?_
          refine W.lcmp hx hb dX12_bestRow_83 ?_
          refine lv_if_le (tgt := 91) hx hb dX12_bestRow_84 (by decide) (fun c_18 => ?_) (fun c_18 => ?_)
          · skip
            rw [lg_cmp_le] at c_18
            refine lv_iconst (v := 0) hx hb dX12_bestRow_91 (by decide) ?_
            refine lv_istore (lv' := [(9, .int 0), (7, .long 0), (0, .ref m0), (1, .int (nI j)), (2, .int (-1)), (3, .int 3), (4, .int 512), (5, .int bs), (6, .int (nI i))]) hx hb dX12_bestRow_92 hl (by decide) rfl (fun ls hl => ?_)
            refine lv_iload hx hb dX12_bestRow_94 (lv_at hl 0 rfl) ?_
            refine lv_if_eq (tgt := 104) hx hb dX12_bestRow_96 (by decide) (fun _ => ?_) (fun c_19 => absurd c_19 (by decide))
            refine lv_iload hx hb dX12_bestRow_104 (lv_at hl 7 rfl) ?_
            refine lv_istore (lv' := [(5, .int bs), (9, .int 0), (7, .long 0), (0, .ref m0), (1, .int (nI j)), (2, .int (-1)), (3, .int 3), (4, .int 512), (6, .int (nI i))]) hx hb dX12_bestRow_106 hl (by decide) rfl (fun ls hl => ?_)
            refine lv_aload_n hx hb dX12_bestRow_108 rfl (lv_at hl 3 rfl) ?_
            refine lv_iload hx hb dX12_bestRow_109 (lv_at hl 1 rfl) ?_
            refine lv_if_eq (tgt := 119) hx hb dX12_bestRow_111 (by decide) (fun _ => ?_) (fun c_20 => absurd c_20 (by decide))
            refine lv_aload_n hx hb dX12_bestRow_119 rfl (lv_at hl 3 rfl) ?_
            refine va_get (D := (dC, dI)) (ci := 14) (v := .long b) (C := RX12) (T := TX12) (N := 23) hx hb hts kc_safeRow3_0 hown hK hP 1 rfl rfl 17 (by decide) (hts (.fieldLink RX12 236 "MistHeapsModel" "bestOften" "J") kc_safeRow3_1) (fun _ h9 => h9) rfl dX12_bestRow_120 ?_
            refine va_put (D := (dC, dI)) (ci := 14) (v := .long b) (ty := .long) (C := RX12) (T := TX12) (N := 23) hx hb hts kc_safeRow3_0 tyX12 tyX12_ok nmX12 hown hK hP hD hS 1 rfl rfl 17 (by decide) (hts (.fieldLink RX12 236 "MistHeapsModel" "bestOften" "J") kc_safeRow3_1) (fun _ h9 => h9) rfl (by decide +kernel) rfl rfl (Nat.le_of_ble_eq_true rfl) dX12_bestRow_123 (fun H locs hP hD hS => ?_)
            have hP : va_P (dC, dI) vwCl [(aB, .inl (cB, 6, .inl fB2_3)), (m0, .inr (14, [.int 0, .ref aS, .ref aI, .int 0, .int 0, .int 0, .int 0, .int 0, .int 0, .ref aB, .ref aT, .int 0, .int 0, .ref aG, .ref aO, .ref aN, .ref aD, .long b, .ref aY, .int 0, .int 0, .int 0, .int 0])), (aS, .inl (cS, 901, .inl s0)), (aO, .inl (cO, 36, .inr (.inl fO2_10))), (aN, .inl (cN, 36, .inr (.inl fN2_11))), (aD, .inl (cD, 36, .inl fD2_4))] H := hP
            have hD : va_D A [(aB, .inl (cB, 6, .inl fB2_3)), (m0, .inr (14, [.int 0, .ref aS, .ref aI, .int 0, .int 0, .int 0, .int 0, .int 0, .int 0, .ref aB, .ref aT, .int 0, .int 0, .ref aG, .ref aO, .ref aN, .ref aD, .long b, .ref aY, .int 0, .int 0, .int 0, .int 0])), (aS, .inl (cS, 901, .inl s0)), (aO, .inl (cO, 36, .inr (.inl fO2_10))), (aN, .inl (cN, 36, .inr (.inl fN2_11))), (aD, .inl (cD, 36, .inl fD2_4))] := hD
            refine lv_iinc (v := nI (i + 1)) (lv' := [(6, .int (nI (i + 1))), (5, .int bs), (9, .int 0), (7, .long 0), (0, .ref m0), (1, .int (nI j)), (2, .int (-1)), (3, .int 3), (4, .int 512)]) hx hb dX12_bestRow_126 hl (k := 8) rfl (nI_add i 1) (by decide) rfl (fun ls hl => ?_)
            refine lv_goto (tgt := 35) hx hb dX12_bestRow_129 (by decide) ?_
            exact ih35 _ _ _ _ _ (by omega) (by omega) (GI_B1 (v := (fun _ : Nat => (0 : Int64))) hg c_15 c_18) _ _ (hK.sub [1, 0, 2, 3, 4] rfl) (hP.sub [1, 2, 0, 3, 4, 5] rfl) (hD.sub [1, 2, 0, 3, 4, 5] (by decide) rfl) hS ls (lv_sub hl [4, 5, 6, 7, 8, 1, 0] rfl)
          · skip
            rw [lg_cmp_le] at c_18
            refine lv_iconst (v := 1) hx hb dX12_bestRow_87 (by decide) ?_
            refine lv_goto (tgt := 92) hx hb dX12_bestRow_88 (by decide) ?_
            refine lv_istore (lv' := [(9, .int 1), (7, .long 0), (0, .ref m0), (1, .int (nI j)), (2, .int (-1)), (3, .int 3), (4, .int 512), (5, .int bs), (6, .int (nI i))]) hx hb dX12_bestRow_92 hl (by decide) rfl (fun ls hl => ?_)
            refine lv_iload hx hb dX12_bestRow_94 (lv_at hl 0 rfl) ?_
            refine lv_if_eq (tgt := 104) hx hb dX12_bestRow_96 (by decide) (fun c_21 => absurd c_21 (by decide)) (fun _ => ?_)
            refine lv_iload hx hb dX12_bestRow_99 (lv_at hl 8 rfl) ?_
            refine lv_goto (tgt := 106) hx hb dX12_bestRow_101 (by decide) ?_
            refine lv_istore (lv' := [(5, .int (nI i)), (9, .int 1), (7, .long 0), (0, .ref m0), (1, .int (nI j)), (2, .int (-1)), (3, .int 3), (4, .int 512), (6, .int (nI i))]) hx hb dX12_bestRow_106 hl (by decide) rfl (fun ls hl => ?_)
            refine lv_aload_n hx hb dX12_bestRow_108 rfl (lv_at hl 3 rfl) ?_
            refine lv_iload hx hb dX12_bestRow_109 (lv_at hl 1 rfl) ?_
            refine lv_if_eq (tgt := 119) hx hb dX12_bestRow_111 (by decide) (fun c_22 => absurd c_22 (by decide)) (fun _ => ?_)
            refine lv_lload hx hb dX12_bestRow_114 (lv_at hl 2 rfl) ?_
            refine lv_goto (tgt := 123) hx hb dX12_bestRow_116 (by decide) ?_
            refine va_put (D := (dC, dI)) (ci := 14) (v := .long 0) (ty := .long) (C := RX12) (T := TX12) (N := 23) hx hb hts kc_safeRow3_0 tyX12 tyX12_ok nmX12 hown hK hP hD hS 1 rfl rfl 17 (by decide) (hts (.fieldLink RX12 236 "MistHeapsModel" "bestOften" "J") kc_safeRow3_1) (fun _ h9 => h9) rfl (by decide +kernel) rfl rfl (Nat.le_of_ble_eq_true rfl) dX12_bestRow_123 (fun H locs hP hD hS => ?_)
            have hP : va_P (dC, dI) vwCl [(aB, .inl (cB, 6, .inl fB2_3)), (m0, .inr (14, [.int 0, .ref aS, .ref aI, .int 0, .int 0, .int 0, .int 0, .int 0, .int 0, .ref aB, .ref aT, .int 0, .int 0, .ref aG, .ref aO, .ref aN, .ref aD, .long 0, .ref aY, .int 0, .int 0, .int 0, .int 0])), (aS, .inl (cS, 901, .inl s0)), (aO, .inl (cO, 36, .inr (.inl fO2_10))), (aN, .inl (cN, 36, .inr (.inl fN2_11))), (aD, .inl (cD, 36, .inl fD2_4))] H := hP
            have hD : va_D A [(aB, .inl (cB, 6, .inl fB2_3)), (m0, .inr (14, [.int 0, .ref aS, .ref aI, .int 0, .int 0, .int 0, .int 0, .int 0, .int 0, .ref aB, .ref aT, .int 0, .int 0, .ref aG, .ref aO, .ref aN, .ref aD, .long 0, .ref aY, .int 0, .int 0, .int 0, .int 0])), (aS, .inl (cS, 901, .inl s0)), (aO, .inl (cO, 36, .inr (.inl fO2_10))), (aN, .inl (cN, 36, .inr (.inl fN2_11))), (aD, .inl (cD, 36, .inl fD2_4))] := hD
            refine lv_iinc (v := nI (i + 1)) (lv' := [(6, .int (nI (i + 1))), (5, .int (nI i)), (9, .int 1), (7, .long 0), (0, .ref m0), (1, .int (nI j)), (2, .int (-1)), (3, .int 3), (4, .int 512)]) hx hb dX12_bestRow_126 hl (k := 8) rfl (nI_add i 1) (by decide) rfl (fun ls hl => ?_)
            refine lv_goto (tgt := 35) hx hb dX12_bestRow_129 (by decide) ?_
            exact ih35 _ _ _ _ _ (by omega) (by omega) (GI_B2 (v := (fun _ : Nat => (0 : Int64))) hg c_15 c_18) _ _ (hK.sub [1, 0, 2, 3, 4] rfl) (hP.sub [1, 2, 0, 3, 4, 5] rfl) (hD.sub [1, 2, 0, 3, 4, 5] (by decide) rfl) hS ls (lv_sub hl [4, 5, 6, 7, 8, 1, 0] rfl)
  exact L35 _ (0) _ _ _ _ (Nat.lt_succ_self _) (by omega) (GI_0) _ _ (hK.sub [2, 3, 0, 1, 4] rfl) (hP.sub [2, 3, 4, 0, 1, 5] rfl) (hD.sub [2, 3, 4, 0, 1, 5] (by decide) rfl) hS ls (lv_sub hl [3, 4, 5, 6, 2, 1, 0] rfl)
