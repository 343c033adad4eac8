theorem dX12_best_0 : decode cX12_best 0 = .ok (.iload_n 1, 1) := by decide +kernel
set_option maxRecDepth 20000 in
theorem ggX12_best_X12_isCell : GoodIn wsX12_best wsX12_isCell := goodIn_r _ [4, 5, 6, 3, 7] (by decide +kernel) (by decide +kernel)
set_option maxRecDepth 20000 in
theorem gX12_best_X12_isCell : GoodIn wsX12_best (va_wsS RX12 149 yX12_isCell wsX12_isCell) := goodIn_app (goodIn_of _ (by decide +kernel)) ggX12_best_X12_isCell
theorem dX12_best_1 : decode cX12_best 1 = .ok (.invokestatic 149, 3) := by decide +kernel
theorem dX12_best_4 : decode cX12_best 4 = .ok (.ifCond .eq 20, 3) := by decide +kernel
theorem dX12_best_7 : decode cX12_best 7 = .ok (.iload_n 2, 1) := by decide +kernel
theorem dX12_best_8 : decode cX12_best 8 = .ok (.invokestatic 149, 3) := by decide +kernel
theorem dX12_best_11 : decode cX12_best 11 = .ok (.ifCond .eq 13, 3) := by decide +kernel
theorem dX12_best_14 : decode cX12_best 14 = .ok (.iload 4, 2) := by decide +kernel
theorem dX12_best_16 : decode cX12_best 16 = .ok (.iconst 0, 1) := by decide +kernel
theorem dX12_best_17 : decode cX12_best 17 = .ok (.iconst 2, 1) := by decide +kernel
set_option maxRecDepth 20000 in
theorem ggX12_best_X12_in : GoodIn wsX12_best wsX12_in := goodIn_r _ [7] (by decide +kernel) (by decide +kernel)
set_option maxRecDepth 20000 in
theorem gX12_best_X12_in : GoodIn wsX12_best (va_wsS RX12 45 yX12_in wsX12_in) := goodIn_app (goodIn_of _ (by decide +kernel)) ggX12_best_X12_in
theorem dX12_best_18 : decode cX12_best 18 = .ok (.invokestatic 45, 3) := by decide +kernel
theorem dX12_best_21 : decode cX12_best 21 = .ok (.ifCond .ne 5, 3) := by decide +kernel
theorem dX12_best_26 : decode cX12_best 26 = .ok (.iload_n 3, 1) := by decide +kernel
theorem dX12_best_27 : decode cX12_best 27 = .ok (.iconst 1, 1) := by decide +kernel
theorem dX12_best_28 : decode cX12_best 28 = .ok (.iconst 3, 1) := by decide +kernel
theorem dX12_best_29 : decode cX12_best 29 = .ok (.invokestatic 45, 3) := by decide +kernel
theorem dX12_best_32 : decode cX12_best 32 = .ok (.ifCond .ne 6, 3) := by decide +kernel
theorem dX12_best_38 : decode cX12_best 38 = .ok (.iload 4, 2) := by decide +kernel
theorem dX12_best_40 : decode cX12_best 40 = .ok (.iload_n 3, 1) := by decide +kernel
theorem dX12_best_41 : decode cX12_best 41 = .ok (.if_icmp .lt 7, 3) := by decide +kernel
theorem dX12_best_48 : decode cX12_best 48 = .ok (.aload_n 0, 1) := by decide +kernel
theorem dX12_best_49 : decode cX12_best 49 = .ok (.iload_n 1, 1) := by decide +kernel
theorem dX12_best_50 : decode cX12_best 50 = .ok (.iload_n 2, 1) := by decide +kernel
theorem dX12_best_51 : decode cX12_best 51 = .ok (.iload_n 3, 1) := by decide +kernel
set_option maxRecDepth 20000 in
theorem ggX12_best_X12_bestRow : GoodIn wsX12_best wsX12_bestRow := goodIn_r _ [11, 12, 13, 14, 15, 16, 3, 17, 18, 19, 20, 21, 22, 23, 24, 25, 26, 27, 28, 29, 30, 31, 32, 33, 34, 35, 36, 37, 38, 39, 40, 41, 42, 43, 44, 45, 46, 47, 48, 49, 50, 51, 52, 53, 54, 5, 6, 7, 55, 56, 57, 58, 62, 63, 64, 65, 66, 67, 68, 69, 70, 71, 72, 73, 74, 75, 76, 77, 78, 79, 80, 81, 82, 83, 84] (by decide +kernel) (by decide +kernel)
set_option maxRecDepth 20000 in
theorem gX12_best_X12_bestRow : GoodIn wsX12_best (wsV RX12 240 RX12 yX12_bestRow wsX12_bestRow) := goodIn_app (goodIn_of _ (by decide +kernel)) ggX12_best_X12_bestRow
theorem dX12_best_52 : decode cX12_best 52 = .ok (.invokevirtual 240, 3) := by decide +kernel
theorem dX12_best_55 : decode cX12_best 55 = .ok (.iload_n 3, 1) := by decide +kernel
theorem dX12_best_56 : decode cX12_best 56 = .ok (.iload 4, 2) := by decide +kernel
set_option maxRecDepth 20000 in
theorem ggX12_best_X12_wayOf : GoodIn wsX12_best wsX12_wayOf := goodIn_r _ [61] (by decide +kernel) (by decide +kernel)
set_option maxRecDepth 20000 in
theorem gX12_best_X12_wayOf : GoodIn wsX12_best (va_wsS RX12 243 yX12_wayOf wsX12_wayOf) := goodIn_app (goodIn_of _ (by decide +kernel)) ggX12_best_X12_wayOf
theorem dX12_best_58 : decode cX12_best 58 = .ok (.invokestatic 243, 3) := by decide +kernel
theorem dX12_best_61 : decode cX12_best 61 = .ok (.ireturn, 1) := by decide +kernel
theorem dX12_best_44 : decode cX12_best 44 = .ok (.iconst (-1), 1) := by decide +kernel
theorem dX12_best_45 : decode cX12_best 45 = .ok (.goto 16, 3) := by decide +kernel
theorem dX12_best_35 : decode cX12_best 35 = .ok (.bipush (-2), 2) := by decide +kernel
theorem dX12_best_37 : decode cX12_best 37 = .ok (.ireturn, 1) := by decide +kernel
theorem dX12_best_24 : decode cX12_best 24 = .ok (.iconst (-1), 1) := by decide +kernel
theorem dX12_best_25 : decode cX12_best 25 = .ok (.ireturn, 1) := by decide +kernel
/-- a fact that is not looked into -/
def Hid (p : Prop) : Prop := p
theorem row_of {v : Nat → Int64} {N : Nat} {r : Int32} (hN : 0 < N) (h : r = nI (GG v N).2) : ∃ gb : Nat, Hid (gb = (GG v N).2) ∧ gb < N ∧ r = nI gb := ⟨(GG v N).2, rfl, GG_lt v N hN, h⟩
theorem best_val' (n j o : Nat) (hn : 1 ≤ n) (hn3 : n ≤ 3) : ∃ a : Nat, (a = 0 ∨ a = 20 ^ n) ∧ Hid ((GG (fun q => ind (pth n j q) n o) (8 ^ n)).1 = lN a) := best_val n j o hn hn3

set_option maxHeartbeats 4000000 in
set_option maxRecDepth 100000 in
theorem c_mBest (l : Launch) (dC : Nat → ClassId) (dI : Nat → Nat → Nat) (m0 aS aI aB aT aG aO aN aD aY : Nat) (bv : Int64) (cS cB cO cN cD : ClassId) (fB fD : Nat → Int32) (fO fN : Nat → Int64) (x y n k : Int32) (sz : Nat) : Met l yX12_best wsX12_best ({ frames := 6, cells := 0, slots := 0, locals := 142 } : Room) (va_Pc [.ref m0, .int x, .int y, .int n, .int k] (fun U => U.heap.size = sz ∧ va_P (dC, dI) vwCl [(m0, .inr (14, [.int 0, .ref aS, .ref aI, .int 0, .int 0, .int 0, .int 0, .int 0, .int 0, .ref aB, .ref aT, .int 0, .int 0, .ref aG, .ref aO, .ref aN, .ref aD, .long bv, .ref aY, .int 0, .int 0, .int 0, .int 0])), (aS, .inl (cS, 901, .inl s0)), (aB, .inl (cB, 6, .inl fB)), (aO, .inl (cO, 36, .inr (.inl fO))), (aN, .inl (cN, 36, .inr (.inl fN))), (aD, .inl (cD, 36, .inl fD))] U.heap ∧ va_K (dC, dI) vwCl [(cS, .int), (cB, .int), (cO, .long), (cN, .long), (cD, .int)] U ∧ va_D (fun _ => True) [(m0, .inr (14, [.int 0, .ref aS, .ref aI, .int 0, .int 0, .int 0, .int 0, .int 0, .int 0, .ref aB, .ref aT, .int 0, .int 0, .ref aG, .ref aO, .ref aN, .ref aD, .long bv, .ref aY, .int 0, .int 0, .int 0, .int 0])), (aS, .inl (cS, 901, .inl s0)), (aB, .inl (cB, 6, .inl fB)), (aO, .inl (cO, 36, .inr (.inl fO))), (aN, .inl (cN, 36, .inr (.inl fN))), (aD, .inl (cD, 36, .inl fD))])) (va_Qi (fun (r : Int32) (u : Unit) => match u with | () => r = f_best x y n k) (fun (u : Unit) (t : State) => match u with | () => True) (va_A [(m0, .inr (14, [.int 0, .ref aS, .ref aI, .int 0, .int 0, .int 0, .int 0, .int 0, .int 0, .ref aB, .ref aT, .int 0, .int 0, .ref aG, .ref aO, .ref aN, .ref aD, .long bv, .ref aY, .int 0, .int 0, .int 0, .int 0])), (aS, .inl (cS, 901, .inl s0)), (aB, .inl (cB, 6, .inl fB)), (aO, .inl (cO, 36, .inr (.inl fO))), (aN, .inl (cN, 36, .inr (.inl fN))), (aD, .inl (cD, 36, .inl fD))] sz)) 0 0 (va_A [(m0, .inr (14, [.int 0, .ref aS, .ref aI, .int 0, .int 0, .int 0, .int 0, .int 0, .int 0, .ref aB, .ref aT, .int 0, .int 0, .ref aG, .ref aO, .ref aN, .ref aD, .long bv, .ref aY, .int 0, .int 0, .int 0, .int 0])), (aS, .inl (cS, 901, .inl s0)), (aB, .inl (cB, 6, .inl fB)), (aO, .inl (cO, 36, .inr (.inl fO))), (aN, .inl (cN, 36, .inr (.inl fN))), (aD, .inl (cD, 36, .inl fD))] sz) := by
  refine met_ofQ (cc := cX12_best) (maxL := 5) (ret := (some .int)) (by decide) rfl ?_
  intro p e s m args below meth c s₁ Q B hml hv hQ
  obtain ⟨rfl, hsz, hP, hK, hD0⟩ := hv
  have hx := B.exec
  have hb := B.bytes
  have hr := B.returns
  have hts := atoms_spec (ws := wsX12_best) B.pre
  have hown : s.vm.findClass RX12 = some m.cls := findClass_of_methodNamed B.named
  have hlocks := B.notSynchronized
  subst hsz
  have hD := hD0.self (sz := s.heap.size)
  generalize hAe : va_A [(m0, .inr (14, [.int 0, .ref aS, .ref aI, .int 0, .int 0, .int 0, .int 0, .int 0, .int 0, .ref aB, .ref aT, .int 0, .int 0, .ref aG, .ref aO, .ref aN, .ref aD, .long bv, .ref aY, .int 0, .int 0, .int 0, .int 0])), (aS, .inl (cS, 901, .inl s0)), (aB, .inl (cB, 6, .inl fB)), (aO, .inl (cO, 36, .inr (.inl fO))), (aN, .inl (cN, 36, .inr (.inl fN))), (aD, .inl (cD, 36, .inl fD))] s.heap.size = A at hD hQ ⊢
  have hA : ∀ q : Nat, s.heap.size ≤ q → A q := fun q h => by rw [← hAe]; exact Or.inr h
  have hS : va_S A s.heap s.heap [] := va_S.rf
  have hl := lv_entry [.ref m0, .int x, .int y, .int n, .int k] (n := 5) (Nat.le_of_ble_eq_true rfl)
  rw [lg_entry_eq]
  generalize (lg_sl [.ref m0, .int x, .int y, .int n, .int k] ++ List.replicate (5 - (lg_sl [.ref m0, .int x, .int y, .int n, .int k]).length) Slot.unset).toArray = ls at hl ⊢
  generalize hag : ([.ref m0, .int x, .int y, .int n, .int k] : List Value).toArray = args at hts hQ ⊢
  have hl : lv_has ls 5 [(0, .ref m0), (1, .int x), (2, .int y), (3, .int n), (4, .int k)] := hl
  obtain ⟨H, hH⟩ : ∃ H : Heap, H = s.heap := ⟨_, rfl⟩
  rw [← hH] at hP
  rw [← hH]
  have hS : va_S A s.heap H [] := by rw [hH]; exact hS
  obtain ⟨locs, hlo⟩ : ∃ L : List Loc, L = [] := ⟨_, rfl⟩
  rw [← hlo] at hS
  rw [← hlo]
  clear hH hlo
  refine lv_iload_n hx hb dX12_best_0 rfl (lv_at hl 1 rfl) ?_
  refine vp_callSi (va_runS (As := [.int x]) (rest := []) ⟨hx, hb, hml, hown, hts⟩ (c_mCell l dC dI x) (va_cwS 1 hts gX12_best_X12_isCell rfl rfl rfl (by decide +kernel) ⟨Nat.le_of_ble_eq_true rfl, Nat.le_of_ble_eq_true rfl⟩) ⟨fun a U g mk q => ⟨q.1, trivial⟩, fun U hU hW => ⟨rfl, trivial⟩⟩ rfl rfl hl.1 rfl (lv_room (Nat.le_of_ble_eq_true rfl)) dX12_best_1 ⟨Nat.le_of_ble_eq_true rfl, Nat.le_of_ble_eq_true rfl⟩).run (fun r_1 hw_2 => ?_)
  rcases hw_2 with ⟨rfl, h_3, h_4⟩ | ⟨rfl, h_5⟩
  · skip
    obtain ⟨jx_6, hj_7, rfl⟩ := in_of (n := 35) (M := 35) rfl h_3 h_4
    refine lv_if_eq (tgt := 24) hx hb dX12_best_4 (by decide) (fun c_8 => absurd c_8 (by decide)) (fun _ => ?_)
    refine lv_iload_n hx hb dX12_best_7 rfl (lv_at hl 2 rfl) ?_
    refine vp_callSi (va_runS (As := [.int y]) (rest := []) ⟨hx, hb, hml, hown, hts⟩ (c_mCell l dC dI y) (va_cwS 1 hts gX12_best_X12_isCell rfl rfl rfl (by decide +kernel) ⟨Nat.le_of_ble_eq_true rfl, Nat.le_of_ble_eq_true rfl⟩) ⟨fun a U g mk q => ⟨q.1, trivial⟩, fun U hU hW => ⟨rfl, trivial⟩⟩ rfl rfl hl.1 rfl (lv_room (Nat.le_of_ble_eq_true rfl)) dX12_best_8 ⟨Nat.le_of_ble_eq_true rfl, Nat.le_of_ble_eq_true rfl⟩).run (fun r_9 hw_10 => ?_)
    rcases hw_10 with ⟨rfl, h_11, h_12⟩ | ⟨rfl, h_13⟩
    · skip
      obtain ⟨jy_14, hj_15, rfl⟩ := in_of (n := 35) (M := 35) rfl h_11 h_12
      refine lv_if_eq (tgt := 24) hx hb dX12_best_11 (by decide) (fun c_16 => absurd c_16 (by decide)) (fun _ => ?_)
      refine lv_iload hx hb dX12_best_14 (lv_at hl 4 rfl) ?_
      refine lv_iconst (v := 0) hx hb dX12_best_16 (by decide) ?_
      refine lv_iconst (v := 2) hx hb dX12_best_17 (by decide) ?_
      refine vp_callSi (va_runS (As := [.int k, .int 0, .int 2]) (rest := []) ⟨hx, hb, hml, hown, hts⟩ (c_in l dC dI k 0 2) (va_cwS 3 hts gX12_best_X12_in rfl rfl rfl (by decide +kernel) ⟨Nat.le_of_ble_eq_true rfl, Nat.le_of_ble_eq_true rfl⟩) ⟨fun a U g mk q => ⟨q.1, trivial⟩, fun U hU hW => ⟨rfl, trivial⟩⟩ rfl rfl hl.1 rfl (lv_room (Nat.le_of_ble_eq_true rfl)) dX12_best_18 ⟨Nat.le_of_ble_eq_true rfl, Nat.le_of_ble_eq_true rfl⟩).run (fun r_17 hw_18 => ?_)
      rcases hw_18 with ⟨rfl, h_19, h_20⟩ | ⟨rfl, h_21⟩
      · skip
        obtain ⟨kk_22, hj_23, rfl⟩ := in_of (n := 2) (M := 2) rfl h_19 h_20
        refine lv_if_ne (tgt := 26) hx hb dX12_best_21 (by decide) (fun _ => ?_) (fun c_24 => absurd c_24 (by decide))
        refine lv_iload_n hx hb dX12_best_26 rfl (lv_at hl 3 rfl) ?_
        refine lv_iconst (v := 1) hx hb dX12_best_27 (by decide) ?_
        refine lv_iconst (v := 3) hx hb dX12_best_28 (by decide) ?_
        refine vp_callSi (va_runS (As := [.int n, .int 1, .int 3]) (rest := []) ⟨hx, hb, hml, hown, hts⟩ (c_in l dC dI n 1 3) (va_cwS 3 hts gX12_best_X12_in rfl rfl rfl (by decide +kernel) ⟨Nat.le_of_ble_eq_true rfl, Nat.le_of_ble_eq_true rfl⟩) ⟨fun a U g mk q => ⟨q.1, trivial⟩, fun U hU hW => ⟨rfl, trivial⟩⟩ rfl rfl hl.1 rfl (lv_room (Nat.le_of_ble_eq_true rfl)) dX12_best_29 ⟨Nat.le_of_ble_eq_true rfl, Nat.le_of_ble_eq_true rfl⟩).run (fun r_25 hw_26 => ?_)
        rcases hw_26 with ⟨rfl, h_27, h_28⟩ | ⟨rfl, h_29⟩
        · skip
          rcases three h_27 h_28 with rfl | rfl | rfl
          · skip
            refine lv_if_ne (tgt := 38) hx hb dX12_best_32 (by decide) (fun _ => ?_) (fun c_30 => absurd c_30 (by decide))
            refine lv_iload hx hb dX12_best_38 (lv_at hl 4 rfl) ?_
            refine lv_iload_n hx hb dX12_best_40 rfl (lv_at hl 3 rfl) ?_
            refine lv_icmp_lt (tgt := 48) hx hb dX12_best_41 (by decide) (fun c_31 => ?_) (fun c_31 => ?_)
            · skip
              have c_31 : kk_22 < 1 := (nI_ltI (a := kk_22) (b := 1) (by omega) (by omega)).mp c_31
              refine lv_aload_n hx hb dX12_best_48 rfl (lv_at hl 0 rfl) ?_
              refine lv_iload_n hx hb dX12_best_49 rfl (lv_at hl 1 rfl) ?_
              refine lv_iload_n hx hb dX12_best_50 rfl (lv_at hl 2 rfl) ?_
              refine lv_iload_n hx hb dX12_best_51 rfl (lv_at hl 3 rfl) ?_
              have hPc := hP.sub (ws' := [(m0, .inr (14, [.int 0, .ref aS, .ref aI, .int 0, .int 0, .int 0, .int 0, .int 0, .int 0, .ref aB, .ref aT, .int 0, .int 0, .ref aG, .ref aO, .ref aN, .ref aD, .long bv, .ref aY, .int 0, .int 0, .int 0, .int 0])), (aS, .inl (cS, 901, .inl s0)), (aB, .inl (cB, 6, .inl fB)), (aO, .inl (cO, 36, .inr (.inl fO))), (aN, .inl (cN, 36, .inr (.inl fN))), (aD, .inl (cD, 36, .inl fD))]) [0, 1, 2, 3, 4, 5] rfl
              have hDc := hD.sub (ws' := [(m0, .inr (14, [.int 0, .ref aS, .ref aI, .int 0, .int 0, .int 0, .int 0, .int 0, .int 0, .ref aB, .ref aT, .int 0, .int 0, .ref aG, .ref aO, .ref aN, .ref aD, .long bv, .ref aY, .int 0, .int 0, .int 0, .int 0])), (aS, .inl (cS, 901, .inl s0)), (aB, .inl (cB, 6, .inl fB)), (aO, .inl (cO, 36, .inr (.inl fO))), (aN, .inl (cN, 36, .inr (.inl fN))), (aD, .inl (cD, 36, .inl fD))]) [0, 1, 2, 3, 4, 5] (by decide) rfl
              have hKc := hK.sub (tys' := [(cS, .int), (cB, .int), (cO, .long), (cN, .long), (cD, .int)]) [0, 1, 2, 3, 4] rfl
              have hFc := va_free (wc := [(m0, .inr (14, [.int 0, .ref aS, .ref aI, .int 0, .int 0, .int 0, .int 0, .int 0, .int 0, .ref aB, .ref aT, .int 0, .int 0, .ref aG, .ref aO, .ref aN, .ref aD, .long bv, .ref aY, .int 0, .int 0, .int 0, .int 0])), (aS, .inl (cS, 901, .inl s0)), (aB, .inl (cB, 6, .inl fB)), (aO, .inl (cO, 36, .inr (.inl fO))), (aN, .inl (cN, 36, .inr (.inl fN))), (aD, .inl (cD, 36, .inl fD))]) hD hS hA [0, 1, 2, 3, 4, 5] rfl
              refine va_calli (va_runV (As := [.int (nI jx_6), .int (nI jy_14), .int 1]) (rest := []) ⟨hx, hb, hml, hown, hts⟩ (c_bestRow1 l dC dI m0 aS aI aB aT aG aO aN aD aY bv cS cB cO cN cD fB fD fO fN jx_6 jy_14 H.size (by omega) (by omega)) (cwV 3 hts gX12_best_X12_bestRow rfl rfl rfl (by decide +kernel) ⟨Nat.le_of_ble_eq_true rfl, Nat.le_of_ble_eq_true rfl⟩) ⟨fun a U g mk q => by obtain ⟨q0, q1, qP, qK, qD⟩ := q; exact ⟨q0, q1, qP, va_K.moved (u := U) (U := U.calling g mk a) (Vm.Alike.refl U.vm) qK, qD⟩, va_recv hK hP (ci := 14) (q0 := 0) rfl rfl, fun U hU hW => ⟨rfl, by rw [hU], by rw [hU]; exact hPc, va_K.moved hW.alike hKc, hDc.weaken (fun _ _ _ _ => trivial)⟩⟩ rfl rfl hl.1 rfl (lv_room (Nat.le_of_ble_eq_true rfl)) dX12_best_52 ⟨Nat.le_of_ble_eq_true rfl, Nat.le_of_ble_eq_true rfl⟩) hS (fun q _ h => hFc q h) hFc (fun r_32 u tC H1 locs htC hvm hw_33 hB hz1 hk1 hS => ?_)
              obtain ⟨fB2_34, fO2_35, fN2_36, fD2_37, bv2_38⟩ := u
              try dsimp only at hw_33 hB
              obtain ⟨hP1, hK1, hD1⟩ := hB
              rw [htC] at hP1
              have hK1 := va_K.moved hvm.symm hK1
              obtain ⟨hP, hD⟩ := va_join (wr := []) (w1 := [(m0, .inr (14, [.int 0, .ref aS, .ref aI, .int 0, .int 0, .int 0, .int 0, .int 0, .int 0, .ref aB, .ref aT, .int 0, .int 0, .ref aG, .ref aO, .ref aN, .ref aD, .long bv2_38, .ref aY, .int 0, .int 0, .int 0, .int 0])), (aS, .inl (cS, 901, .inl s0)), (aB, .inl (cB, 6, .inl fB2_34)), (aO, .inl (cO, 36, .inr (.inl fO2_35))), (aN, .inl (cN, 36, .inr (.inl fN2_36))), (aD, .inl (cD, 36, .inl fD2_37))]) hP hD [0, 1, 2, 3, 4, 5] [] rfl rfl (by decide) (by decide) hk1 hFc hP1 hD1
              have hK := (hK.sub (tys' := []) [] rfl).app hK1
              generalize H1 = H at hP hS ⊢
              have hP : va_P (dC, dI) vwCl [(m0, .inr (14, [.int 0, .ref aS, .ref aI, .int 0, .int 0, .int 0, .int 0, .int 0, .int 0, .ref aB, .ref aT, .int 0, .int 0, .ref aG, .ref aO, .ref aN, .ref aD, .long bv2_38, .ref aY, .int 0, .int 0, .int 0, .int 0])), (aS, .inl (cS, 901, .inl s0)), (aB, .inl (cB, 6, .inl fB2_34)), (aO, .inl (cO, 36, .inr (.inl fO2_35))), (aN, .inl (cN, 36, .inr (.inl fN2_36))), (aD, .inl (cD, 36, .inl fD2_37))] H := hP
              have hD : va_D A [(m0, .inr (14, [.int 0, .ref aS, .ref aI, .int 0, .int 0, .int 0, .int 0, .int 0, .int 0, .ref aB, .ref aT, .int 0, .int 0, .ref aG, .ref aO, .ref aN, .ref aD, .long bv2_38, .ref aY, .int 0, .int 0, .int 0, .int 0])), (aS, .inl (cS, 901, .inl s0)), (aB, .inl (cB, 6, .inl fB2_34)), (aO, .inl (cO, 36, .inr (.inl fO2_35))), (aN, .inl (cN, 36, .inr (.inl fN2_36))), (aD, .inl (cD, 36, .inl fD2_37))] := hD
              have hK : va_K (dC, dI) vwCl [(cS, .int), (cB, .int), (cO, .long), (cN, .long), (cD, .int)] s := hK
              obtain ⟨gb_39, hgb_39, ggb_39, rfl⟩ := row_of (by omega) hw_33.1
              refine lv_iload_n hx hb dX12_best_55 rfl (lv_at hl 3 rfl) ?_
              refine lv_iload hx hb dX12_best_56 (lv_at hl 4 rfl) ?_
              refine vp_callSi (va_runS (As := [.int (nI gb_39), .int 1, .int (nI kk_22)]) (rest := []) ⟨hx, hb, hml, hown, hts⟩ (c_wayOf l dC dI gb_39 1 kk_22 (by omega) (by omega) (by omega)) (va_cwS 3 hts gX12_best_X12_wayOf rfl rfl rfl (by decide +kernel) ⟨Nat.le_of_ble_eq_true rfl, Nat.le_of_ble_eq_true rfl⟩) ⟨fun a U g mk q => ⟨q.1, trivial⟩, fun U hU hW => ⟨rfl, trivial⟩⟩ rfl rfl hl.1 rfl (lv_room (Nat.le_of_ble_eq_true rfl)) dX12_best_58 ⟨Nat.le_of_ble_eq_true rfl, Nat.le_of_ble_eq_true rfl⟩).run (fun r_40 hw_41 => ?_)
              rw [hQ]
              exact W.iret (v := r_40) hx hb hr (fun tQ htQ hWQ => ⟨⟨r_40, (), rfl, by rw [hw_41, show gb_39 = (GG (fun q => ind (pth 1 jx_6 q) 1 jy_14) 8).2 from hgb_39, bw1]; simp only [f_best, tA1, tA2, tA3, tB1, tB2, tB3, if_false, nI_clamp (n := jx_6) (by omega), nI_clamp (n := jy_14) (by omega), nI_clamp (n := kk_22) (by omega), tc1, tc2, tc3]; (repeat' split) <;> first | contradiction | with_reducible rfl | simp_all, trivial⟩, hS.F htQ⟩) hS.2.2 dX12_best_61
            · skip
              have c_31 : ¬ kk_22 < 1 := fun q => c_31 ((nI_ltI (a := kk_22) (b := 1) (by omega) (by omega)).mpr q)
              refine lv_iconst (v := (-1)) hx hb dX12_best_44 (by decide) ?_
              refine lv_goto (tgt := 61) hx hb dX12_best_45 (by decide) ?_
              rw [hQ]
              exact W.iret (v := (-1)) hx hb hr (fun tQ htQ hWQ => ⟨⟨(-1), (), rfl, by simp only [f_best, tA1, tA2, tA3, tB1, tB2, tB3, if_false]; (repeat' split) <;> first | contradiction | with_reducible rfl | (rcases (by assumption : _ ∨ _) with q | q <;> contradiction) | (simp_all; done) | (simp only [← Int32.not_lt] at *; simp_all), trivial⟩, hS.F htQ⟩) hS.2.2 dX12_best_61
          · skip
            refine lv_if_ne (tgt := 38) hx hb dX12_best_32 (by decide) (fun _ => ?_) (fun c_42 => absurd c_42 (by decide))
            refine lv_iload hx hb dX12_best_38 (lv_at hl 4 rfl) ?_
            refine lv_iload_n hx hb dX12_best_40 rfl (lv_at hl 3 rfl) ?_
            refine lv_icmp_lt (tgt := 48) hx hb dX12_best_41 (by decide) (fun c_43 => ?_) (fun c_43 => ?_)
            · skip
              have c_43 : kk_22 < 2 := (nI_ltI (a := kk_22) (b := 2) (by omega) (by omega)).mp c_43
              refine lv_aload_n hx hb dX12_best_48 rfl (lv_at hl 0 rfl) ?_
              refine lv_iload_n hx hb dX12_best_49 rfl (lv_at hl 1 rfl) ?_
              refine lv_iload_n hx hb dX12_best_50 rfl (lv_at hl 2 rfl) ?_
              refine lv_iload_n hx hb dX12_best_51 rfl (lv_at hl 3 rfl) ?_
              have hPc := hP.sub (ws' := [(m0, .inr (14, [.int 0, .ref aS, .ref aI, .int 0, .int 0, .int 0, .int 0, .int 0, .int 0, .ref aB, .ref aT, .int 0, .int 0, .ref aG, .ref aO, .ref aN, .ref aD, .long bv, .ref aY, .int 0, .int 0, .int 0, .int 0])), (aS, .inl (cS, 901, .inl s0)), (aB, .inl (cB, 6, .inl fB)), (aO, .inl (cO, 36, .inr (.inl fO))), (aN, .inl (cN, 36, .inr (.inl fN))), (aD, .inl (cD, 36, .inl fD))]) [0, 1, 2, 3, 4, 5] rfl
              have hDc := hD.sub (ws' := [(m0, .inr (14, [.int 0, .ref aS, .ref aI, .int 0, .int 0, .int 0, .int 0, .int 0, .int 0, .ref aB, .ref aT, .int 0, .int 0, .ref aG, .ref aO, .ref aN, .ref aD, .long bv, .ref aY, .int 0, .int 0, .int 0, .int 0])), (aS, .inl (cS, 901, .inl s0)), (aB, .inl (cB, 6, .inl fB)), (aO, .inl (cO, 36, .inr (.inl fO))), (aN, .inl (cN, 36, .inr (.inl fN))), (aD, .inl (cD, 36, .inl fD))]) [0, 1, 2, 3, 4, 5] (by decide) rfl
              have hKc := hK.sub (tys' := [(cS, .int), (cB, .int), (cO, .long), (cN, .long), (cD, .int)]) [0, 1, 2, 3, 4] rfl
              have hFc := va_free (wc := [(m0, .inr (14, [.int 0, .ref aS, .ref aI, .int 0, .int 0, .int 0, .int 0, .int 0, .int 0, .ref aB, .ref aT, .int 0, .int 0, .ref aG, .ref aO, .ref aN, .ref aD, .long bv, .ref aY, .int 0, .int 0, .int 0, .int 0])), (aS, .inl (cS, 901, .inl s0)), (aB, .inl (cB, 6, .inl fB)), (aO, .inl (cO, 36, .inr (.inl fO))), (aN, .inl (cN, 36, .inr (.inl fN))), (aD, .inl (cD, 36, .inl fD))]) hD hS hA [0, 1, 2, 3, 4, 5] rfl
              refine va_calli (va_runV (As := [.int (nI jx_6), .int (nI jy_14), .int 2]) (rest := []) ⟨hx, hb, hml, hown, hts⟩ (c_bestRow2 l dC dI m0 aS aI aB aT aG aO aN aD aY bv cS cB cO cN cD fB fD fO fN jx_6 jy_14 H.size (by omega) (by omega)) (cwV 3 hts gX12_best_X12_bestRow rfl rfl rfl (by decide +kernel) ⟨Nat.le_of_ble_eq_true rfl, Nat.le_of_ble_eq_true rfl⟩) ⟨fun a U g mk q => by obtain ⟨q0, q1, qP, qK, qD⟩ := q; exact ⟨q0, q1, qP, va_K.moved (u := U) (U := U.calling g mk a) (Vm.Alike.refl U.vm) qK, qD⟩, va_recv hK hP (ci := 14) (q0 := 0) rfl rfl, fun U hU hW => ⟨rfl, by rw [hU], by rw [hU]; exact hPc, va_K.moved hW.alike hKc, hDc.weaken (fun _ _ _ _ => trivial)⟩⟩ rfl rfl hl.1 rfl (lv_room (Nat.le_of_ble_eq_true rfl)) dX12_best_52 ⟨Nat.le_of_ble_eq_true rfl, Nat.le_of_ble_eq_true rfl⟩) hS (fun q _ h => hFc q h) hFc (fun r_44 u tC H1 locs htC hvm hw_45 hB hz1 hk1 hS => ?_)
              obtain ⟨fB2_46, fO2_47, fN2_48, fD2_49, bv2_50⟩ := u
              try dsimp only at hw_45 hB
              obtain ⟨hP1, hK1, hD1⟩ := hB
              rw [htC] at hP1
              have hK1 := va_K.moved hvm.symm hK1
              obtain ⟨hP, hD⟩ := va_join (wr := []) (w1 := [(m0, .inr (14, [.int 0, .ref aS, .ref aI, .int 0, .int 0, .int 0, .int 0, .int 0, .int 0, .ref aB, .ref aT, .int 0, .int 0, .ref aG, .ref aO, .ref aN, .ref aD, .long bv2_50, .ref aY, .int 0, .int 0, .int 0, .int 0])), (aS, .inl (cS, 901, .inl s0)), (aB, .inl (cB, 6, .inl fB2_46)), (aO, .inl (cO, 36, .inr (.inl fO2_47))), (aN, .inl (cN, 36, .inr (.inl fN2_48))), (aD, .inl (cD, 36, .inl fD2_49))]) hP hD [0, 1, 2, 3, 4, 5] [] rfl rfl (by decide) (by decide) hk1 hFc hP1 hD1
              have hK := (hK.sub (tys' := []) [] rfl).app hK1
              generalize H1 = H at hP hS ⊢
              have hP : va_P (dC, dI) vwCl [(m0, .inr (14, [.int 0, .ref aS, .ref aI, .int 0, .int 0, .int 0, .int 0, .int 0, .int 0, .ref aB, .ref aT, .int 0, .int 0, .ref aG, .ref aO, .ref aN, .ref aD, .long bv2_50, .ref aY, .int 0, .int 0, .int 0, .int 0])), (aS, .inl (cS, 901, .inl s0)), (aB, .inl (cB, 6, .inl fB2_46)), (aO, .inl (cO, 36, .inr (.inl fO2_47))), (aN, .inl (cN, 36, .inr (.inl fN2_48))), (aD, .inl (cD, 36, .inl fD2_49))] H := hP
              have hD : va_D A [(m0, .inr (14, [.int 0, .ref aS, .ref aI, .int 0, .int 0, .int 0, .int 0, .int 0, .int 0, .ref aB, .ref aT, .int 0, .int 0, .ref aG, .ref aO, .ref aN, .ref aD, .long bv2_50, .ref aY, .int 0, .int 0, .int 0, .int 0])), (aS, .inl (cS, 901, .inl s0)), (aB, .inl (cB, 6, .inl fB2_46)), (aO, .inl (cO, 36, .inr (.inl fO2_47))), (aN, .inl (cN, 36, .inr (.inl fN2_48))), (aD, .inl (cD, 36, .inl fD2_49))] := hD
              have hK : va_K (dC, dI) vwCl [(cS, .int), (cB, .int), (cO, .long), (cN, .long), (cD, .int)] s := hK
              obtain ⟨gb_51, hgb_51, ggb_51, rfl⟩ := row_of (by omega) hw_45.1
              refine lv_iload_n hx hb dX12_best_55 rfl (lv_at hl 3 rfl) ?_
              refine lv_iload hx hb dX12_best_56 (lv_at hl 4 rfl) ?_
              refine vp_callSi (va_runS (As := [.int (nI gb_51), .int 2, .int (nI kk_22)]) (rest := []) ⟨hx, hb, hml, hown, hts⟩ (c_wayOf l dC dI gb_51 2 kk_22 (by omega) (by omega) (by omega)) (va_cwS 3 hts gX12_best_X12_wayOf rfl rfl rfl (by decide +kernel) ⟨Nat.le_of_ble_eq_true rfl, Nat.le_of_ble_eq_true rfl⟩) ⟨fun a U g mk q => ⟨q.1, trivial⟩, fun U hU hW => ⟨rfl, trivial⟩⟩ rfl rfl hl.1 rfl (lv_room (Nat.le_of_ble_eq_true rfl)) dX12_best_58 ⟨Nat.le_of_ble_eq_true rfl, Nat.le_of_ble_eq_true rfl⟩).run (fun r_52 hw_53 => ?_)
              rw [hQ]
              exact W.iret (v := r_52) hx hb hr (fun tQ htQ hWQ => ⟨⟨r_52, (), rfl, by rw [hw_53, show gb_51 = (GG (fun q => ind (pth 2 jx_6 q) 2 jy_14) 64).2 from hgb_51, bw2]; simp only [f_best, tA1, tA2, tA3, tB1, tB2, tB3, if_false, nI_clamp (n := jx_6) (by omega), nI_clamp (n := jy_14) (by omega), nI_clamp (n := kk_22) (by omega), tc1, tc2, tc3]; (repeat' split) <;> first | contradiction | with_reducible rfl | simp_all, trivial⟩, hS.F htQ⟩) hS.2.2 dX12_best_61
            · skip
              have c_43 : ¬ kk_22 < 2 := fun q => c_43 ((nI_ltI (a := kk_22) (b := 2) (by omega) (by omega)).mpr q)
              refine lv_iconst (v := (-1)) hx hb dX12_best_44 (by decide) ?_
              refine lv_goto (tgt := 61) hx hb dX12_best_45 (by decide) ?_
              rw [hQ]
              exact W.iret (v := (-1)) hx hb hr (fun tQ htQ hWQ => ⟨⟨(-1), (), rfl, by simp only [f_best, tA1, tA2, tA3, tB1, tB2, tB3, if_false]; (repeat' split) <;> first | contradiction | with_reducible rfl | (rcases (by assumption : _ ∨ _) with q | q <;> contradiction) | (simp_all; done) | (simp only [← Int32.not_lt] at *; simp_all), trivial⟩, hS.F htQ⟩) hS.2.2 dX12_best_61
          · skip
            refine lv_if_ne (tgt := 38) hx hb dX12_best_32 (by decide) (fun _ => ?_) (fun c_54 => absurd c_54 (by decide))
            refine lv_iload hx hb dX12_best_38 (lv_at hl 4 rfl) ?_
            refine lv_iload_n hx hb dX12_best_40 rfl (lv_at hl 3 rfl) ?_
            refine lv_icmp_lt (tgt := 48) hx hb dX12_best_41 (by decide) (fun c_55 => ?_) (fun c_55 => ?_)
            · skip
              have c_55 : kk_22 < 3 := (nI_ltI (a := kk_22) (b := 3) (by omega) (by omega)).mp c_55
              refine lv_aload_n hx hb dX12_best_48 rfl (lv_at hl 0 rfl) ?_
              refine lv_iload_n hx hb dX12_best_49 rfl (lv_at hl 1 rfl) ?_
              refine lv_iload_n hx hb dX12_best_50 rfl (lv_at hl 2 rfl) ?_
              refine lv_iload_n hx hb dX12_best_51 rfl (lv_at hl 3 rfl) ?_
              have hPc := hP.sub (ws' := [(m0, .inr (14, [.int 0, .ref aS, .ref aI, .int 0, .int 0, .int 0, .int 0, .int 0, .int 0, .ref aB, .ref aT, .int 0, .int 0, .ref aG, .ref aO, .ref aN, .ref aD, .long bv, .ref aY, .int 0, .int 0, .int 0, .int 0])), (aS, .inl (cS, 901, .inl s0)), (aB, .inl (cB, 6, .inl fB)), (aO, .inl (cO, 36, .inr (.inl fO))), (aN, .inl (cN, 36, .inr (.inl fN))), (aD, .inl (cD, 36, .inl fD))]) [0, 1, 2, 3, 4, 5] rfl
              have hDc := hD.sub (ws' := [(m0, .inr (14, [.int 0, .ref aS, .ref aI, .int 0, .int 0, .int 0, .int 0, .int 0, .int 0, .ref aB, .ref aT, .int 0, .int 0, .ref aG, .ref aO, .ref aN, .ref aD, .long bv, .ref aY, .int 0, .int 0, .int 0, .int 0])), (aS, .inl (cS, 901, .inl s0)), (aB, .inl (cB, 6, .inl fB)), (aO, .inl (cO, 36, .inr (.inl fO))), (aN, .inl (cN, 36, .inr (.inl fN))), (aD, .inl (cD, 36, .inl fD))]) [0, 1, 2, 3, 4, 5] (by decide) rfl
              have hKc := hK.sub (tys' := [(cS, .int), (cB, .int), (cO, .long), (cN, .long), (cD, .int)]) [0, 1, 2, 3, 4] rfl
              have hFc := va_free (wc := [(m0, .inr (14, [.int 0, .ref aS, .ref aI, .int 0, .int 0, .int 0, .int 0, .int 0, .int 0, .ref aB, .ref aT, .int 0, .int 0, .ref aG, .ref aO, .ref aN, .ref aD, .long bv, .ref aY, .int 0, .int 0, .int 0, .int 0])), (aS, .inl (cS, 901, .inl s0)), (aB, .inl (cB, 6, .inl fB)), (aO, .inl (cO, 36, .inr (.inl fO))), (aN, .inl (cN, 36, .inr (.inl fN))), (aD, .inl (cD, 36, .inl fD))]) hD hS hA [0, 1, 2, 3, 4, 5] rfl
              refine va_calli (va_runV (As := [.int (nI jx_6), .int (nI jy_14), .int 3]) (rest := []) ⟨hx, hb, hml, hown, hts⟩ (c_bestRow3 l dC dI m0 aS aI aB aT aG aO aN aD aY bv cS cB cO cN cD fB fD fO fN jx_6 jy_14 H.size (by omega) (by omega)) (cwV 3 hts gX12_best_X12_bestRow rfl rfl rfl (by decide +kernel) ⟨Nat.le_of_ble_eq_true rfl, Nat.le_of_ble_eq_true rfl⟩) ⟨fun a U g mk q => by obtain ⟨q0, q1, qP, qK, qD⟩ := q; exact ⟨q0, q1, qP, va_K.moved (u := U) (U := U.calling g mk a) (Vm.Alike.refl U.vm) qK, qD⟩, va_recv hK hP (ci := 14) (q0 := 0) rfl rfl, fun U hU hW => ⟨rfl, by rw [hU], by rw [hU]; exact hPc, va_K.moved hW.alike hKc, hDc.weaken (fun _ _ _ _ => trivial)⟩⟩ rfl rfl hl.1 rfl (lv_room (Nat.le_of_ble_eq_true rfl)) dX12_best_52 ⟨Nat.le_of_ble_eq_true rfl, Nat.le_of_ble_eq_true rfl⟩) hS (fun q _ h => hFc q h) hFc (fun r_56 u tC H1 locs htC hvm hw_57 hB hz1 hk1 hS => ?_)
              obtain ⟨fB2_58, fO2_59, fN2_60, fD2_61, bv2_62⟩ := u
              try dsimp only at hw_57 hB
              obtain ⟨hP1, hK1, hD1⟩ := hB
              rw [htC] at hP1
              have hK1 := va_K.moved hvm.symm hK1
              obtain ⟨hP, hD⟩ := va_join (wr := []) (w1 := [(m0, .inr (14, [.int 0, .ref aS, .ref aI, .int 0, .int 0, .int 0, .int 0, .int 0, .int 0, .ref aB, .ref aT, .int 0, .int 0, .ref aG, .ref aO, .ref aN, .ref aD, .long bv2_62, .ref aY, .int 0, .int 0, .int 0, .int 0])), (aS, .inl (cS, 901, .inl s0)), (aB, .inl (cB, 6, .inl fB2_58)), (aO, .inl (cO, 36, .inr (.inl fO2_59))), (aN, .inl (cN, 36, .inr (.inl fN2_60))), (aD, .inl (cD, 36, .inl fD2_61))]) hP hD [0, 1, 2, 3, 4, 5] [] rfl rfl (by decide) (by decide) hk1 hFc hP1 hD1
              have hK := (hK.sub (tys' := []) [] rfl).app hK1
              generalize H1 = H at hP hS ⊢
              have hP : va_P (dC, dI) vwCl [(m0, .inr (14, [.int 0, .ref aS, .ref aI, .int 0, .int 0, .int 0, .int 0, .int 0, .int 0, .ref aB, .ref aT, .int 0, .int 0, .ref aG, .ref aO, .ref aN, .ref aD, .long bv2_62, .ref aY, .int 0, .int 0, .int 0, .int 0])), (aS, .inl (cS, 901, .inl s0)), (aB, .inl (cB, 6, .inl fB2_58)), (aO, .inl (cO, 36, .inr (.inl fO2_59))), (aN, .inl (cN, 36, .inr (.inl fN2_60))), (aD, .inl (cD, 36, .inl fD2_61))] H := hP
              have hD : va_D A [(m0, .inr (14, [.int 0, .ref aS, .ref aI, .int 0, .int 0, .int 0, .int 0, .int 0, .int 0, .ref aB, .ref aT, .int 0, .int 0, .ref aG, .ref aO, .ref aN, .ref aD, .long bv2_62, .ref aY, .int 0, .int 0, .int 0, .int 0])), (aS, .inl (cS, 901, .inl s0)), (aB, .inl (cB, 6, .inl fB2_58)), (aO, .inl (cO, 36, .inr (.inl fO2_59))), (aN, .inl (cN, 36, .inr (.inl fN2_60))), (aD, .inl (cD, 36, .inl fD2_61))] := hD
              have hK : va_K (dC, dI) vwCl [(cS, .int), (cB, .int), (cO, .long), (cN, .long), (cD, .int)] s := hK
              obtain ⟨gb_63, hgb_63, ggb_63, rfl⟩ := row_of (by omega) hw_57.1
              refine lv_iload_n hx hb dX12_best_55 rfl (lv_at hl 3 rfl) ?_
              refine lv_iload hx hb dX12_best_56 (lv_at hl 4 rfl) ?_
              refine vp_callSi (va_runS (As := [.int (nI gb_63), .int 3, .int (nI kk_22)]) (rest := []) ⟨hx, hb, hml, hown, hts⟩ (c_wayOf l dC dI gb_63 3 kk_22 (by omega) (by omega) (by omega)) (va_cwS 3 hts gX12_best_X12_wayOf rfl rfl rfl (by decide +kernel) ⟨Nat.le_of_ble_eq_true rfl, Nat.le_of_ble_eq_true rfl⟩) ⟨fun a U g mk q => ⟨q.1, trivial⟩, fun U hU hW => ⟨rfl, trivial⟩⟩ rfl rfl hl.1 rfl (lv_room (Nat.le_of_ble_eq_true rfl)) dX12_best_58 ⟨Nat.le_of_ble_eq_true rfl, Nat.le_of_ble_eq_true rfl⟩).run (fun r_64 hw_65 => ?_)
              rw [hQ]
              exact W.iret (v := r_64) hx hb hr (fun tQ htQ hWQ => ⟨⟨r_64, (), rfl, by rw [hw_65, show gb_63 = (GG (fun q => ind (pth 3 jx_6 q) 3 jy_14) 512).2 from hgb_63, bw3]; simp only [f_best, tA1, tA2, tA3, tB1, tB2, tB3, if_false, nI_clamp (n := jx_6) (by omega), nI_clamp (n := jy_14) (by omega), nI_clamp (n := kk_22) (by omega), tc1, tc2, tc3]; (repeat' split) <;> first | contradiction | with_reducible rfl | simp_all, trivial⟩, hS.F htQ⟩) hS.2.2 dX12_best_61
            · skip
              have c_55 : ¬ kk_22 < 3 := fun q => c_55 ((nI_ltI (a := kk_22) (b := 3) (by omega) (by omega)).mpr q)
              refine lv_iconst (v := (-1)) hx hb dX12_best_44 (by decide) ?_
              refine lv_goto (tgt := 61) hx hb dX12_best_45 (by decide) ?_
              rw [hQ]
              exact W.iret (v := (-1)) hx hb hr (fun tQ htQ hWQ => ⟨⟨(-1), (), rfl, by simp only [f_best, tA1, tA2, tA3, tB1, tB2, tB3, if_false]; (repeat' split) <;> first | contradiction | with_reducible rfl | (rcases (by assumption : _ ∨ _) with q | q <;> contradiction) | (simp_all; done) | (simp only [← Int32.not_lt] at *; simp_all), trivial⟩, hS.F htQ⟩) hS.2.2 dX12_best_61
        · skip
          refine lv_if_ne (tgt := 38) hx hb dX12_best_32 (by decide) (fun c_66 => absurd c_66 (by decide)) (fun _ => ?_)
          refine lv_bipush (v := (-2)) hx hb dX12_best_35 (by decide) ?_
          rw [hQ]
          exact W.iret (v := (-2)) hx hb hr (fun tQ htQ hWQ => ⟨⟨(-2), (), rfl, by simp only [f_best, tA1, tA2, tA3, tB1, tB2, tB3, if_false]; (repeat' split) <;> first | contradiction | with_reducible rfl | (rcases (by assumption : _ ∨ _) with q | q <;> contradiction) | (simp_all; done) | (simp only [← Int32.not_lt] at *; simp_all), trivial⟩, hS.F htQ⟩) hS.2.2 dX12_best_37
      · skip
        refine lv_if_ne (tgt := 26) hx hb dX12_best_21 (by decide) (fun c_67 => absurd c_67 (by decide)) (fun _ => ?_)
        refine lv_iconst (v := (-1)) hx hb dX12_best_24 (by decide) ?_
        rw [hQ]
        exact W.iret (v := (-1)) hx hb hr (fun tQ htQ hWQ => ⟨⟨(-1), (), rfl, by simp only [f_best, tA1, tA2, tA3, tB1, tB2, tB3, if_false]; (repeat' split) <;> first | contradiction | with_reducible rfl | (rcases (by assumption : _ ∨ _) with q | q <;> contradiction) | (simp_all; done) | (simp only [← Int32.not_lt] at *; simp_all), trivial⟩, hS.F htQ⟩) hS.2.2 dX12_best_25
    · skip
      refine lv_if_eq (tgt := 24) hx hb dX12_best_11 (by decide) (fun _ => ?_) (fun c_68 => absurd c_68 (by decide))
      refine lv_iconst (v := (-1)) hx hb dX12_best_24 (by decide) ?_
      rw [hQ]
      exact W.iret (v := (-1)) hx hb hr (fun tQ htQ hWQ => ⟨⟨(-1), (), rfl, by simp only [f_best, tA1, tA2, tA3, tB1, tB2, tB3, if_false]; (repeat' split) <;> first | contradiction | with_reducible rfl | (rcases (by assumption : _ ∨ _) with q | q <;> contradiction) | (simp_all; done) | (simp only [← Int32.not_lt] at *; simp_all), trivial⟩, hS.F htQ⟩) hS.2.2 dX12_best_25
  · skip
    refine lv_if_eq (tgt := 24) hx hb dX12_best_4 (by decide) (fun _ => ?_) (fun c_69 => absurd c_69 (by decide))
    refine lv_iconst (v := (-1)) hx hb dX12_best_24 (by decide) ?_
    rw [hQ]
    exact W.iret (v := (-1)) hx hb hr (fun tQ htQ hWQ => ⟨⟨(-1), (), rfl, by simp only [f_best, tA1, tA2, tA3, tB1, tB2, tB3, if_false]; (repeat' split) <;> first | contradiction | with_reducible rfl | (rcases (by assumption : _ ∨ _) with q | q <;> contradiction) | (simp_all; done) | (simp only [← Int32.not_lt] at *; simp_all), trivial⟩, hS.F htQ⟩) hS.2.2 dX12_best_25
