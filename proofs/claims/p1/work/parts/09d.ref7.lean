theorem dX12_safe_0 : decode cX12_safe 0 = .ok (.iload_n 1, 1) := by decide +kernel
set_option maxRecDepth 20000 in
theorem ggX12_safe_X12_isCell : GoodIn wsX12_safe wsX12_isCell := goodIn_r _ [4, 5, 6, 3, 7] (by decide +kernel) (by decide +kernel)
set_option maxRecDepth 20000 in
theorem gX12_safe_X12_isCell : GoodIn wsX12_safe (va_wsS RX12 149 yX12_isCell wsX12_isCell) := goodIn_app (goodIn_of _ (by decide +kernel)) ggX12_safe_X12_isCell
theorem dX12_safe_1 : decode cX12_safe 1 = .ok (.invokestatic 149, 3) := by decide +kernel
theorem dX12_safe_4 : decode cX12_safe 4 = .ok (.ifCond .eq 12, 3) := by decide +kernel
theorem dX12_safe_7 : decode cX12_safe 7 = .ok (.iload_n 3, 1) := by decide +kernel
theorem dX12_safe_8 : decode cX12_safe 8 = .ok (.iconst 0, 1) := by decide +kernel
theorem dX12_safe_9 : decode cX12_safe 9 = .ok (.iconst 2, 1) := by decide +kernel
set_option maxRecDepth 20000 in
theorem ggX12_safe_X12_in : GoodIn wsX12_safe wsX12_in := goodIn_r _ [7] (by decide +kernel) (by decide +kernel)
set_option maxRecDepth 20000 in
theorem gX12_safe_X12_in : GoodIn wsX12_safe (va_wsS RX12 45 yX12_in wsX12_in) := goodIn_app (goodIn_of _ (by decide +kernel)) ggX12_safe_X12_in
theorem dX12_safe_10 : decode cX12_safe 10 = .ok (.invokestatic 45, 3) := by decide +kernel
theorem dX12_safe_13 : decode cX12_safe 13 = .ok (.ifCond .ne 5, 3) := by decide +kernel
theorem dX12_safe_18 : decode cX12_safe 18 = .ok (.iload_n 2, 1) := by decide +kernel
theorem dX12_safe_19 : decode cX12_safe 19 = .ok (.iconst 1, 1) := by decide +kernel
theorem dX12_safe_20 : decode cX12_safe 20 = .ok (.iconst 3, 1) := by decide +kernel
theorem dX12_safe_21 : decode cX12_safe 21 = .ok (.invokestatic 45, 3) := by decide +kernel
theorem dX12_safe_24 : decode cX12_safe 24 = .ok (.ifCond .ne 6, 3) := by decide +kernel
theorem dX12_safe_30 : decode cX12_safe 30 = .ok (.iload_n 3, 1) := by decide +kernel
theorem dX12_safe_31 : decode cX12_safe 31 = .ok (.iload_n 2, 1) := by decide +kernel
theorem dX12_safe_32 : decode cX12_safe 32 = .ok (.if_icmp .lt 7, 3) := by decide +kernel
theorem dX12_safe_39 : decode cX12_safe 39 = .ok (.aload_n 0, 1) := by decide +kernel
theorem dX12_safe_40 : decode cX12_safe 40 = .ok (.iload_n 1, 1) := by decide +kernel
theorem dX12_safe_41 : decode cX12_safe 41 = .ok (.iconst (-1), 1) := by decide +kernel
theorem dX12_safe_42 : decode cX12_safe 42 = .ok (.iload_n 2, 1) := by decide +kernel
set_option maxRecDepth 20000 in
theorem ggX12_safe_X12_bestRow : GoodIn wsX12_safe wsX12_bestRow := goodIn_r _ [11, 12, 13, 14, 15, 16, 3, 17, 18, 19, 20, 21, 22, 23, 24, 25, 26, 27, 28, 29, 30, 31, 32, 33, 34, 35, 36, 37, 38, 39, 40, 41, 42, 43, 44, 45, 46, 47, 48, 49, 50, 51, 52, 53, 54, 5, 6, 7, 55, 56, 57, 58, 62, 63, 64, 65, 66, 67, 68, 69, 70, 71, 72, 73, 74, 75, 76, 77, 78, 79, 80, 81, 82, 83, 84] (by decide +kernel) (by decide +kernel)
set_option maxRecDepth 20000 in
theorem gX12_safe_X12_bestRow : GoodIn wsX12_safe (wsV RX12 240 RX12 yX12_bestRow wsX12_bestRow) := goodIn_app (goodIn_of _ (by decide +kernel)) ggX12_safe_X12_bestRow
theorem dX12_safe_43 : decode cX12_safe 43 = .ok (.invokevirtual 240, 3) := by decide +kernel
theorem dX12_safe_46 : decode cX12_safe 46 = .ok (.iload_n 2, 1) := by decide +kernel
theorem dX12_safe_47 : decode cX12_safe 47 = .ok (.iload_n 3, 1) := by decide +kernel
set_option maxRecDepth 20000 in
theorem ggX12_safe_X12_wayOf : GoodIn wsX12_safe wsX12_wayOf := goodIn_r _ [61] (by decide +kernel) (by decide +kernel)
set_option maxRecDepth 20000 in
theorem gX12_safe_X12_wayOf : GoodIn wsX12_safe (va_wsS RX12 243 yX12_wayOf wsX12_wayOf) := goodIn_app (goodIn_of _ (by decide +kernel)) ggX12_safe_X12_wayOf
theorem dX12_safe_48 : decode cX12_safe 48 = .ok (.invokestatic 243, 3) := by decide +kernel
theorem dX12_safe_51 : decode cX12_safe 51 = .ok (.ireturn, 1) := by decide +kernel
theorem dX12_safe_35 : decode cX12_safe 35 = .ok (.iconst (-1), 1) := by decide +kernel
theorem dX12_safe_36 : decode cX12_safe 36 = .ok (.goto 15, 3) := by decide +kernel
theorem dX12_safe_27 : decode cX12_safe 27 = .ok (.bipush (-2), 2) := by decide +kernel
theorem dX12_safe_29 : decode cX12_safe 29 = .ok (.ireturn, 1) := by decide +kernel
theorem dX12_safe_16 : decode cX12_safe 16 = .ok (.iconst (-1), 1) := by decide +kernel
theorem dX12_safe_17 : decode cX12_safe 17 = .ok (.ireturn, 1) := by decide +kernel
set_option maxHeartbeats 4000000 in
set_option maxRecDepth 100000 in
theorem c_mSafe (l : Launch) (dC : Nat → ClassId) (dI : Nat → Nat → Nat) (m0 aS aI aB aT aG aO aN aD aY : Nat) (bv : Int64) (cS cB cO cN cD : ClassId) (fB fD : Nat → Int32) (fO fN : Nat → Int64) (x n k : Int32) (sz : Nat) : Met l yX12_safe wsX12_safe ({ frames := 6, cells := 0, slots := 0, locals := 142 } : Room) (va_Pc [.ref m0, .int x, .int n, .int k] (fun U => U.heap.size = sz ∧ va_P (dC, dI) vwCl [(m0, .inr (14, [.int 0, .ref aS, .ref aI, .int 0, .int 0, .int 0, .int 0, .int 0, .int 0, .ref aB, .ref aT, .int 0, .int 0, .ref aG, .ref aO, .ref aN, .ref aD, .long bv, .ref aY, .int 0, .int 0, .int 0, .int 0])), (aS, .inl (cS, 901, .inl s0)), (aB, .inl (cB, 6, .inl fB)), (aO, .inl (cO, 36, .inr (.inl fO))), (aN, .inl (cN, 36, .inr (.inl fN))), (aD, .inl (cD, 36, .inl fD))] U.heap ∧ va_K (dC, dI) vwCl [(cS, .int), (cB, .int), (cO, .long), (cN, .long), (cD, .int)] U ∧ va_D (fun _ => True) [(m0, .inr (14, [.int 0, .ref aS, .ref aI, .int 0, .int 0, .int 0, .int 0, .int 0, .int 0, .ref aB, .ref aT, .int 0, .int 0, .ref aG, .ref aO, .ref aN, .ref aD, .long bv, .ref aY, .int 0, .int 0, .int 0, .int 0])), (aS, .inl (cS, 901, .inl s0)), (aB, .inl (cB, 6, .inl fB)), (aO, .inl (cO, 36, .inr (.inl fO))), (aN, .inl (cN, 36, .inr (.inl fN))), (aD, .inl (cD, 36, .inl fD))])) (va_Qi (fun (r : Int32) (u : Unit) => match u with | () => r = f_safe x n k) (fun (u : Unit) (t : State) => match u with | () => True) (va_A [(m0, .inr (14, [.int 0, .ref aS, .ref aI, .int 0, .int 0, .int 0, .int 0, .int 0, .int 0, .ref aB, .ref aT, .int 0, .int 0, .ref aG, .ref aO, .ref aN, .ref aD, .long bv, .ref aY, .int 0, .int 0, .int 0, .int 0])), (aS, .inl (cS, 901, .inl s0)), (aB, .inl (cB, 6, .inl fB)), (aO, .inl (cO, 36, .inr (.inl fO))), (aN, .inl (cN, 36, .inr (.inl fN))), (aD, .inl (cD, 36, .inl fD))] sz)) 0 0 (va_A [(m0, .inr (14, [.int 0, .ref aS, .ref aI, .int 0, .int 0, .int 0, .int 0, .int 0, .int 0, .ref aB, .ref aT, .int 0, .int 0, .ref aG, .ref aO, .ref aN, .ref aD, .long bv, .ref aY, .int 0, .int 0, .int 0, .int 0])), (aS, .inl (cS, 901, .inl s0)), (aB, .inl (cB, 6, .inl fB)), (aO, .inl (cO, 36, .inr (.inl fO))), (aN, .inl (cN, 36, .inr (.inl fN))), (aD, .inl (cD, 36, .inl fD))] sz) := by
  refine met_ofQ (cc := cX12_safe) (maxL := 4) (ret := (some .int)) (by decide) rfl ?_
  intro p e s m args below meth c s₁ Q B hml hv hQ
  obtain ⟨rfl, hsz, hP, hK, hD0⟩ := hv
  have hx := B.exec
  have hb := B.bytes
  have hr := B.returns
  have hts := atoms_spec (ws := wsX12_safe) B.pre
  have hown : s.vm.findClass RX12 = some m.cls := findClass_of_methodNamed B.named
  have hlocks := B.notSynchronized
  subst hsz
  have hD := hD0.self (sz := s.heap.size)
  generalize hAe : va_A [(m0, .inr (14, [.int 0, .ref aS, .ref aI, .int 0, .int 0, .int 0, .int 0, .int 0, .int 0, .ref aB, .ref aT, .int 0, .int 0, .ref aG, .ref aO, .ref aN, .ref aD, .long bv, .ref aY, .int 0, .int 0, .int 0, .int 0])), (aS, .inl (cS, 901, .inl s0)), (aB, .inl (cB, 6, .inl fB)), (aO, .inl (cO, 36, .inr (.inl fO))), (aN, .inl (cN, 36, .inr (.inl fN))), (aD, .inl (cD, 36, .inl fD))] s.heap.size = A at hD hQ ⊢
  have hA : ∀ q : Nat, s.heap.size ≤ q → A q := fun q h => by rw [← hAe]; exact Or.inr h
  have hS : va_S A s.heap s.heap [] := va_S.rf
  have hl := lv_entry [.ref m0, .int x, .int n, .int k] (n := 4) (Nat.le_of_ble_eq_true rfl)
  rw [lg_entry_eq]
  generalize (lg_sl [.ref m0, .int x, .int n, .int k] ++ List.replicate (4 - (lg_sl [.ref m0, .int x, .int n, .int k]).length) Slot.unset).toArray = ls at hl ⊢
  generalize hag : ([.ref m0, .int x, .int n, .int k] : List Value).toArray = args at hts hQ ⊢
  have hl : lv_has ls 4 [(0, .ref m0), (1, .int x), (2, .int n), (3, .int k)] := hl
  obtain ⟨H, hH⟩ : ∃ H : Heap, H = s.heap := ⟨_, rfl⟩
  rw [← hH] at hP
  rw [← hH]
  have hS : va_S A s.heap H [] := by rw [hH]; exact hS
  obtain ⟨locs, hlo⟩ : ∃ L : List Loc, L = [] := ⟨_, rfl⟩
  rw [← hlo] at hS
  rw [← hlo]
  clear hH hlo
  refine lv_iload_n hx hb dX12_safe_0 rfl (lv_at hl 1 rfl) ?_
  refine vp_callSi (va_runS (As := [.int x]) (rest := []) ⟨hx, hb, hml, hown, hts⟩ (c_mCell l dC dI x) (va_cwS 1 hts gX12_safe_X12_isCell rfl rfl rfl (by decide +kernel) ⟨Nat.le_of_ble_eq_true rfl, Nat.le_of_ble_eq_true rfl⟩) ⟨fun a U g mk q => ⟨q.1, trivial⟩, fun U hU hW => ⟨rfl, trivial⟩⟩ rfl rfl hl.1 rfl (lv_room (Nat.le_of_ble_eq_true rfl)) dX12_safe_1 ⟨Nat.le_of_ble_eq_true rfl, Nat.le_of_ble_eq_true rfl⟩).run (fun r_1 hw_2 => ?_)
  rcases hw_2 with ⟨rfl, h_3, h_4⟩ | ⟨rfl, h_5⟩
  · skip
    obtain ⟨jx_6, hj_7, rfl⟩ := in_of (n := 35) (M := 35) rfl h_3 h_4
    refine lv_if_eq (tgt := 16) hx hb dX12_safe_4 (by decide) (fun c_8 => absurd c_8 (by decide)) (fun _ => ?_)
    refine lv_iload_n hx hb dX12_safe_7 rfl (lv_at hl 3 rfl) ?_
    refine lv_iconst (v := 0) hx hb dX12_safe_8 (by decide) ?_
    refine lv_iconst (v := 2) hx hb dX12_safe_9 (by decide) ?_
    refine vp_callSi (va_runS (As := [.int k, .int 0, .int 2]) (rest := []) ⟨hx, hb, hml, hown, hts⟩ (c_in l dC dI k 0 2) (va_cwS 3 hts gX12_safe_X12_in rfl rfl rfl (by decide +kernel) ⟨Nat.le_of_ble_eq_true rfl, Nat.le_of_ble_eq_true rfl⟩) ⟨fun a U g mk q => ⟨q.1, trivial⟩, fun U hU hW => ⟨rfl, trivial⟩⟩ rfl rfl hl.1 rfl (lv_room (Nat.le_of_ble_eq_true rfl)) dX12_safe_10 ⟨Nat.le_of_ble_eq_true rfl, Nat.le_of_ble_eq_true rfl⟩).run (fun r_9 hw_10 => ?_)
    rcases hw_10 with ⟨rfl, h_11, h_12⟩ | ⟨rfl, h_13⟩
    · skip
      obtain ⟨kk_14, hj_15, rfl⟩ := in_of (n := 2) (M := 2) rfl h_11 h_12
      refine lv_if_ne (tgt := 18) hx hb dX12_safe_13 (by decide) (fun _ => ?_) (fun c_16 => absurd c_16 (by decide))
      refine lv_iload_n hx hb dX12_safe_18 rfl (lv_at hl 2 rfl) ?_
      refine lv_iconst (v := 1) hx hb dX12_safe_19 (by decide) ?_
      refine lv_iconst (v := 3) hx hb dX12_safe_20 (by decide) ?_
      refine vp_callSi (va_runS (As := [.int n, .int 1, .int 3]) (rest := []) ⟨hx, hb, hml, hown, hts⟩ (c_in l dC dI n 1 3) (va_cwS 3 hts gX12_safe_X12_in rfl rfl rfl (by decide +kernel) ⟨Nat.le_of_ble_eq_true rfl, Nat.le_of_ble_eq_true rfl⟩) ⟨fun a U g mk q => ⟨q.1, trivial⟩, fun U hU hW => ⟨rfl, trivial⟩⟩ rfl rfl hl.1 rfl (lv_room (Nat.le_of_ble_eq_true rfl)) dX12_safe_21 ⟨Nat.le_of_ble_eq_true rfl, Nat.le_of_ble_eq_true rfl⟩).run (fun r_17 hw_18 => ?_)
      rcases hw_18 with ⟨rfl, h_19, h_20⟩ | ⟨rfl, h_21⟩
      · skip
        rcases three h_19 h_20 with rfl | rfl | rfl
        · skip
          refine lv_if_ne (tgt := 30) hx hb dX12_safe_24 (by decide) (fun _ => ?_) (fun c_22 => absurd c_22 (by decide))
          refine lv_iload_n hx hb dX12_safe_30 rfl (lv_at hl 3 rfl) ?_
          refine lv_iload_n hx hb dX12_safe_31 rfl (lv_at hl 2 rfl) ?_
          refine lv_icmp_lt (tgt := 39) hx hb dX12_safe_32 (by decide) (fun c_23 => ?_) (fun c_23 => ?_)
          · skip
            have c_23 : kk_14 < 1 := (nI_ltI (a := kk_14) (b := 1) (by omega) (by omega)).mp c_23
            refine lv_aload_n hx hb dX12_safe_39 rfl (lv_at hl 0 rfl) ?_
            refine lv_iload_n hx hb dX12_safe_40 rfl (lv_at hl 1 rfl) ?_
            refine lv_iconst (v := (-1)) hx hb dX12_safe_41 (by decide) ?_
            refine lv_iload_n hx hb dX12_safe_42 rfl (lv_at hl 2 rfl) ?_
            have hPc := hP.sub (ws' := [(m0, .inr (14, [.int 0, .ref aS, .ref aI, .int 0, .int 0, .int 0, .int 0, .int 0, .int 0, .ref aB, .ref aT, .int 0, .int 0, .ref aG, .ref aO, .ref aN, .ref aD, .long bv, .ref aY, .int 0, .int 0, .int 0, .int 0])), (aS, .inl (cS, 901, .inl s0)), (aB, .inl (cB, 6, .inl fB)), (aO, .inl (cO, 36, .inr (.inl fO))), (aN, .inl (cN, 36, .inr (.inl fN))), (aD, .inl (cD, 36, .inl fD))]) [0, 1, 2, 3, 4, 5] rfl
            have hDc := hD.sub (ws' := [(m0, .inr (14, [.int 0, .ref aS, .ref aI, .int 0, .int 0, .int 0, .int 0, .int 0, .int 0, .ref aB, .ref aT, .int 0, .int 0, .ref aG, .ref aO, .ref aN, .ref aD, .long bv, .ref aY, .int 0, .int 0, .int 0, .int 0])), (aS, .inl (cS, 901, .inl s0)), (aB, .inl (cB, 6, .inl fB)), (aO, .inl (cO, 36, .inr (.inl fO))), (aN, .inl (cN, 36, .inr (.inl fN))), (aD, .inl (cD, 36, .inl fD))]) [0, 1, 2, 3, 4, 5] (by decide) rfl
            have hKc := hK.sub (tys' := [(cS, .int), (cB, .int), (cO, .long), (cN, .long), (cD, .int)]) [0, 1, 2, 3, 4] rfl
            have hFc := va_free (wc := [(m0, .inr (14, [.int 0, .ref aS, .ref aI, .int 0, .int 0, .int 0, .int 0, .int 0, .int 0, .ref aB, .ref aT, .int 0, .int 0, .ref aG, .ref aO, .ref aN, .ref aD, .long bv, .ref aY, .int 0, .int 0, .int 0, .int 0])), (aS, .inl (cS, 901, .inl s0)), (aB, .inl (cB, 6, .inl fB)), (aO, .inl (cO, 36, .inr (.inl fO))), (aN, .inl (cN, 36, .inr (.inl fN))), (aD, .inl (cD, 36, .inl fD))]) hD hS hA [0, 1, 2, 3, 4, 5] rfl
            refine va_calli (va_runV (As := [.int (nI jx_6), .int (-1), .int 1]) (rest := []) ⟨hx, hb, hml, hown, hts⟩ (c_safeRow1 l dC dI m0 aS aI aB aT aG aO aN aD aY bv cS cB cO cN cD fB fD fO fN jx_6 H.size (by omega)) (cwV 3 hts gX12_safe_X12_bestRow rfl rfl rfl (by decide +kernel) ⟨Nat.le_of_ble_eq_true rfl, Nat.le_of_ble_eq_true rfl⟩) ⟨fun a U g mk q => by obtain ⟨q0, q1, qP, qK, qD⟩ := q; exact ⟨q0, q1, qP, va_K.moved (u := U) (U := U.calling g mk a) (Vm.Alike.refl U.vm) qK, qD⟩, va_recv hK hP (ci := 14) (q0 := 0) rfl rfl, fun U hU hW => ⟨rfl, by rw [hU], by rw [hU]; exact hPc, va_K.moved hW.alike hKc, hDc.weaken (fun _ _ _ _ => trivial)⟩⟩ rfl rfl hl.1 rfl (lv_room (Nat.le_of_ble_eq_true rfl)) dX12_safe_43 ⟨Nat.le_of_ble_eq_true rfl, Nat.le_of_ble_eq_true rfl⟩) hS (fun q _ h => hFc q h) hFc (fun r_24 u tC H1 locs htC hvm hw_25 hB hz1 hk1 hS => ?_)
            obtain ⟨fB2_26, fO2_27, fN2_28, fD2_29, bv2_30⟩ := u
            try dsimp only at hw_25 hB
            obtain ⟨hP1, hK1, hD1⟩ := hB
            rw [htC] at hP1
            have hK1 := va_K.moved hvm.symm hK1
            obtain ⟨hP, hD⟩ := va_join (wr := []) (w1 := [(m0, .inr (14, [.int 0, .ref aS, .ref aI, .int 0, .int 0, .int 0, .int 0, .int 0, .int 0, .ref aB, .ref aT, .int 0, .int 0, .ref aG, .ref aO, .ref aN, .ref aD, .long bv2_30, .ref aY, .int 0, .int 0, .int 0, .int 0])), (aS, .inl (cS, 901, .inl s0)), (aB, .inl (cB, 6, .inl fB2_26)), (aO, .inl (cO, 36, .inr (.inl fO2_27))), (aN, .inl (cN, 36, .inr (.inl fN2_28))), (aD, .inl (cD, 36, .inl fD2_29))]) hP hD [0, 1, 2, 3, 4, 5] [] rfl rfl (by decide) (by decide) hk1 hFc hP1 hD1
            have hK := (hK.sub (tys' := []) [] rfl).app hK1
            generalize H1 = H at hP hS ⊢
            have hP : va_P (dC, dI) vwCl [(m0, .inr (14, [.int 0, .ref aS, .ref aI, .int 0, .int 0, .int 0, .int 0, .int 0, .int 0, .ref aB, .ref aT, .int 0, .int 0, .ref aG, .ref aO, .ref aN, .ref aD, .long bv2_30, .ref aY, .int 0, .int 0, .int 0, .int 0])), (aS, .inl (cS, 901, .inl s0)), (aB, .inl (cB, 6, .inl fB2_26)), (aO, .inl (cO, 36, .inr (.inl fO2_27))), (aN, .inl (cN, 36, .inr (.inl fN2_28))), (aD, .inl (cD, 36, .inl fD2_29))] H := hP
            have hD : va_D A [(m0, .inr (14, [.int 0, .ref aS, .ref aI, .int 0, .int 0, .int 0, .int 0, .int 0, .int 0, .ref aB, .ref aT, .int 0, .int 0, .ref aG, .ref aO, .ref aN, .ref aD, .long bv2_30, .ref aY, .int 0, .int 0, .int 0, .int 0])), (aS, .inl (cS, 901, .inl s0)), (aB, .inl (cB, 6, .inl fB2_26)), (aO, .inl (cO, 36, .inr (.inl fO2_27))), (aN, .inl (cN, 36, .inr (.inl fN2_28))), (aD, .inl (cD, 36, .inl fD2_29))] := hD
            have hK : va_K (dC, dI) vwCl [(cS, .int), (cB, .int), (cO, .long), (cN, .long), (cD, .int)] s := hK
            refine qi_as (y := nI (GG (fun _ : Nat => (0 : Int64)) 8).2) (hw_25.1) ?_
            have hb_31 : (GG (fun _ : Nat => (0 : Int64)) 8).2 < 8 := GG_lt _ _ (by omega)
            refine lv_iload_n hx hb dX12_safe_46 rfl (lv_at hl 2 rfl) ?_
            refine lv_iload_n hx hb dX12_safe_47 rfl (lv_at hl 3 rfl) ?_
            refine vp_callSi (va_runS (As := [.int (nI ((GG (fun _ : Nat => (0 : Int64)) 8).2)), .int 1, .int (nI kk_14)]) (rest := []) ⟨hx, hb, hml, hown, hts⟩ (c_wayOf l dC dI (GG (fun _ : Nat => (0 : Int64)) 8).2 1 kk_14 (by omega) (by omega) (by omega)) (va_cwS 3 hts gX12_safe_X12_wayOf rfl rfl rfl (by decide +kernel) ⟨Nat.le_of_ble_eq_true rfl, Nat.le_of_ble_eq_true rfl⟩) ⟨fun a U g mk q => ⟨q.1, trivial⟩, fun U hU hW => ⟨rfl, trivial⟩⟩ rfl rfl hl.1 rfl (lv_room (Nat.le_of_ble_eq_true rfl)) dX12_safe_48 ⟨Nat.le_of_ble_eq_true rfl, Nat.le_of_ble_eq_true rfl⟩).run (fun r_32 hw_33 => ?_)
            rw [hQ]
            exact W.iret (v := r_32) hx hb hr (fun tQ htQ hWQ => ⟨⟨r_32, (), rfl, by rw [hw_33, sw1]; simp only [f_safe, tA1, tA2, tA3, tB1, tB2, tB3, if_false, nI_clamp (n := jx_6) (by omega), nI_clamp (n := kk_14) (by omega), tc1, tc2, tc3]; (repeat' split) <;> first | contradiction | with_reducible rfl | simp_all, trivial⟩, hS.F htQ⟩) hS.2.2 dX12_safe_51
          · skip
            have c_23 : ¬ kk_14 < 1 := fun q => c_23 ((nI_ltI (a := kk_14) (b := 1) (by omega) (by omega)).mpr q)
            refine lv_iconst (v := (-1)) hx hb dX12_safe_35 (by decide) ?_
            refine lv_goto (tgt := 51) hx hb dX12_safe_36 (by decide) ?_
            rw [hQ]
            exact W.iret (v := (-1)) hx hb hr (fun tQ htQ hWQ => ⟨⟨(-1), (), rfl, by simp only [f_safe, tA1, tA2, tA3, tB1, tB2, tB3, if_false]; (repeat' split) <;> first | contradiction | with_reducible rfl | (rcases (by assumption : _ ∨ _) with q | q <;> contradiction) | (simp_all; done) | (simp only [← Int32.not_lt] at *; simp_all), trivial⟩, hS.F htQ⟩) hS.2.2 dX12_safe_51
        · skip
          refine lv_if_ne (tgt := 30) hx hb dX12_safe_24 (by decide) (fun _ => ?_) (fun c_34 => absurd c_34 (by decide))
          refine lv_iload_n hx hb dX12_safe_30 rfl (lv_at hl 3 rfl) ?_
          refine lv_iload_n hx hb dX12_safe_31 rfl (lv_at hl 2 rfl) ?_
          refine lv_icmp_lt (tgt := 39) hx hb dX12_safe_32 (by decide) (fun c_35 => ?_) (fun c_35 => ?_)
          · skip
            have c_35 : kk_14 < 2 := (nI_ltI (a := kk_14) (b := 2) (by omega) (by omega)).mp c_35
            refine lv_aload_n hx hb dX12_safe_39 rfl (lv_at hl 0 rfl) ?_
            refine lv_iload_n hx hb dX12_safe_40 rfl (lv_at hl 1 rfl) ?_
            refine lv_iconst (v := (-1)) hx hb dX12_safe_41 (by decide) ?_
            refine lv_iload_n hx hb dX12_safe_42 rfl (lv_at hl 2 rfl) ?_
            have hPc := hP.sub (ws' := [(m0, .inr (14, [.int 0, .ref aS, .ref aI, .int 0, .int 0, .int 0, .int 0, .int 0, .int 0, .ref aB, .ref aT, .int 0, .int 0, .ref aG, .ref aO, .ref aN, .ref aD, .long bv, .ref aY, .int 0, .int 0, .int 0, .int 0])), (aS, .inl (cS, 901, .inl s0)), (aB, .inl (cB, 6, .inl fB)), (aO, .inl (cO, 36, .inr (.inl fO))), (aN, .inl (cN, 36, .inr (.inl fN))), (aD, .inl (cD, 36, .inl fD))]) [0, 1, 2, 3, 4, 5] rfl
            have hDc := hD.sub (ws' := [(m0, .inr (14, [.int 0, .ref aS, .ref aI, .int 0, .int 0, .int 0, .int 0, .int 0, .int 0, .ref aB, .ref aT, .int 0, .int 0, .ref aG, .ref aO, .ref aN, .ref aD, .long bv, .ref aY, .int 0, .int 0, .int 0, .int 0])), (aS, .inl (cS, 901, .inl s0)), (aB, .inl (cB, 6, .inl fB)), (aO, .inl (cO, 36, .inr (.inl fO))), (aN, .inl (cN, 36, .inr (.inl fN))), (aD, .inl (cD, 36, .inl fD))]) [0, 1, 2, 3, 4, 5] (by decide) rfl
            have hKc := hK.sub (tys' := [(cS, .int), (cB, .int), (cO, .long), (cN, .long), (cD, .int)]) [0, 1, 2, 3, 4] rfl
            have hFc := va_free (wc := [(m0, .inr (14, [.int 0, .ref aS, .ref aI, .int 0, .int 0, .int 0, .int 0, .int 0, .int 0, .ref aB, .ref aT, .int 0, .int 0, .ref aG, .ref aO, .ref aN, .ref aD, .long bv, .ref aY, .int 0, .int 0, .int 0, .int 0])), (aS, .inl (cS, 901, .inl s0)), (aB, .inl (cB, 6, .inl fB)), (aO, .inl (cO, 36, .inr (.inl fO))), (aN, .inl (cN, 36, .inr (.inl fN))), (aD, .inl (cD, 36, .inl fD))]) hD hS hA [0, 1, 2, 3, 4, 5] rfl
            refine va_calli (va_runV (As := [.int (nI jx_6), .int (-1), .int 2]) (rest := []) ⟨hx, hb, hml, hown, hts⟩ (c_safeRow2 l dC dI m0 aS aI aB aT aG aO aN aD aY bv cS cB cO cN cD fB fD fO fN jx_6 H.size (by omega)) (cwV 3 hts gX12_safe_X12_bestRow rfl rfl rfl (by decide +kernel) ⟨Nat.le_of_ble_eq_true rfl, Nat.le_of_ble_eq_true rfl⟩) ⟨fun a U g mk q => by obtain ⟨q0, q1, qP, qK, qD⟩ := q; exact ⟨q0, q1, qP, va_K.moved (u := U) (U := U.calling g mk a) (Vm.Alike.refl U.vm) qK, qD⟩, va_recv hK hP (ci := 14) (q0 := 0) rfl rfl, fun U hU hW => ⟨rfl, by rw [hU], by rw [hU]; exact hPc, va_K.moved hW.alike hKc, hDc.weaken (fun _ _ _ _ => trivial)⟩⟩ rfl rfl hl.1 rfl (lv_room (Nat.le_of_ble_eq_true rfl)) dX12_safe_43 ⟨Nat.le_of_ble_eq_true rfl, Nat.le_of_ble_eq_true rfl⟩) hS (fun q _ h => hFc q h) hFc (fun r_36 u tC H1 locs htC hvm hw_37 hB hz1 hk1 hS => ?_)
            obtain ⟨fB2_38, fO2_39, fN2_40, fD2_41, bv2_42⟩ := u
            try dsimp only at hw_37 hB
            obtain ⟨hP1, hK1, hD1⟩ := hB
            rw [htC] at hP1
            have hK1 := va_K.moved hvm.symm hK1
            obtain ⟨hP, hD⟩ := va_join (wr := []) (w1 := [(m0, .inr (14, [.int 0, .ref aS, .ref aI, .int 0, .int 0, .int 0, .int 0, .int 0, .int 0, .ref aB, .ref aT, .int 0, .int 0, .ref aG, .ref aO, .ref aN, .ref aD, .long bv2_42, .ref aY, .int 0, .int 0, .int 0, .int 0])), (aS, .inl (cS, 901, .inl s0)), (aB, .inl (cB, 6, .inl fB2_38)), (aO, .inl (cO, 36, .inr (.inl fO2_39))), (aN, .inl (cN, 36, .inr (.inl fN2_40))), (aD, .inl (cD, 36, .inl fD2_41))]) hP hD [0, 1, 2, 3, 4, 5] [] rfl rfl (by decide) (by decide) hk1 hFc hP1 hD1
            have hK := (hK.sub (tys' := []) [] rfl).app hK1
            generalize H1 = H at hP hS ⊢
            have hP : va_P (dC, dI) vwCl [(m0, .inr (14, [.int 0, .ref aS, .ref aI, .int 0, .int 0, .int 0, .int 0, .int 0, .int 0, .ref aB, .ref aT, .int 0, .int 0, .ref aG, .ref aO, .ref aN, .ref aD, .long bv2_42, .ref aY, .int 0, .int 0, .int 0, .int 0])), (aS, .inl (cS, 901, .inl s0)), (aB, .inl (cB, 6, .inl fB2_38)), (aO, .inl (cO, 36, .inr (.inl fO2_39))), (aN, .inl (cN, 36, .inr (.inl fN2_40))), (aD, .inl (cD, 36, .inl fD2_41))] H := hP
            have hD : va_D A [(m0, .inr (14, [.int 0, .ref aS, .ref aI, .int 0, .int 0, .int 0, .int 0, .int 0, .int 0, .ref aB, .ref aT, .int 0, .int 0, .ref aG, .ref aO, .ref aN, .ref aD, .long bv2_42, .ref aY, .int 0, .int 0, .int 0, .int 0])), (aS, .inl (cS, 901, .inl s0)), (aB, .inl (cB, 6, .inl fB2_38)), (aO, .inl (cO, 36, .inr (.inl fO2_39))), (aN, .inl (cN, 36, .inr (.inl fN2_40))), (aD, .inl (cD, 36, .inl fD2_41))] := hD
            have hK : va_K (dC, dI) vwCl [(cS, .int), (cB, .int), (cO, .long), (cN, .long), (cD, .int)] s := hK
            refine qi_as (y := nI (GG (fun _ : Nat => (0 : Int64)) 64).2) (hw_37.1) ?_
            have hb_43 : (GG (fun _ : Nat => (0 : Int64)) 64).2 < 64 := GG_lt _ _ (by omega)
            refine lv_iload_n hx hb dX12_safe_46 rfl (lv_at hl 2 rfl) ?_
            refine lv_iload_n hx hb dX12_safe_47 rfl (lv_at hl 3 rfl) ?_
            refine vp_callSi (va_runS (As := [.int (nI ((GG (fun _ : Nat => (0 : Int64)) 64).2)), .int 2, .int (nI kk_14)]) (rest := []) ⟨hx, hb, hml, hown, hts⟩ (c_wayOf l dC dI (GG (fun _ : Nat => (0 : Int64)) 64).2 2 kk_14 (by omega) (by omega) (by omega)) (va_cwS 3 hts gX12_safe_X12_wayOf rfl rfl rfl (by decide +kernel) ⟨Nat.le_of_ble_eq_true rfl, Nat.le_of_ble_eq_true rfl⟩) ⟨fun a U g mk q => ⟨q.1, trivial⟩, fun U hU hW => ⟨rfl, trivial⟩⟩ rfl rfl hl.1 rfl (lv_room (Nat.le_of_ble_eq_true rfl)) dX12_safe_48 ⟨Nat.le_of_ble_eq_true rfl, Nat.le_of_ble_eq_true rfl⟩).run (fun r_44 hw_45 => ?_)
            rw [hQ]
            exact W.iret (v := r_44) hx hb hr (fun tQ htQ hWQ => ⟨⟨r_44, (), rfl, by rw [hw_45, sw2]; simp only [f_safe, tA1, tA2, tA3, tB1, tB2, tB3, if_false, nI_clamp (n := jx_6) (by omega), nI_clamp (n := kk_14) (by omega), tc1, tc2, tc3]; (repeat' split) <;> first | contradiction | with_reducible rfl | simp_all, trivial⟩, hS.F htQ⟩) hS.2.2 dX12_safe_51
          · skip
            have c_35 : ¬ kk_14 < 2 := fun q => c_35 ((nI_ltI (a := kk_14) (b := 2) (by omega) (by omega)).mpr q)
            refine lv_iconst (v := (-1)) hx hb dX12_safe_35 (by decide) ?_
            refine lv_goto (tgt := 51) hx hb dX12_safe_36 (by decide) ?_
            rw [hQ]
            exact W.iret (v := (-1)) hx hb hr (fun tQ htQ hWQ => ⟨⟨(-1), (), rfl, by simp only [f_safe, tA1, tA2, tA3, tB1, tB2, tB3, if_false]; (repeat' split) <;> first | contradiction | with_reducible rfl | (rcases (by assumption : _ ∨ _) with q | q <;> contradiction) | (simp_all; done) | (simp only [← Int32.not_lt] at *; simp_all), trivial⟩, hS.F htQ⟩) hS.2.2 dX12_safe_51
        · skip
          refine lv_if_ne (tgt := 30) hx hb dX12_safe_24 (by decide) (fun _ => ?_) (fun c_46 => absurd c_46 (by decide))
          refine lv_iload_n hx hb dX12_safe_30 rfl (lv_at hl 3 rfl) ?_
          refine lv_iload_n hx hb dX12_safe_31 rfl (lv_at hl 2 rfl) ?_
          refine lv_icmp_lt (tgt := 39) hx hb dX12_safe_32 (by decide) (fun c_47 => ?_) (fun c_47 => ?_)
          · skip
            have c_47 : kk_14 < 3 := (nI_ltI (a := kk_14) (b := 3) (by omega) (by omega)).mp c_47
            refine lv_aload_n hx hb dX12_safe_39 rfl (lv_at hl 0 rfl) ?_
            refine lv_iload_n hx hb dX12_safe_40 rfl (lv_at hl 1 rfl) ?_
            refine lv_iconst (v := (-1)) hx hb dX12_safe_41 (by decide) ?_
            refine lv_iload_n hx hb dX12_safe_42 rfl (lv_at hl 2 rfl) ?_
            have hPc := hP.sub (ws' := [(m0, .inr (14, [.int 0, .ref aS, .ref aI, .int 0, .int 0, .int 0, .int 0, .int 0, .int 0, .ref aB, .ref aT, .int 0, .int 0, .ref aG, .ref aO, .ref aN, .ref aD, .long bv, .ref aY, .int 0, .int 0, .int 0, .int 0])), (aS, .inl (cS, 901, .inl s0)), (aB, .inl (cB, 6, .inl fB)), (aO, .inl (cO, 36, .inr (.inl fO))), (aN, .inl (cN, 36, .inr (.inl fN))), (aD, .inl (cD, 36, .inl fD))]) [0, 1, 2, 3, 4, 5] rfl
            have hDc := hD.sub (ws' := [(m0, .inr (14, [.int 0, .ref aS, .ref aI, .int 0, .int 0, .int 0, .int 0, .int 0, .int 0, .ref aB, .ref aT, .int 0, .int 0, .ref aG, .ref aO, .ref aN, .ref aD, .long bv, .ref aY, .int 0, .int 0, .int 0, .int 0])), (aS, .inl (cS, 901, .inl s0)), (aB, .inl (cB, 6, .inl fB)), (aO, .inl (cO, 36, .inr (.inl fO))), (aN, .inl (cN, 36, .inr (.inl fN))), (aD, .inl (cD, 36, .inl fD))]) [0, 1, 2, 3, 4, 5] (by decide) rfl
            have hKc := hK.sub (tys' := [(cS, .int), (cB, .int), (cO, .long), (cN, .long), (cD, .int)]) [0, 1, 2, 3, 4] rfl
            have hFc := va_free (wc := [(m0, .inr (14, [.int 0, .ref aS, .ref aI, .int 0, .int 0, .int 0, .int 0, .int 0, .int 0, .ref aB, .ref aT, .int 0, .int 0, .ref aG, .ref aO, .ref aN, .ref aD, .long bv, .ref aY, .int 0, .int 0, .int 0, .int 0])), (aS, .inl (cS, 901, .inl s0)), (aB, .inl (cB, 6, .inl fB)), (aO, .inl (cO, 36, .inr (.inl fO))), (aN, .inl (cN, 36, .inr (.inl fN))), (aD, .inl (cD, 36, .inl fD))]) hD hS hA [0, 1, 2, 3, 4, 5] rfl
            refine va_calli (va_runV (As := [.int (nI jx_6), .int (-1), .int 3]) (rest := []) ⟨hx, hb, hml, hown, hts⟩ (c_safeRow3 l dC dI m0 aS aI aB aT aG aO aN aD aY bv cS cB cO cN cD fB fD fO fN jx_6 H.size (by omega)) (cwV 3 hts gX12_safe_X12_bestRow rfl rfl rfl (by decide +kernel) ⟨Nat.le_of_ble_eq_true rfl, Nat.le_of_ble_eq_true rfl⟩) ⟨fun a U g mk q => by obtain ⟨q0, q1, qP, qK, qD⟩ := q; exact ⟨q0, q1, qP, va_K.moved (u := U) (U := U.calling g mk a) (Vm.Alike.refl U.vm) qK, qD⟩, va_recv hK hP (ci := 14) (q0 := 0) rfl rfl, fun U hU hW => ⟨rfl, by rw [hU], by rw [hU]; exact hPc, va_K.moved hW.alike hKc, hDc.weaken (fun _ _ _ _ => trivial)⟩⟩ rfl rfl hl.1 rfl (lv_room (Nat.le_of_ble_eq_true rfl)) dX12_safe_43 ⟨Nat.le_of_ble_eq_true rfl, Nat.le_of_ble_eq_true rfl⟩) hS (fun q _ h => hFc q h) hFc (fun r_48 u tC H1 locs htC hvm hw_49 hB hz1 hk1 hS => ?_)
            obtain ⟨fB2_50, fO2_51, fN2_52, fD2_53, bv2_54⟩ := u
            try dsimp only at hw_49 hB
            obtain ⟨hP1, hK1, hD1⟩ := hB
            rw [htC] at hP1
            have hK1 := va_K.moved hvm.symm hK1
            obtain ⟨hP, hD⟩ := va_join (wr := []) (w1 := [(m0, .inr (14, [.int 0, .ref aS, .ref aI, .int 0, .int 0, .int 0, .int 0, .int 0, .int 0, .ref aB, .ref aT, .int 0, .int 0, .ref aG, .ref aO, .ref aN, .ref aD, .long bv2_54, .ref aY, .int 0, .int 0, .int 0, .int 0])), (aS, .inl (cS, 901, .inl s0)), (aB, .inl (cB, 6, .inl fB2_50)), (aO, .inl (cO, 36, .inr (.inl fO2_51))), (aN, .inl (cN, 36, .inr (.inl fN2_52))), (aD, .inl (cD, 36, .inl fD2_53))]) hP hD [0, 1, 2, 3, 4, 5] [] rfl rfl (by decide) (by decide) hk1 hFc hP1 hD1
            have hK := (hK.sub (tys' := []) [] rfl).app hK1
            generalize H1 = H at hP hS ⊢
            have hP : va_P (dC, dI) vwCl [(m0, .inr (14, [.int 0, .ref aS, .ref aI, .int 0, .int 0, .int 0, .int 0, .int 0, .int 0, .ref aB, .ref aT, .int 0, .int 0, .ref aG, .ref aO, .ref aN, .ref aD, .long bv2_54, .ref aY, .int 0, .int 0, .int 0, .int 0])), (aS, .inl (cS, 901, .inl s0)), (aB, .inl (cB, 6, .inl fB2_50)), (aO, .inl (cO, 36, .inr (.inl fO2_51))), (aN, .inl (cN, 36, .inr (.inl fN2_52))), (aD, .inl (cD, 36, .inl fD2_53))] H := hP
            have hD : va_D A [(m0, .inr (14, [.int 0, .ref aS, .ref aI, .int 0, .int 0, .int 0, .int 0, .int 0, .int 0, .ref aB, .ref aT, .int 0, .int 0, .ref aG, .ref aO, .ref aN, .ref aD, .long bv2_54, .ref aY, .int 0, .int 0, .int 0, .int 0])), (aS, .inl (cS, 901, .inl s0)), (aB, .inl (cB, 6, .inl fB2_50)), (aO, .inl (cO, 36, .inr (.inl fO2_51))), (aN, .inl (cN, 36, .inr (.inl fN2_52))), (aD, .inl (cD, 36, .inl fD2_53))] := hD
            have hK : va_K (dC, dI) vwCl [(cS, .int), (cB, .int), (cO, .long), (cN, .long), (cD, .int)] s := hK
            refine qi_as (y := nI (GG (fun _ : Nat => (0 : Int64)) 512).2) (hw_49.1) ?_
            have hb_55 : (GG (fun _ : Nat => (0 : Int64)) 512).2 < 512 := GG_lt _ _ (by omega)
            refine lv_iload_n hx hb dX12_safe_46 rfl (lv_at hl 2 rfl) ?_
            refine lv_iload_n hx hb dX12_safe_47 rfl (lv_at hl 3 rfl) ?_
            refine vp_callSi (va_runS (As := [.int (nI ((GG (fun _ : Nat => (0 : Int64)) 512).2)), .int 3, .int (nI kk_14)]) (rest := []) ⟨hx, hb, hml, hown, hts⟩ (c_wayOf l dC dI (GG (fun _ : Nat => (0 : Int64)) 512).2 3 kk_14 (by omega) (by omega) (by omega)) (va_cwS 3 hts gX12_safe_X12_wayOf rfl rfl rfl (by decide +kernel) ⟨Nat.le_of_ble_eq_true rfl, Nat.le_of_ble_eq_true rfl⟩) ⟨fun a U g mk q => ⟨q.1, trivial⟩, fun U hU hW => ⟨rfl, trivial⟩⟩ rfl rfl hl.1 rfl (lv_room (Nat.le_of_ble_eq_true rfl)) dX12_safe_48 ⟨Nat.le_of_ble_eq_true rfl, Nat.le_of_ble_eq_true rfl⟩).run (fun r_56 hw_57 => ?_)
            rw [hQ]
            exact W.iret (v := r_56) hx hb hr (fun tQ htQ hWQ => ⟨⟨r_56, (), rfl, by rw [hw_57, sw3]; simp only [f_safe, tA1, tA2, tA3, tB1, tB2, tB3, if_false, nI_clamp (n := jx_6) (by omega), nI_clamp (n := kk_14) (by omega), tc1, tc2, tc3]; (repeat' split) <;> first | contradiction | with_reducible rfl | simp_all, trivial⟩, hS.F htQ⟩) hS.2.2 dX12_safe_51
          · skip
            have c_47 : ¬ kk_14 < 3 := fun q => c_47 ((nI_ltI (a := kk_14) (b := 3) (by omega) (by omega)).mpr q)
            refine lv_iconst (v := (-1)) hx hb dX12_safe_35 (by decide) ?_
            refine lv_goto (tgt := 51) hx hb dX12_safe_36 (by decide) ?_
            rw [hQ]
            exact W.iret (v := (-1)) hx hb hr (fun tQ htQ hWQ => ⟨⟨(-1), (), rfl, by simp only [f_safe, tA1, tA2, tA3, tB1, tB2, tB3, if_false]; (repeat' split) <;> first | contradiction | with_reducible rfl | (rcases (by assumption : _ ∨ _) with q | q <;> contradiction) | (simp_all; done) | (simp only [← Int32.not_lt] at *; simp_all), trivial⟩, hS.F htQ⟩) hS.2.2 dX12_safe_51
      · skip
        refine lv_if_ne (tgt := 30) hx hb dX12_safe_24 (by decide) (fun c_58 => absurd c_58 (by decide)) (fun _ => ?_)
        refine lv_bipush (v := (-2)) hx hb dX12_safe_27 (by decide) ?_
        rw [hQ]
        exact W.iret (v := (-2)) hx hb hr (fun tQ htQ hWQ => ⟨⟨(-2), (), rfl, by simp only [f_safe, tA1, tA2, tA3, tB1, tB2, tB3, if_false]; (repeat' split) <;> first | contradiction | with_reducible rfl | (rcases (by assumption : _ ∨ _) with q | q <;> contradiction) | (simp_all; done) | (simp only [← Int32.not_lt] at *; simp_all), trivial⟩, hS.F htQ⟩) hS.2.2 dX12_safe_29
    · skip
      refine lv_if_ne (tgt := 18) hx hb dX12_safe_13 (by decide) (fun c_59 => absurd c_59 (by decide)) (fun _ => ?_)
      refine lv_iconst (v := (-1)) hx hb dX12_safe_16 (by decide) ?_
      rw [hQ]
      exact W.iret (v := (-1)) hx hb hr (fun tQ htQ hWQ => ⟨⟨(-1), (), rfl, by simp only [f_safe, tA1, tA2, tA3, tB1, tB2, tB3, if_false]; (repeat' split) <;> first | contradiction | with_reducible rfl | (rcases (by assumption : _ ∨ _) with q | q <;> contradiction) | (simp_all; done) | (simp only [← Int32.not_lt] at *; simp_all), trivial⟩, hS.F htQ⟩) hS.2.2 dX12_safe_17
  · skip
    refine lv_if_eq (tgt := 16) hx hb dX12_safe_4 (by decide) (fun _ => ?_) (fun c_60 => absurd c_60 (by decide))
    refine lv_iconst (v := (-1)) hx hb dX12_safe_16 (by decide) ?_
    rw [hQ]
    exact W.iret (v := (-1)) hx hb hr (fun tQ htQ hWQ => ⟨⟨(-1), (), rfl, by simp only [f_safe, tA1, tA2, tA3, tB1, tB2, tB3, if_false]; (repeat' split) <;> first | contradiction | with_reducible rfl | (rcases (by assumption : _ ∨ _) with q | q <;> contradiction) | (simp_all; done) | (simp only [← Int32.not_lt] at *; simp_all), trivial⟩, hS.F htQ⟩) hS.2.2 dX12_safe_17
