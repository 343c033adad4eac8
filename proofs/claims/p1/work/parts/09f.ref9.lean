theorem dX12_bestOdds_0 : decode cX12_bestOdds 0 = .ok (.iload_n 1, 1) := by decide +kernel
set_option maxRecDepth 20000 in
theorem ggX12_bestOdds_X12_isCell : GoodIn wsX12_bestOdds wsX12_isCell := goodIn_r _ [6, 7, 8, 5, 9] (by decide +kernel) (by decide +kernel)
set_option maxRecDepth 20000 in
theorem gX12_bestOdds_X12_isCell : GoodIn wsX12_bestOdds (va_wsS RX12 149 yX12_isCell wsX12_isCell) := goodIn_app (goodIn_of _ (by decide +kernel)) ggX12_bestOdds_X12_isCell
theorem dX12_bestOdds_1 : decode cX12_bestOdds 1 = .ok (.invokestatic 149, 3) := by decide +kernel
theorem dX12_bestOdds_4 : decode cX12_bestOdds 4 = .ok (.ifCond .eq 29, 3) := by decide +kernel
theorem dX12_bestOdds_7 : decode cX12_bestOdds 7 = .ok (.iload_n 2, 1) := by decide +kernel
theorem dX12_bestOdds_8 : decode cX12_bestOdds 8 = .ok (.invokestatic 149, 3) := by decide +kernel
theorem dX12_bestOdds_11 : decode cX12_bestOdds 11 = .ok (.ifCond .eq 22, 3) := by decide +kernel
theorem dX12_bestOdds_14 : decode cX12_bestOdds 14 = .ok (.iload_n 3, 1) := by decide +kernel
theorem dX12_bestOdds_15 : decode cX12_bestOdds 15 = .ok (.iconst 1, 1) := by decide +kernel
theorem dX12_bestOdds_16 : decode cX12_bestOdds 16 = .ok (.iconst 3, 1) := by decide +kernel
set_option maxRecDepth 20000 in
theorem ggX12_bestOdds_X12_in : GoodIn wsX12_bestOdds wsX12_in := goodIn_r _ [9] (by decide +kernel) (by decide +kernel)
set_option maxRecDepth 20000 in
theorem gX12_bestOdds_X12_in : GoodIn wsX12_bestOdds (va_wsS RX12 45 yX12_in wsX12_in) := goodIn_app (goodIn_of _ (by decide +kernel)) ggX12_bestOdds_X12_in
theorem dX12_bestOdds_17 : decode cX12_bestOdds 17 = .ok (.invokestatic 45, 3) := by decide +kernel
theorem dX12_bestOdds_20 : decode cX12_bestOdds 20 = .ok (.ifCond .eq 13, 3) := by decide +kernel
theorem dX12_bestOdds_23 : decode cX12_bestOdds 23 = .ok (.iload 4, 2) := by decide +kernel
theorem dX12_bestOdds_25 : decode cX12_bestOdds 25 = .ok (.iconst 0, 1) := by decide +kernel
theorem dX12_bestOdds_26 : decode cX12_bestOdds 26 = .ok (.iconst 1, 1) := by decide +kernel
theorem dX12_bestOdds_27 : decode cX12_bestOdds 27 = .ok (.invokestatic 45, 3) := by decide +kernel
theorem dX12_bestOdds_30 : decode cX12_bestOdds 30 = .ok (.ifCond .ne 7, 3) := by decide +kernel
theorem dX12_bestOdds_37 : decode cX12_bestOdds 37 = .ok (.aload_n 0, 1) := by decide +kernel
theorem dX12_bestOdds_38 : decode cX12_bestOdds 38 = .ok (.iload_n 1, 1) := by decide +kernel
theorem dX12_bestOdds_39 : decode cX12_bestOdds 39 = .ok (.iload_n 2, 1) := by decide +kernel
theorem dX12_bestOdds_40 : decode cX12_bestOdds 40 = .ok (.iload_n 3, 1) := by decide +kernel
set_option maxRecDepth 20000 in
theorem ggX12_bestOdds_X12_bestRow : GoodIn wsX12_bestOdds wsX12_bestRow := goodIn_r _ [13, 14, 2, 15, 16, 17, 5, 18, 19, 20, 21, 22, 23, 24, 25, 26, 27, 28, 29, 30, 31, 32, 33, 34, 35, 36, 37, 38, 39, 40, 41, 42, 43, 44, 45, 46, 47, 48, 49, 50, 51, 52, 53, 54, 55, 7, 8, 9, 56, 57, 58, 59, 66, 67, 68, 69, 70, 71, 72, 73, 74, 75, 76, 77, 78, 79, 80, 81, 82, 83, 84, 85, 86, 87, 88] (by decide +kernel) (by decide +kernel)
set_option maxRecDepth 20000 in
theorem gX12_bestOdds_X12_bestRow : GoodIn wsX12_bestOdds (wsV RX12 240 RX12 yX12_bestRow wsX12_bestRow) := goodIn_app (goodIn_of _ (by decide +kernel)) ggX12_bestOdds_X12_bestRow
theorem dX12_bestOdds_41 : decode cX12_bestOdds 41 = .ok (.invokevirtual 240, 3) := by decide +kernel
theorem dX12_bestOdds_44 : decode cX12_bestOdds 44 = .ok (.istore 5, 2) := by decide +kernel
theorem dX12_bestOdds_46 : decode cX12_bestOdds 46 = .ok (.iload 5, 2) := by decide +kernel
theorem dX12_bestOdds_48 : decode cX12_bestOdds 48 = .ok (.iconst (-1), 1) := by decide +kernel
theorem dX12_bestOdds_49 : decode cX12_bestOdds 49 = .ok (.if_icmp .ne 9, 3) := by decide +kernel
theorem dX12_bestOdds_58 : decode cX12_bestOdds 58 = .ok (.aload_n 0, 1) := by decide +kernel
theorem dX12_bestOdds_59 : decode cX12_bestOdds 59 = .ok (.getfield 236, 3) := by decide +kernel
theorem dX12_bestOdds_62 : decode cX12_bestOdds 62 = .ok (.iload_n 3, 1) := by decide +kernel
set_option maxRecDepth 20000 in
theorem ggX12_bestOdds_X12_twenties : GoodIn wsX12_bestOdds wsX12_twenties := goodIn_r _ [62, 46] (by decide +kernel) (by decide +kernel)
set_option maxRecDepth 20000 in
theorem gX12_bestOdds_X12_twenties : GoodIn wsX12_bestOdds (va_wsS RX12 226 yX12_twenties wsX12_twenties) := goodIn_app (goodIn_of _ (by decide +kernel)) ggX12_bestOdds_X12_twenties
theorem dX12_bestOdds_63 : decode cX12_bestOdds 63 = .ok (.invokestatic 226, 3) := by decide +kernel
theorem dX12_bestOdds_66 : decode cX12_bestOdds 66 = .ok (.iload 4, 2) := by decide +kernel
set_option maxRecDepth 20000 in
theorem ggX12_bestOdds_X12_lowest : GoodIn wsX12_bestOdds wsX12_lowest := goodIn_r _ [65] (by decide +kernel) (by decide +kernel)
set_option maxRecDepth 20000 in
theorem gX12_bestOdds_X12_lowest : GoodIn wsX12_bestOdds (va_wsS RX12 229 yX12_lowest wsX12_lowest) := goodIn_app (goodIn_of _ (by decide +kernel)) ggX12_bestOdds_X12_lowest
theorem dX12_bestOdds_68 : decode cX12_bestOdds 68 = .ok (.invokestatic 229, 3) := by decide +kernel
theorem dX12_bestOdds_71 : decode cX12_bestOdds 71 = .ok (.lreturn, 1) := by decide +kernel
theorem dX12_bestOdds_33 : decode cX12_bestOdds 33 = .ok (.ldc2_w 181, 3) := by decide +kernel
theorem dX12_bestOdds_36 : decode cX12_bestOdds 36 = .ok (.lreturn, 1) := by decide +kernel
def bzz (n j o : Nat) : Int64 := if (GG (fun q => ind (pth n j q) n o) (8 ^ n)).1 = 0 then 0 else 1
theorem fbo (x y n z : Int32) : f_bestOdds x y n z = if x < 0 then -9223372036854775808 else if 35 < x then -9223372036854775808 else if y < 0 then -9223372036854775808 else if 35 < y then -9223372036854775808 else if n < 1 then -9223372036854775808 else if 3 < n then -9223372036854775808 else if z < 0 then -9223372036854775808 else if 1 < z then -9223372036854775808 else if z = 0 then bzz n.toNatClampNeg x.toNatClampNeg y.toNatClampNeg else 1 := by unfold f_bestOdds bzz; exact Eq.refl _
theorem bz1 (j o : Nat) : (if (GG (fun q => ind (pth 1 j q) 1 o) 8).1 = 0 then (0 : Int64) else 1) = bzz 1 j o := (bo1 j o).trans (by unfold bzz; exact Eq.refl _)
theorem bz2 (j o : Nat) : (if (GG (fun q => ind (pth 2 j q) 2 o) 64).1 = 0 then (0 : Int64) else 1) = bzz 2 j o := (bo2 j o).trans (by unfold bzz; exact Eq.refl _)
theorem bz3 (j o : Nat) : (if (GG (fun q => ind (pth 3 j q) 3 o) 512).1 = 0 then (0 : Int64) else 1) = bzz 3 j o := (bo3 j o).trans (by unfold bzz; exact Eq.refl _)

theorem kc_mBestOdds_0 : ∀ w ∈ wsX120, w ∈ wsX12_bestOdds := by decide +kernel
theorem kc_mBestOdds_1 : (.fieldLink RX12 236 "MistHeapsModel" "bestOften" "J" : Cond) ∈ wsX12_bestOdds := by decide +kernel
theorem kc_mBestOdds_2 : (.constantLong RX12 181 (-9223372036854775808) : Cond) ∈ wsX12_bestOdds := by decide +kernel
set_option maxHeartbeats 4000000 in
set_option maxRecDepth 100000 in
theorem c_mBestOdds (l : Launch) (dC : Nat → ClassId) (dI : Nat → Nat → Nat) (m0 aS aI aB aT aG aO aN aD aY : Nat) (bv : Int64) (cS cB cO cN cD : ClassId) (fB fD : Nat → Int32) (fO fN : Nat → Int64) (x y n z : Int32) (sz : Nat) : Met l yX12_bestOdds wsX12_bestOdds ({ frames := 6, cells := 0, slots := 0, locals := 142 } : Room) (va_Pc [.ref m0, .int x, .int y, .int n, .int z] (fun U => U.heap.size = sz ∧ va_P (dC, dI) vwCl [(m0, .inr (14, [.int 0, .ref aS, .ref aI, .int 0, .int 0, .int 0, .int 0, .int 0, .int 0, .ref aB, .ref aT, .int 0, .int 0, .ref aG, .ref aO, .ref aN, .ref aD, .long bv, .ref aY, .int 0, .int 0, .int 0, .int 0])), (aS, .inl (cS, 901, .inl s0)), (aB, .inl (cB, 6, .inl fB)), (aO, .inl (cO, 36, .inr (.inl fO))), (aN, .inl (cN, 36, .inr (.inl fN))), (aD, .inl (cD, 36, .inl fD))] U.heap ∧ va_K (dC, dI) vwCl [(cS, .int), (cB, .int), (cO, .long), (cN, .long), (cD, .int)] U ∧ va_D (fun _ => True) [(m0, .inr (14, [.int 0, .ref aS, .ref aI, .int 0, .int 0, .int 0, .int 0, .int 0, .int 0, .ref aB, .ref aT, .int 0, .int 0, .ref aG, .ref aO, .ref aN, .ref aD, .long bv, .ref aY, .int 0, .int 0, .int 0, .int 0])), (aS, .inl (cS, 901, .inl s0)), (aB, .inl (cB, 6, .inl fB)), (aO, .inl (cO, 36, .inr (.inl fO))), (aN, .inl (cN, 36, .inr (.inl fN))), (aD, .inl (cD, 36, .inl fD))])) (va_Ql (fun (r : Int64) (u : Unit) => match u with | () => r = f_bestOdds x y n z) (fun (u : Unit) (t : State) => match u with | () => True) (va_A [(m0, .inr (14, [.int 0, .ref aS, .ref aI, .int 0, .int 0, .int 0, .int 0, .int 0, .int 0, .ref aB, .ref aT, .int 0, .int 0, .ref aG, .ref aO, .ref aN, .ref aD, .long bv, .ref aY, .int 0, .int 0, .int 0, .int 0])), (aS, .inl (cS, 901, .inl s0)), (aB, .inl (cB, 6, .inl fB)), (aO, .inl (cO, 36, .inr (.inl fO))), (aN, .inl (cN, 36, .inr (.inl fN))), (aD, .inl (cD, 36, .inl fD))] sz)) 0 0 (va_A [(m0, .inr (14, [.int 0, .ref aS, .ref aI, .int 0, .int 0, .int 0, .int 0, .int 0, .int 0, .ref aB, .ref aT, .int 0, .int 0, .ref aG, .ref aO, .ref aN, .ref aD, .long bv, .ref aY, .int 0, .int 0, .int 0, .int 0])), (aS, .inl (cS, 901, .inl s0)), (aB, .inl (cB, 6, .inl fB)), (aO, .inl (cO, 36, .inr (.inl fO))), (aN, .inl (cN, 36, .inr (.inl fN))), (aD, .inl (cD, 36, .inl fD))] sz) := by
  refine met_ofQ (cc := cX12_bestOdds) (maxL := 6) (ret := (some .long)) (by decide) rfl ?_
  intro p e s m args below meth c s₁ Q B hml hv hQ
  obtain ⟨rfl, hsz, hP, hK, hD0⟩ := hv
  have hx := B.exec
  have hb := B.bytes
  have hr := B.returns
  have hts := atoms_spec (ws := wsX12_bestOdds) B.pre
  have hown : s.vm.findClass RX12 = some m.cls := findClass_of_methodNamed B.named
  have hlocks := B.notSynchronized
  subst hsz
  have hD := hD0.self (sz := s.heap.size)
  generalize hAe : va_A [(m0, .inr (14, [.int 0, .ref aS, .ref aI, .int 0, .int 0, .int 0, .int 0, .int 0, .int 0, .ref aB, .ref aT, .int 0, .int 0, .ref aG, .ref aO, .ref aN, .ref aD, .long bv, .ref aY, .int 0, .int 0, .int 0, .int 0])), (aS, .inl (cS, 901, .inl s0)), (aB, .inl (cB, 6, .inl fB)), (aO, .inl (cO, 36, .inr (.inl fO))), (aN, .inl (cN, 36, .inr (.inl fN))), (aD, .inl (cD, 36, .inl fD))] s.heap.size = A at hD hQ ⊢
  have hA : ∀ q : Nat, s.heap.size ≤ q → A q := fun q h => by rw [← hAe]; exact Or.inr h
  have hS : va_S A s.heap s.heap [] := va_S.rf
  have hl := lv_entry [.ref m0, .int x, .int y, .int n, .int z] (n := 6) (Nat.le_of_ble_eq_true rfl)
  rw [lg_entry_eq]
  generalize (lg_sl [.ref m0, .int x, .int y, .int n, .int z] ++ List.replicate (6 - (lg_sl [.ref m0, .int x, .int y, .int n, .int z]).length) Slot.unset).toArray = ls at hl ⊢
  generalize hag : ([.ref m0, .int x, .int y, .int n, .int z] : List Value).toArray = args at hts hQ ⊢
  have hl : lv_has ls 6 [(0, .ref m0), (1, .int x), (2, .int y), (3, .int n), (4, .int z)] := hl
  obtain ⟨H, hH⟩ : ∃ H : Heap, H = s.heap := ⟨_, rfl⟩
  rw [← hH] at hP
  rw [← hH]
  have hS : va_S A s.heap H [] := by rw [hH]; exact hS
  obtain ⟨locs, hlo⟩ : ∃ L : List Loc, L = [] := ⟨_, rfl⟩
  rw [← hlo] at hS
  rw [← hlo]
  clear hH hlo
  refine lv_iload_n hx hb dX12_bestOdds_0 rfl (lv_at hl 1 rfl) ?_
  refine vp_callSi (va_runS (As := [.int x]) (rest := []) ⟨hx, hb, hml, hown, hts⟩ (c_mCell l dC dI x) (va_cwS 1 hts gX12_bestOdds_X12_isCell rfl rfl rfl (by decide +kernel) ⟨Nat.le_of_ble_eq_true rfl, Nat.le_of_ble_eq_true rfl⟩) ⟨fun a U g mk q => ⟨q.1, trivial⟩, fun U hU hW => ⟨rfl, trivial⟩⟩ rfl rfl hl.1 rfl (lv_room (Nat.le_of_ble_eq_true rfl)) dX12_bestOdds_1 ⟨Nat.le_of_ble_eq_true rfl, Nat.le_of_ble_eq_true rfl⟩).run (fun r_1 hw_2 => ?_)
  rcases hw_2 with ⟨rfl, h_3, h_4⟩ | ⟨rfl, h_5⟩
  · skip
    obtain ⟨jx_6, hj_7, rfl⟩ := in_of (n := 35) (M := 35) rfl h_3 h_4
    refine lv_if_eq (tgt := 33) hx hb dX12_bestOdds_4 (by decide) (fun c_8 => absurd c_8 (by decide)) (fun _ => ?_)
    refine lv_iload_n hx hb dX12_bestOdds_7 rfl (lv_at hl 2 rfl) ?_
    refine vp_callSi (va_runS (As := [.int y]) (rest := []) ⟨hx, hb, hml, hown, hts⟩ (c_mCell l dC dI y) (va_cwS 1 hts gX12_bestOdds_X12_isCell rfl rfl rfl (by decide +kernel) ⟨Nat.le_of_ble_eq_true rfl, Nat.le_of_ble_eq_true rfl⟩) ⟨fun a U g mk q => ⟨q.1, trivial⟩, fun U hU hW => ⟨rfl, trivial⟩⟩ rfl rfl hl.1 rfl (lv_room (Nat.le_of_ble_eq_true rfl)) dX12_bestOdds_8 ⟨Nat.le_of_ble_eq_true rfl, Nat.le_of_ble_eq_true rfl⟩).run (fun r_9 hw_10 => ?_)
    rcases hw_10 with ⟨rfl, h_11, h_12⟩ | ⟨rfl, h_13⟩
    · skip
      obtain ⟨jy_14, hj_15, rfl⟩ := in_of (n := 35) (M := 35) rfl h_11 h_12
      refine lv_if_eq (tgt := 33) hx hb dX12_bestOdds_11 (by decide) (fun c_16 => absurd c_16 (by decide)) (fun _ => ?_)
      refine lv_iload_n hx hb dX12_bestOdds_14 rfl (lv_at hl 3 rfl) ?_
      refine lv_iconst (v := 1) hx hb dX12_bestOdds_15 (by decide) ?_
      refine lv_iconst (v := 3) hx hb dX12_bestOdds_16 (by decide) ?_
      refine vp_callSi (va_runS (As := [.int n, .int 1, .int 3]) (rest := []) ⟨hx, hb, hml, hown, hts⟩ (c_in l dC dI n 1 3) (va_cwS 3 hts gX12_bestOdds_X12_in rfl rfl rfl (by decide +kernel) ⟨Nat.le_of_ble_eq_true rfl, Nat.le_of_ble_eq_true rfl⟩) ⟨fun a U g mk q => ⟨q.1, trivial⟩, fun U hU hW => ⟨rfl, trivial⟩⟩ rfl rfl hl.1 rfl (lv_room (Nat.le_of_ble_eq_true rfl)) dX12_bestOdds_17 ⟨Nat.le_of_ble_eq_true rfl, Nat.le_of_ble_eq_true rfl⟩).run (fun r_17 hw_18 => ?_)
      rcases hw_18 with ⟨rfl, h_19, h_20⟩ | ⟨rfl, h_21⟩
      · skip
        rcases three h_19 h_20 with rfl | rfl | rfl
        · skip
          refine lv_if_eq (tgt := 33) hx hb dX12_bestOdds_20 (by decide) (fun c_22 => absurd c_22 (by decide)) (fun _ => ?_)
          refine lv_iload hx hb dX12_bestOdds_23 (lv_at hl 4 rfl) ?_
          refine lv_iconst (v := 0) hx hb dX12_bestOdds_25 (by decide) ?_
          refine lv_iconst (v := 1) hx hb dX12_bestOdds_26 (by decide) ?_
          refine vp_callSi (va_runS (As := [.int z, .int 0, .int 1]) (rest := []) ⟨hx, hb, hml, hown, hts⟩ (c_in l dC dI z 0 1) (va_cwS 3 hts gX12_bestOdds_X12_in rfl rfl rfl (by decide +kernel) ⟨Nat.le_of_ble_eq_true rfl, Nat.le_of_ble_eq_true rfl⟩) ⟨fun a U g mk q => ⟨q.1, trivial⟩, fun U hU hW => ⟨rfl, trivial⟩⟩ rfl rfl hl.1 rfl (lv_room (Nat.le_of_ble_eq_true rfl)) dX12_bestOdds_27 ⟨Nat.le_of_ble_eq_true rfl, Nat.le_of_ble_eq_true rfl⟩).run (fun r_23 hw_24 => ?_)
          rcases hw_24 with ⟨rfl, h_25, h_26⟩ | ⟨rfl, h_27⟩
          · skip
            refine lv_if_ne (tgt := 37) hx hb dX12_bestOdds_30 (by decide) (fun _ => ?_) (fun c_28 => absurd c_28 (by decide))
            refine lv_aload_n hx hb dX12_bestOdds_37 rfl (lv_at hl 0 rfl) ?_
            refine lv_iload_n hx hb dX12_bestOdds_38 rfl (lv_at hl 1 rfl) ?_
            refine lv_iload_n hx hb dX12_bestOdds_39 rfl (lv_at hl 2 rfl) ?_
            refine lv_iload_n hx hb dX12_bestOdds_40 rfl (lv_at hl 3 rfl) ?_
            have hPc := hP.sub (ws' := [(m0, .inr (14, [.int 0, .ref aS, .ref aI, .int 0, .int 0, .int 0, .int 0, .int 0, .int 0, .ref aB, .ref aT, .int 0, .int 0, .ref aG, .ref aO, .ref aN, .ref aD, .long bv, .ref aY, .int 0, .int 0, .int 0, .int 0])), (aS, .inl (cS, 901, .inl s0)), (aB, .inl (cB, 6, .inl fB)), (aO, .inl (cO, 36, .inr (.inl fO))), (aN, .inl (cN, 36, .inr (.inl fN))), (aD, .inl (cD, 36, .inl fD))]) [0, 1, 2, 3, 4, 5] rfl
            have hDc := hD.sub (ws' := [(m0, .inr (14, [.int 0, .ref aS, .ref aI, .int 0, .int 0, .int 0, .int 0, .int 0, .int 0, .ref aB, .ref aT, .int 0, .int 0, .ref aG, .ref aO, .ref aN, .ref aD, .long bv, .ref aY, .int 0, .int 0, .int 0, .int 0])), (aS, .inl (cS, 901, .inl s0)), (aB, .inl (cB, 6, .inl fB)), (aO, .inl (cO, 36, .inr (.inl fO))), (aN, .inl (cN, 36, .inr (.inl fN))), (aD, .inl (cD, 36, .inl fD))]) [0, 1, 2, 3, 4, 5] (by decide) rfl
            have hKc := hK.sub (tys' := [(cS, .int), (cB, .int), (cO, .long), (cN, .long), (cD, .int)]) [0, 1, 2, 3, 4] rfl
            have hFc := va_free (wc := [(m0, .inr (14, [.int 0, .ref aS, .ref aI, .int 0, .int 0, .int 0, .int 0, .int 0, .int 0, .ref aB, .ref aT, .int 0, .int 0, .ref aG, .ref aO, .ref aN, .ref aD, .long bv, .ref aY, .int 0, .int 0, .int 0, .int 0])), (aS, .inl (cS, 901, .inl s0)), (aB, .inl (cB, 6, .inl fB)), (aO, .inl (cO, 36, .inr (.inl fO))), (aN, .inl (cN, 36, .inr (.inl fN))), (aD, .inl (cD, 36, .inl fD))]) hD hS hA [0, 1, 2, 3, 4, 5] rfl
            refine va_calli (va_runV (As := [.int (nI jx_6), .int (nI jy_14), .int 1]) (rest := []) ⟨hx, hb, hml, hown, hts⟩ (c_bestRow1 l dC dI m0 aS aI aB aT aG aO aN aD aY bv cS cB cO cN cD fB fD fO fN jx_6 jy_14 H.size (by omega) (by omega)) (cwV 3 hts gX12_bestOdds_X12_bestRow rfl rfl rfl (by decide +kernel) ⟨Nat.le_of_ble_eq_true rfl, Nat.le_of_ble_eq_true rfl⟩) ⟨fun a U g mk q => by obtain ⟨q0, q1, qP, qK, qD⟩ := q; exact ⟨q0, q1, qP, va_K.moved (u := U) (U := U.calling g mk a) (Vm.Alike.refl U.vm) qK, qD⟩, va_recv hK hP (ci := 14) (q0 := 0) rfl rfl, fun U hU hW => ⟨rfl, by rw [hU], by rw [hU]; exact hPc, va_K.moved hW.alike hKc, hDc.weaken (fun _ _ _ _ => trivial)⟩⟩ rfl rfl hl.1 rfl (lv_room (Nat.le_of_ble_eq_true rfl)) dX12_bestOdds_41 ⟨Nat.le_of_ble_eq_true rfl, Nat.le_of_ble_eq_true rfl⟩) hS (fun q _ h => hFc q h) hFc (fun r_29 u tC H1 locs htC hvm hw_30 hB hz1 hk1 hS => ?_)
            obtain ⟨fB2_31, fO2_32, fN2_33, fD2_34, bv2_35⟩ := u
            try dsimp only at hw_30 hB
            obtain ⟨hP1, hK1, hD1⟩ := hB
            rw [htC] at hP1
            have hK1 := va_K.moved hvm.symm hK1
            obtain ⟨hP, hD⟩ := va_join (wr := []) (w1 := [(m0, .inr (14, [.int 0, .ref aS, .ref aI, .int 0, .int 0, .int 0, .int 0, .int 0, .int 0, .ref aB, .ref aT, .int 0, .int 0, .ref aG, .ref aO, .ref aN, .ref aD, .long bv2_35, .ref aY, .int 0, .int 0, .int 0, .int 0])), (aS, .inl (cS, 901, .inl s0)), (aB, .inl (cB, 6, .inl fB2_31)), (aO, .inl (cO, 36, .inr (.inl fO2_32))), (aN, .inl (cN, 36, .inr (.inl fN2_33))), (aD, .inl (cD, 36, .inl fD2_34))]) hP hD [0, 1, 2, 3, 4, 5] [] rfl rfl (by decide) (by decide) hk1 hFc hP1 hD1
            have hK := (hK.sub (tys' := []) [] rfl).app hK1
            generalize H1 = H at hP hS ⊢
            have hP : va_P (dC, dI) vwCl [(m0, .inr (14, [.int 0, .ref aS, .ref aI, .int 0, .int 0, .int 0, .int 0, .int 0, .int 0, .ref aB, .ref aT, .int 0, .int 0, .ref aG, .ref aO, .ref aN, .ref aD, .long bv2_35, .ref aY, .int 0, .int 0, .int 0, .int 0])), (aS, .inl (cS, 901, .inl s0)), (aB, .inl (cB, 6, .inl fB2_31)), (aO, .inl (cO, 36, .inr (.inl fO2_32))), (aN, .inl (cN, 36, .inr (.inl fN2_33))), (aD, .inl (cD, 36, .inl fD2_34))] H := hP
            have hD : va_D A [(m0, .inr (14, [.int 0, .ref aS, .ref aI, .int 0, .int 0, .int 0, .int 0, .int 0, .int 0, .ref aB, .ref aT, .int 0, .int 0, .ref aG, .ref aO, .ref aN, .ref aD, .long bv2_35, .ref aY, .int 0, .int 0, .int 0, .int 0])), (aS, .inl (cS, 901, .inl s0)), (aB, .inl (cB, 6, .inl fB2_31)), (aO, .inl (cO, 36, .inr (.inl fO2_32))), (aN, .inl (cN, 36, .inr (.inl fN2_33))), (aD, .inl (cD, 36, .inl fD2_34))] := hD
            have hK : va_K (dC, dI) vwCl [(cS, .int), (cB, .int), (cO, .long), (cN, .long), (cD, .int)] s := hK
            obtain ⟨gb_36, hgb_36, ggb_36, rfl⟩ := row_of (by omega) hw_30.1
            obtain ⟨ba_37, ba_37_1, ba_37_2⟩ := best_val' 1 jx_6 jy_14 (by omega) (by omega)
            have ba_37_2 : Hid ((GG (fun q => ind (pth 1 jx_6 q) 1 jy_14) 8).1 = lN ba_37) := ba_37_2
            refine lv_istore (lv' := [(5, .int (nI gb_36)), (0, .ref m0), (1, .int (nI jx_6)), (2, .int (nI jy_14)), (3, .int 1), (4, .int z)]) hx hb dX12_bestOdds_44 hl (by decide) rfl (fun ls hl => ?_)
            refine lv_iload hx hb dX12_bestOdds_46 (lv_at hl 0 rfl) ?_
            refine lv_iconst (v := (-1)) hx hb dX12_bestOdds_48 (by decide) ?_
            refine lv_icmp_ne (tgt := 58) hx hb dX12_bestOdds_49 (by decide) (fun c_38 => ?_) (fun c_38 => absurd c_38 (g_ne (by omega)))
            refine lv_aload_n hx hb dX12_bestOdds_58 rfl (lv_at hl 1 rfl) ?_
            refine va_get (D := (dC, dI)) (ci := 14) (v := .long bv2_35) (C := RX12) (T := TX12) (N := 23) hx hb hts kc_mBestOdds_0 hown hK hP 0 rfl rfl 17 (by decide) (hts (.fieldLink RX12 236 "MistHeapsModel" "bestOften" "J") kc_mBestOdds_1) (fun _ h9 => h9) rfl dX12_bestOdds_59 ?_
            refine ql_as (y := lN ba_37) (hw_30.2.trans (show (GG (fun q => ind (pth 1 jx_6 q) 1 jy_14) 8).1 = lN ba_37 from ba_37_2)) ?_
            refine lv_iload_n hx hb dX12_bestOdds_62 rfl (lv_at hl 4 rfl) ?_
            refine vp_callSl (va_runS (As := [.int 1]) (rest := [.long (lN ba_37)]) ⟨hx, hb, hml, hown, hts⟩ (c_twenties l dC dI 1 (by omega)) (va_cwS 1 hts gX12_bestOdds_X12_twenties rfl rfl rfl (by decide +kernel) ⟨Nat.le_of_ble_eq_true rfl, Nat.le_of_ble_eq_true rfl⟩) ⟨fun a U g mk q => ⟨q.1, trivial⟩, fun U hU hW => ⟨rfl, trivial⟩⟩ rfl rfl hl.1 rfl (lv_room (Nat.le_of_ble_eq_true rfl)) dX12_bestOdds_63 ⟨Nat.le_of_ble_eq_true rfl, Nat.le_of_ble_eq_true rfl⟩).run (fun r_39 hw_40 => ?_)
            refine ql_as (y := lN (20 ^ 1)) (hw_40) ?_
            refine lv_iload hx hb dX12_bestOdds_66 (lv_at hl 5 rfl) ?_
            refine vp_callSl (va_runS (As := [.long (lN ba_37), .long (lN (20 ^ 1)), .int z]) (rest := []) ⟨hx, hb, hml, hown, hts⟩ (c_lowest l dC dI ba_37 (20 ^ 1) z (by rcases ba_37_1 with h | h <;> rw [h] <;> decide) (by decide) (by decide) (a_mod ba_37_1)) (va_cwS 3 hts gX12_bestOdds_X12_lowest rfl rfl rfl (by decide +kernel) ⟨Nat.le_of_ble_eq_true rfl, Nat.le_of_ble_eq_true rfl⟩) ⟨fun a U g mk q => ⟨q.1, trivial⟩, fun U hU hW => ⟨rfl, trivial⟩⟩ rfl rfl hl.1 rfl (lv_room (Nat.le_of_ble_eq_true rfl)) dX12_bestOdds_68 ⟨Nat.le_of_ble_eq_true rfl, Nat.le_of_ble_eq_true rfl⟩).run (fun r_41 hw_42 => ?_)
            rw [hQ]
            exact W.lret (v := r_41) hx hb hr (fun tQ htQ hWQ => ⟨⟨r_41, (), rfl, by rw [hw_42, bo_val (by omega) (by omega) ba_37_1, ← (show (GG (fun q => ind (pth 1 jx_6 q) 1 jy_14) 8).1 = lN ba_37 from ba_37_2), bz1, fbo]; simp only [tA1, tA2, tA3, tB1, tB2, tB3, if_false, nI_clamp (n := jx_6) (by omega), nI_clamp (n := jy_14) (by omega), tc1, tc2, tc3]; (repeat' split) <;> first | contradiction | with_reducible rfl | simp_all, trivial⟩, hS.F htQ⟩) hS.2.2 dX12_bestOdds_71
          · skip
            refine lv_if_ne (tgt := 37) hx hb dX12_bestOdds_30 (by decide) (fun c_43 => absurd c_43 (by decide)) (fun _ => ?_)
            refine lv_ldc2 (v := (-9223372036854775808)) hx hb hown (hts (.constantLong RX12 181 (-9223372036854775808)) kc_mBestOdds_2) dX12_bestOdds_33 ?_
            rw [hQ]
            exact W.lret (v := (-9223372036854775808)) hx hb hr (fun tQ htQ hWQ => ⟨⟨(-9223372036854775808), (), rfl, by simp only [fbo, tA1, tA2, tA3, tB1, tB2, tB3, if_false]; (repeat' split) <;> first | contradiction | with_reducible rfl | (rcases (by assumption : _ ∨ _) with q | q <;> contradiction) | (simp_all; done) | (simp only [← Int32.not_lt] at *; simp_all), trivial⟩, hS.F htQ⟩) hS.2.2 dX12_bestOdds_36
        · skip
          refine lv_if_eq (tgt := 33) hx hb dX12_bestOdds_20 (by decide) (fun c_44 => absurd c_44 (by decide)) (fun _ => ?_)
          refine lv_iload hx hb dX12_bestOdds_23 (lv_at hl 4 rfl) ?_
          refine lv_iconst (v := 0) hx hb dX12_bestOdds_25 (by decide) ?_
          refine lv_iconst (v := 1) hx hb dX12_bestOdds_26 (by decide) ?_
          refine vp_callSi (va_runS (As := [.int z, .int 0, .int 1]) (rest := []) ⟨hx, hb, hml, hown, hts⟩ (c_in l dC dI z 0 1) (va_cwS 3 hts gX12_bestOdds_X12_in rfl rfl rfl (by decide +kernel) ⟨Nat.le_of_ble_eq_true rfl, Nat.le_of_ble_eq_true rfl⟩) ⟨fun a U g mk q => ⟨q.1, trivial⟩, fun U hU hW => ⟨rfl, trivial⟩⟩ rfl rfl hl.1 rfl (lv_room (Nat.le_of_ble_eq_true rfl)) dX12_bestOdds_27 ⟨Nat.le_of_ble_eq_true rfl, Nat.le_of_ble_eq_true rfl⟩).run (fun r_45 hw_46 => ?_)
          rcases hw_46 with ⟨rfl, h_47, h_48⟩ | ⟨rfl, h_49⟩
          · skip
            refine lv_if_ne (tgt := 37) hx hb dX12_bestOdds_30 (by decide) (fun _ => ?_) (fun c_50 => absurd c_50 (by decide))
            refine lv_aload_n hx hb dX12_bestOdds_37 rfl (lv_at hl 0 rfl) ?_
            refine lv_iload_n hx hb dX12_bestOdds_38 rfl (lv_at hl 1 rfl) ?_
            refine lv_iload_n hx hb dX12_bestOdds_39 rfl (lv_at hl 2 rfl) ?_
            refine lv_iload_n hx hb dX12_bestOdds_40 rfl (lv_at hl 3 rfl) ?_
            have hPc := hP.sub (ws' := [(m0, .inr (14, [.int 0, .ref aS, .ref aI, .int 0, .int 0, .int 0, .int 0, .int 0, .int 0, .ref aB, .ref aT, .int 0, .int 0, .ref aG, .ref aO, .ref aN, .ref aD, .long bv, .ref aY, .int 0, .int 0, .int 0, .int 0])), (aS, .inl (cS, 901, .inl s0)), (aB, .inl (cB, 6, .inl fB)), (aO, .inl (cO, 36, .inr (.inl fO))), (aN, .inl (cN, 36, .inr (.inl fN))), (aD, .inl (cD, 36, .inl fD))]) [0, 1, 2, 3, 4, 5] rfl
            have hDc := hD.sub (ws' := [(m0, .inr (14, [.int 0, .ref aS, .ref aI, .int 0, .int 0, .int 0, .int 0, .int 0, .int 0, .ref aB, .ref aT, .int 0, .int 0, .ref aG, .ref aO, .ref aN, .ref aD, .long bv, .ref aY, .int 0, .int 0, .int 0, .int 0])), (aS, .inl (cS, 901, .inl s0)), (aB, .inl (cB, 6, .inl fB)), (aO, .inl (cO, 36, .inr (.inl fO))), (aN, .inl (cN, 36, .inr (.inl fN))), (aD, .inl (cD, 36, .inl fD))]) [0, 1, 2, 3, 4, 5] (by decide) rfl
            have hKc := hK.sub (tys' := [(cS, .int), (cB, .int), (cO, .long), (cN, .long), (cD, .int)]) [0, 1, 2, 3, 4] rfl
            have hFc := va_free (wc := [(m0, .inr (14, [.int 0, .ref aS, .ref aI, .int 0, .int 0, .int 0, .int 0, .int 0, .int 0, .ref aB, .ref aT, .int 0, .int 0, .ref aG, .ref aO, .ref aN, .ref aD, .long bv, .ref aY, .int 0, .int 0, .int 0, .int 0])), (aS, .inl (cS, 901, .inl s0)), (aB, .inl (cB, 6, .inl fB)), (aO, .inl (cO, 36, .inr (.inl fO))), (aN, .inl (cN, 36, .inr (.inl fN))), (aD, .inl (cD, 36, .inl fD))]) hD hS hA [0, 1, 2, 3, 4, 5] rfl
            refine va_calli (va_runV (As := [.int (nI jx_6), .int (nI jy_14), .int 2]) (rest := []) ⟨hx, hb, hml, hown, hts⟩ (c_bestRow2 l dC dI m0 aS aI aB aT aG aO aN aD aY bv cS cB cO cN cD fB fD fO fN jx_6 jy_14 H.size (by omega) (by omega)) (cwV 3 hts gX12_bestOdds_X12_bestRow rfl rfl rfl (by decide +kernel) ⟨Nat.le_of_ble_eq_true rfl, Nat.le_of_ble_eq_true rfl⟩) ⟨fun a U g mk q => by obtain ⟨q0, q1, qP, qK, qD⟩ := q; exact ⟨q0, q1, qP, va_K.moved (u := U) (U := U.calling g mk a) (Vm.Alike.refl U.vm) qK, qD⟩, va_recv hK hP (ci := 14) (q0 := 0) rfl rfl, fun U hU hW => ⟨rfl, by rw [hU], by rw [hU]; exact hPc, va_K.moved hW.alike hKc, hDc.weaken (fun _ _ _ _ => trivial)⟩⟩ rfl rfl hl.1 rfl (lv_room (Nat.le_of_ble_eq_true rfl)) dX12_bestOdds_41 ⟨Nat.le_of_ble_eq_true rfl, Nat.le_of_ble_eq_true rfl⟩) hS (fun q _ h => hFc q h) hFc (fun r_51 u tC H1 locs htC hvm hw_52 hB hz1 hk1 hS => ?_)
            obtain ⟨fB2_53, fO2_54, fN2_55, fD2_56, bv2_57⟩ := u
            try dsimp only at hw_52 hB
            obtain ⟨hP1, hK1, hD1⟩ := hB
            rw [htC] at hP1
            have hK1 := va_K.moved hvm.symm hK1
            obtain ⟨hP, hD⟩ := va_join (wr := []) (w1 := [(m0, .inr (14, [.int 0, .ref aS, .ref aI, .int 0, .int 0, .int 0, .int 0, .int 0, .int 0, .ref aB, .ref aT, .int 0, .int 0, .ref aG, .ref aO, .ref aN, .ref aD, .long bv2_57, .ref aY, .int 0, .int 0, .int 0, .int 0])), (aS, .inl (cS, 901, .inl s0)), (aB, .inl (cB, 6, .inl fB2_53)), (aO, .inl (cO, 36, .inr (.inl fO2_54))), (aN, .inl (cN, 36, .inr (.inl fN2_55))), (aD, .inl (cD, 36, .inl fD2_56))]) hP hD [0, 1, 2, 3, 4, 5] [] rfl rfl (by decide) (by decide) hk1 hFc hP1 hD1
            have hK := (hK.sub (tys' := []) [] rfl).app hK1
            generalize H1 = H at hP hS ⊢
            have hP : va_P (dC, dI) vwCl [(m0, .inr (14, [.int 0, .ref aS, .ref aI, .int 0, .int 0, .int 0, .int 0, .int 0, .int 0, .ref aB, .ref aT, .int 0, .int 0, .ref aG, .ref aO, .ref aN, .ref aD, .long bv2_57, .ref aY, .int 0, .int 0, .int 0, .int 0])), (aS, .inl (cS, 901, .inl s0)), (aB, .inl (cB, 6, .inl fB2_53)), (aO, .inl (cO, 36, .inr (.inl fO2_54))), (aN, .inl (cN, 36, .inr (.inl fN2_55))), (aD, .inl (cD, 36, .inl fD2_56))] H := hP
            have hD : va_D A [(m0, .inr (14, [.int 0, .ref aS, .ref aI, .int 0, .int 0, .int 0, .int 0, .int 0, .int 0, .ref aB, .ref aT, .int 0, .int 0, .ref aG, .ref aO, .ref aN, .ref aD, .long bv2_57, .ref aY, .int 0, .int 0, .int 0, .int 0])), (aS, .inl (cS, 901, .inl s0)), (aB, .inl (cB, 6, .inl fB2_53)), (aO, .inl (cO, 36, .inr (.inl fO2_54))), (aN, .inl (cN, 36, .inr (.inl fN2_55))), (aD, .inl (cD, 36, .inl fD2_56))] := hD
            have hK : va_K (dC, dI) vwCl [(cS, .int), (cB, .int), (cO, .long), (cN, .long), (cD, .int)] s := hK
            obtain ⟨gb_58, hgb_58, ggb_58, rfl⟩ := row_of (by omega) hw_52.1
            obtain ⟨ba_59, ba_59_1, ba_59_2⟩ := best_val' 2 jx_6 jy_14 (by omega) (by omega)
            have ba_59_2 : Hid ((GG (fun q => ind (pth 2 jx_6 q) 2 jy_14) 64).1 = lN ba_59) := ba_59_2
            refine lv_istore (lv' := [(5, .int (nI gb_58)), (0, .ref m0), (1, .int (nI jx_6)), (2, .int (nI jy_14)), (3, .int 2), (4, .int z)]) hx hb dX12_bestOdds_44 hl (by decide) rfl (fun ls hl => ?_)
            refine lv_iload hx hb dX12_bestOdds_46 (lv_at hl 0 rfl) ?_
            refine lv_iconst (v := (-1)) hx hb dX12_bestOdds_48 (by decide) ?_
            refine lv_icmp_ne (tgt := 58) hx hb dX12_bestOdds_49 (by decide) (fun c_60 => ?_) (fun c_60 => absurd c_60 (g_ne (by omega)))
            refine lv_aload_n hx hb dX12_bestOdds_58 rfl (lv_at hl 1 rfl) ?_
            refine va_get (D := (dC, dI)) (ci := 14) (v := .long bv2_57) (C := RX12) (T := TX12) (N := 23) hx hb hts kc_mBestOdds_0 hown hK hP 0 rfl rfl 17 (by decide) (hts (.fieldLink RX12 236 "MistHeapsModel" "bestOften" "J") kc_mBestOdds_1) (fun _ h9 => h9) rfl dX12_bestOdds_59 ?_
            refine ql_as (y := lN ba_59) (hw_52.2.trans (show (GG (fun q => ind (pth 2 jx_6 q) 2 jy_14) 64).1 = lN ba_59 from ba_59_2)) ?_
            refine lv_iload_n hx hb dX12_bestOdds_62 rfl (lv_at hl 4 rfl) ?_
            refine vp_callSl (va_runS (As := [.int 2]) (rest := [.long (lN ba_59)]) ⟨hx, hb, hml, hown, hts⟩ (c_twenties l dC dI 2 (by omega)) (va_cwS 1 hts gX12_bestOdds_X12_twenties rfl rfl rfl (by decide +kernel) ⟨Nat.le_of_ble_eq_true rfl, Nat.le_of_ble_eq_true rfl⟩) ⟨fun a U g mk q => ⟨q.1, trivial⟩, fun U hU hW => ⟨rfl, trivial⟩⟩ rfl rfl hl.1 rfl (lv_room (Nat.le_of_ble_eq_true rfl)) dX12_bestOdds_63 ⟨Nat.le_of_ble_eq_true rfl, Nat.le_of_ble_eq_true rfl⟩).run (fun r_61 hw_62 => ?_)
            refine ql_as (y := lN (20 ^ 2)) (hw_62) ?_
            refine lv_iload hx hb dX12_bestOdds_66 (lv_at hl 5 rfl) ?_
            refine vp_callSl (va_runS (As := [.long (lN ba_59), .long (lN (20 ^ 2)), .int z]) (rest := []) ⟨hx, hb, hml, hown, hts⟩ (c_lowest l dC dI ba_59 (20 ^ 2) z (by rcases ba_59_1 with h | h <;> rw [h] <;> decide) (by decide) (by decide) (a_mod ba_59_1)) (va_cwS 3 hts gX12_bestOdds_X12_lowest rfl rfl rfl (by decide +kernel) ⟨Nat.le_of_ble_eq_true rfl, Nat.le_of_ble_eq_true rfl⟩) ⟨fun a U g mk q => ⟨q.1, trivial⟩, fun U hU hW => ⟨rfl, trivial⟩⟩ rfl rfl hl.1 rfl (lv_room (Nat.le_of_ble_eq_true rfl)) dX12_bestOdds_68 ⟨Nat.le_of_ble_eq_true rfl, Nat.le_of_ble_eq_true rfl⟩).run (fun r_63 hw_64 => ?_)
            rw [hQ]
            exact W.lret (v := r_63) hx hb hr (fun tQ htQ hWQ => ⟨⟨r_63, (), rfl, by rw [hw_64, bo_val (by omega) (by omega) ba_59_1, ← (show (GG (fun q => ind (pth 2 jx_6 q) 2 jy_14) 64).1 = lN ba_59 from ba_59_2), bz2, fbo]; simp only [tA1, tA2, tA3, tB1, tB2, tB3, if_false, nI_clamp (n := jx_6) (by omega), nI_clamp (n := jy_14) (by omega), tc1, tc2, tc3]; (repeat' split) <;> first | contradiction | with_reducible rfl | simp_all, trivial⟩, hS.F htQ⟩) hS.2.2 dX12_bestOdds_71
          · skip
            refine lv_if_ne (tgt := 37) hx hb dX12_bestOdds_30 (by decide) (fun c_65 => absurd c_65 (by decide)) (fun _ => ?_)
            refine lv_ldc2 (v := (-9223372036854775808)) hx hb hown (hts (.constantLong RX12 181 (-9223372036854775808)) kc_mBestOdds_2) dX12_bestOdds_33 ?_
            rw [hQ]
            exact W.lret (v := (-9223372036854775808)) hx hb hr (fun tQ htQ hWQ => ⟨⟨(-9223372036854775808), (), rfl, by simp only [fbo, tA1, tA2, tA3, tB1, tB2, tB3, if_false]; (repeat' split) <;> first | contradiction | with_reducible rfl | (rcases (by assumption : _ ∨ _) with q | q <;> contradiction) | (simp_all; done) | (simp only [← Int32.not_lt] at *; simp_all), trivial⟩, hS.F htQ⟩) hS.2.2 dX12_bestOdds_36
        · skip
          refine lv_if_eq (tgt := 33) hx hb dX12_bestOdds_20 (by decide) (fun c_66 => absurd c_66 (by decide)) (fun _ => ?_)
          refine lv_iload hx hb dX12_bestOdds_23 (lv_at hl 4 rfl) ?_
          refine lv_iconst (v := 0) hx hb dX12_bestOdds_25 (by decide) ?_
          refine lv_iconst (v := 1) hx hb dX12_bestOdds_26 (by decide) ?_
          refine vp_callSi (va_runS (As := [.int z, .int 0, .int 1]) (rest := []) ⟨hx, hb, hml, hown, hts⟩ (c_in l dC dI z 0 1) (va_cwS 3 hts gX12_bestOdds_X12_in rfl rfl rfl (by decide +kernel) ⟨Nat.le_of_ble_eq_true rfl, Nat.le_of_ble_eq_true rfl⟩) ⟨fun a U g mk q => ⟨q.1, trivial⟩, fun U hU hW => ⟨rfl, trivial⟩⟩ rfl rfl hl.1 rfl (lv_room (Nat.le_of_ble_eq_true rfl)) dX12_bestOdds_27 ⟨Nat.le_of_ble_eq_true rfl, Nat.le_of_ble_eq_true rfl⟩).run (fun r_67 hw_68 => ?_)
          rcases hw_68 with ⟨rfl, h_69, h_70⟩ | ⟨rfl, h_71⟩
          · skip
            refine lv_if_ne (tgt := 37) hx hb dX12_bestOdds_30 (by decide) (fun _ => ?_) (fun c_72 => absurd c_72 (by decide))
            refine lv_aload_n hx hb dX12_bestOdds_37 rfl (lv_at hl 0 rfl) ?_
            refine lv_iload_n hx hb dX12_bestOdds_38 rfl (lv_at hl 1 rfl) ?_
            refine lv_iload_n hx hb dX12_bestOdds_39 rfl (lv_at hl 2 rfl) ?_
            refine lv_iload_n hx hb dX12_bestOdds_40 rfl (lv_at hl 3 rfl) ?_
            have hPc := hP.sub (ws' := [(m0, .inr (14, [.int 0, .ref aS, .ref aI, .int 0, .int 0, .int 0, .int 0, .int 0, .int 0, .ref aB, .ref aT, .int 0, .int 0, .ref aG, .ref aO, .ref aN, .ref aD, .long bv, .ref aY, .int 0, .int 0, .int 0, .int 0])), (aS, .inl (cS, 901, .inl s0)), (aB, .inl (cB, 6, .inl fB)), (aO, .inl (cO, 36, .inr (.inl fO))), (aN, .inl (cN, 36, .inr (.inl fN))), (aD, .inl (cD, 36, .inl fD))]) [0, 1, 2, 3, 4, 5] rfl
            have hDc := hD.sub (ws' := [(m0, .inr (14, [.int 0, .ref aS, .ref aI, .int 0, .int 0, .int 0, .int 0, .int 0, .int 0, .ref aB, .ref aT, .int 0, .int 0, .ref aG, .ref aO, .ref aN, .ref aD, .long bv, .ref aY, .int 0, .int 0, .int 0, .int 0])), (aS, .inl (cS, 901, .inl s0)), (aB, .inl (cB, 6, .inl fB)), (aO, .inl (cO, 36, .inr (.inl fO))), (aN, .inl (cN, 36, .inr (.inl fN))), (aD, .inl (cD, 36, .inl fD))]) [0, 1, 2, 3, 4, 5] (by decide) rfl
            have hKc := hK.sub (tys' := [(cS, .int), (cB, .int), (cO, .long), (cN, .long), (cD, .int)]) [0, 1, 2, 3, 4] rfl
            have hFc := va_free (wc := [(m0, .inr (14, [.int 0, .ref aS, .ref aI, .int 0, .int 0, .int 0, .int 0, .int 0, .int 0, .ref aB, .ref aT, .int 0, .int 0, .ref aG, .ref aO, .ref aN, .ref aD, .long bv, .ref aY, .int 0, .int 0, .int 0, .int 0])), (aS, .inl (cS, 901, .inl s0)), (aB, .inl (cB, 6, .inl fB)), (aO, .inl (cO, 36, .inr (.inl fO))), (aN, .inl (cN, 36, .inr (.inl fN))), (aD, .inl (cD, 36, .inl fD))]) hD hS hA [0, 1, 2, 3, 4, 5] rfl
            refine va_calli (va_runV (As := [.int (nI jx_6), .int (nI jy_14), .int 3]) (rest := []) ⟨hx, hb, hml, hown, hts⟩ (c_bestRow3 l dC dI m0 aS aI aB aT aG aO aN aD aY bv cS cB cO cN cD fB fD fO fN jx_6 jy_14 H.size (by omega) (by omega)) (cwV 3 hts gX12_bestOdds_X12_bestRow rfl rfl rfl (by decide +kernel) ⟨Nat.le_of_ble_eq_true rfl, Nat.le_of_ble_eq_true rfl⟩) ⟨fun a U g mk q => by obtain ⟨q0, q1, qP, qK, qD⟩ := q; exact ⟨q0, q1, qP, va_K.moved (u := U) (U := U.calling g mk a) (Vm.Alike.refl U.vm) qK, qD⟩, va_recv hK hP (ci := 14) (q0 := 0) rfl rfl, fun U hU hW => ⟨rfl, by rw [hU], by rw [hU]; exact hPc, va_K.moved hW.alike hKc, hDc.weaken (fun _ _ _ _ => trivial)⟩⟩ rfl rfl hl.1 rfl (lv_room (Nat.le_of_ble_eq_true rfl)) dX12_bestOdds_41 ⟨Nat.le_of_ble_eq_true rfl, Nat.le_of_ble_eq_true rfl⟩) hS (fun q _ h => hFc q h) hFc (fun r_73 u tC H1 locs htC hvm hw_74 hB hz1 hk1 hS => ?_)
            obtain ⟨fB2_75, fO2_76, fN2_77, fD2_78, bv2_79⟩ := u
            try dsimp only at hw_74 hB
            obtain ⟨hP1, hK1, hD1⟩ := hB
            rw [htC] at hP1
            have hK1 := va_K.moved hvm.symm hK1
            obtain ⟨hP, hD⟩ := va_join (wr := []) (w1 := [(m0, .inr (14, [.int 0, .ref aS, .ref aI, .int 0, .int 0, .int 0, .int 0, .int 0, .int 0, .ref aB, .ref aT, .int 0, .int 0, .ref aG, .ref aO, .ref aN, .ref aD, .long bv2_79, .ref aY, .int 0, .int 0, .int 0, .int 0])), (aS, .inl (cS, 901, .inl s0)), (aB, .inl (cB, 6, .inl fB2_75)), (aO, .inl (cO, 36, .inr (.inl fO2_76))), (aN, .inl (cN, 36, .inr (.inl fN2_77))), (aD, .inl (cD, 36, .inl fD2_78))]) hP hD [0, 1, 2, 3, 4, 5] [] rfl rfl (by decide) (by decide) hk1 hFc hP1 hD1
            have hK := (hK.sub (tys' := []) [] rfl).app hK1
            generalize H1 = H at hP hS ⊢
            have hP : va_P (dC, dI) vwCl [(m0, .inr (14, [.int 0, .ref aS, .ref aI, .int 0, .int 0, .int 0, .int 0, .int 0, .int 0, .ref aB, .ref aT, .int 0, .int 0, .ref aG, .ref aO, .ref aN, .ref aD, .long bv2_79, .ref aY, .int 0, .int 0, .int 0, .int 0])), (aS, .inl (cS, 901, .inl s0)), (aB, .inl (cB, 6, .inl fB2_75)), (aO, .inl (cO, 36, .inr (.inl fO2_76))), (aN, .inl (cN, 36, .inr (.inl fN2_77))), (aD, .inl (cD, 36, .inl fD2_78))] H := hP
            have hD : va_D A [(m0, .inr (14, [.int 0, .ref aS, .ref aI, .int 0, .int 0, .int 0, .int 0, .int 0, .int 0, .ref aB, .ref aT, .int 0, .int 0, .ref aG, .ref aO, .ref aN, .ref aD, .long bv2_79, .ref aY, .int 0, .int 0, .int 0, .int 0])), (aS, .inl (cS, 901, .inl s0)), (aB, .inl (cB, 6, .inl fB2_75)), (aO, .inl (cO, 36, .inr (.inl fO2_76))), (aN, .inl (cN, 36, .inr (.inl fN2_77))), (aD, .inl (cD, 36, .inl fD2_78))] := hD
            have hK : va_K (dC, dI) vwCl [(cS, .int), (cB, .int), (cO, .long), (cN, .long), (cD, .int)] s := hK
            obtain ⟨gb_80, hgb_80, ggb_80, rfl⟩ := row_of (by omega) hw_74.1
            obtain ⟨ba_81, ba_81_1, ba_81_2⟩ := best_val' 3 jx_6 jy_14 (by omega) (by omega)
            have ba_81_2 : Hid ((GG (fun q => ind (pth 3 jx_6 q) 3 jy_14) 512).1 = lN ba_81) := ba_81_2
            refine lv_istore (lv' := [(5, .int (nI gb_80)), (0, .ref m0), (1, .int (nI jx_6)), (2, .int (nI jy_14)), (3, .int 3), (4, .int z)]) hx hb dX12_bestOdds_44 hl (by decide) rfl (fun ls hl => ?_)
            refine lv_iload hx hb dX12_bestOdds_46 (lv_at hl 0 rfl) ?_
            refine lv_iconst (v := (-1)) hx hb dX12_bestOdds_48 (by decide) ?_
            refine lv_icmp_ne (tgt := 58) hx hb dX12_bestOdds_49 (by decide) (fun c_82 => ?_) (fun c_82 => absurd c_82 (g_ne (by omega)))
            refine lv_aload_n hx hb dX12_bestOdds_58 rfl (lv_at hl 1 rfl) ?_
            refine va_get (D := (dC, dI)) (ci := 14) (v := .long bv2_79) (C := RX12) (T := TX12) (N := 23) hx hb hts kc_mBestOdds_0 hown hK hP 0 rfl rfl 17 (by decide) (hts (.fieldLink RX12 236 "MistHeapsModel" "bestOften" "J") kc_mBestOdds_1) (fun _ h9 => h9) rfl dX12_bestOdds_59 ?_
            refine ql_as (y := lN ba_81) (hw_74.2.trans (show (GG (fun q => ind (pth 3 jx_6 q) 3 jy_14) 512).1 = lN ba_81 from ba_81_2)) ?_
            refine lv_iload_n hx hb dX12_bestOdds_62 rfl (lv_at hl 4 rfl) ?_
            refine vp_callSl (va_runS (As := [.int 3]) (rest := [.long (lN ba_81)]) ⟨hx, hb, hml, hown, hts⟩ (c_twenties l dC dI 3 (by omega)) (va_cwS 1 hts gX12_bestOdds_X12_twenties rfl rfl rfl (by decide +kernel) ⟨Nat.le_of_ble_eq_true rfl, Nat.le_of_ble_eq_true rfl⟩) ⟨fun a U g mk q => ⟨q.1, trivial⟩, fun U hU hW => ⟨rfl, trivial⟩⟩ rfl rfl hl.1 rfl (lv_room (Nat.le_of_ble_eq_true rfl)) dX12_bestOdds_63 ⟨Nat.le_of_ble_eq_true rfl, Nat.le_of_ble_eq_true rfl⟩).run (fun r_83 hw_84 => ?_)
            refine ql_as (y := lN (20 ^ 3)) (hw_84) ?_
            refine lv_iload hx hb dX12_bestOdds_66 (lv_at hl 5 rfl) ?_
            refine vp_callSl (va_runS (As := [.long (lN ba_81), .long (lN (20 ^ 3)), .int z]) (rest := []) ⟨hx, hb, hml, hown, hts⟩ (c_lowest l dC dI ba_81 (20 ^ 3) z (by rcases ba_81_1 with h | h <;> rw [h] <;> decide) (by decide) (by decide) (a_mod ba_81_1)) (va_cwS 3 hts gX12_bestOdds_X12_lowest rfl rfl rfl (by decide +kernel) ⟨Nat.le_of_ble_eq_true rfl, Nat.le_of_ble_eq_true rfl⟩) ⟨fun a U g mk q => ⟨q.1, trivial⟩, fun U hU hW => ⟨rfl, trivial⟩⟩ rfl rfl hl.1 rfl (lv_room (Nat.le_of_ble_eq_true rfl)) dX12_bestOdds_68 ⟨Nat.le_of_ble_eq_true rfl, Nat.le_of_ble_eq_true rfl⟩).run (fun r_85 hw_86 => ?_)
            rw [hQ]
            exact W.lret (v := r_85) hx hb hr (fun tQ htQ hWQ => ⟨⟨r_85, (), rfl, by rw [hw_86, bo_val (by omega) (by omega) ba_81_1, ← (show (GG (fun q => ind (pth 3 jx_6 q) 3 jy_14) 512).1 = lN ba_81 from ba_81_2), bz3, fbo]; simp only [tA1, tA2, tA3, tB1, tB2, tB3, if_false, nI_clamp (n := jx_6) (by omega), nI_clamp (n := jy_14) (by omega), tc1, tc2, tc3]; (repeat' split) <;> first | contradiction | with_reducible rfl | simp_all, trivial⟩, hS.F htQ⟩) hS.2.2 dX12_bestOdds_71
          · skip
            refine lv_if_ne (tgt := 37) hx hb dX12_bestOdds_30 (by decide) (fun c_87 => absurd c_87 (by decide)) (fun _ => ?_)
            refine lv_ldc2 (v := (-9223372036854775808)) hx hb hown (hts (.constantLong RX12 181 (-9223372036854775808)) kc_mBestOdds_2) dX12_bestOdds_33 ?_
            rw [hQ]
            exact W.lret (v := (-9223372036854775808)) hx hb hr (fun tQ htQ hWQ => ⟨⟨(-9223372036854775808), (), rfl, by simp only [fbo, tA1, tA2, tA3, tB1, tB2, tB3, if_false]; (repeat' split) <;> first | contradiction | with_reducible rfl | (rcases (by assumption : _ ∨ _) with q | q <;> contradiction) | (simp_all; done) | (simp only [← Int32.not_lt] at *; simp_all), trivial⟩, hS.F htQ⟩) hS.2.2 dX12_bestOdds_36
      · skip
        refine lv_if_eq (tgt := 33) hx hb dX12_bestOdds_20 (by decide) (fun _ => ?_) (fun c_88 => absurd c_88 (by decide))
        refine lv_ldc2 (v := (-9223372036854775808)) hx hb hown (hts (.constantLong RX12 181 (-9223372036854775808)) kc_mBestOdds_2) dX12_bestOdds_33 ?_
        rw [hQ]
        exact W.lret (v := (-9223372036854775808)) hx hb hr (fun tQ htQ hWQ => ⟨⟨(-9223372036854775808), (), rfl, by simp only [fbo, tA1, tA2, tA3, tB1, tB2, tB3, if_false]; (repeat' split) <;> first | contradiction | with_reducible rfl | (rcases (by assumption : _ ∨ _) with q | q <;> contradiction) | (simp_all; done) | (simp only [← Int32.not_lt] at *; simp_all), trivial⟩, hS.F htQ⟩) hS.2.2 dX12_bestOdds_36
    · skip
      refine lv_if_eq (tgt := 33) hx hb dX12_bestOdds_11 (by decide) (fun _ => ?_) (fun c_89 => absurd c_89 (by decide))
      refine lv_ldc2 (v := (-9223372036854775808)) hx hb hown (hts (.constantLong RX12 181 (-9223372036854775808)) kc_mBestOdds_2) dX12_bestOdds_33 ?_
      rw [hQ]
      exact W.lret (v := (-9223372036854775808)) hx hb hr (fun tQ htQ hWQ => ⟨⟨(-9223372036854775808), (), rfl, by simp only [fbo, tA1, tA2, tA3, tB1, tB2, tB3, if_false]; (repeat' split) <;> first | contradiction | with_reducible rfl | (rcases (by assumption : _ ∨ _) with q | q <;> contradiction) | (simp_all; done) | (simp only [← Int32.not_lt] at *; simp_all), trivial⟩, hS.F htQ⟩) hS.2.2 dX12_bestOdds_36
  · skip
    refine lv_if_eq (tgt := 33) hx hb dX12_bestOdds_4 (by decide) (fun _ => ?_) (fun c_90 => absurd c_90 (by decide))
    refine lv_ldc2 (v := (-9223372036854775808)) hx hb hown (hts (.constantLong RX12 181 (-9223372036854775808)) kc_mBestOdds_2) dX12_bestOdds_33 ?_
    rw [hQ]
    exact W.lret (v := (-9223372036854775808)) hx hb hr (fun tQ htQ hWQ => ⟨⟨(-9223372036854775808), (), rfl, by simp only [fbo, tA1, tA2, tA3, tB1, tB2, tB3, if_false]; (repeat' split) <;> first | contradiction | with_reducible rfl | (rcases (by assumption : _ ∨ _) with q | q <;> contradiction) | (simp_all; done) | (simp only [← Int32.not_lt] at *; simp_all), trivial⟩, hS.F htQ⟩) hS.2.2 dX12_bestOdds_36
