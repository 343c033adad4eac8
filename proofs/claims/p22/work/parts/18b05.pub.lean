noncomputable def dk18b05pub_cX11_walk_0 : List (Nat × Instr × Nat) := [(0, .iload_n 1, 1), (1, .iconst (-1), 1), (2, .if_icmp .ne 13, 3), (15, .iload_n 1, 1), (16, .ifCond .lt 9, 3), (25, .iconst (-1), 1), (26, .ireturn, 1), (19, .iload_n 1, 1), (20, .bipush 8, 2), (22, .if_icmp .lt 5, 3), (27, .aload_n 0, 1), (28, .getfield 14, 3), (31, .getfield 169, 3), (34, .bipush 6, 2), (36, .if_icmp .lt 6, 3), (42, .aload_n 0, 1), (43, .getfield 14, 3), (46, .getfield 172, 3), (49, .aload_n 0, 1), (50, .getfield 14, 3), (53, .getfield 169, 3), (56, .iload_n 1, 1), (57, .iastore, 1), (58, .aload_n 0, 1), (59, .getfield 14, 3), (62, .dup, 1), (63, .getfield 169, 3), (66, .iconst 1, 1), (67, .iadd, 1), (68, .putfield 169, 3), (71, .aload_n 0, 1), (72, .getfield 14, 3), (75, .getfield 169, 3), (78, .ireturn, 1), (39, .bipush (-4), 2), (41, .ireturn, 1), (5, .aload_n 0, 1), (6, .getfield 14, 3), (9, .iconst 0, 1), (10, .putfield 169, 3)]
set_option maxRecDepth 100000 in
theorem dk18b05pub_cX11_walk_0_a : dkA cX11_walk dk18b05pub_cX11_walk_0 = true := by decide +kernel
theorem dX11_walk_0 : decode cX11_walk 0 = .ok (.iload_n 1, 1) := dkAt dk18b05pub_cX11_walk_0_a 0 rfl
theorem dX11_walk_1 : decode cX11_walk 1 = .ok (.iconst (-1), 1) := dkAt dk18b05pub_cX11_walk_0_a 1 rfl
theorem dX11_walk_2 : decode cX11_walk 2 = .ok (.if_icmp .ne 13, 3) := dkAt dk18b05pub_cX11_walk_0_a 2 rfl
theorem dX11_walk_15 : decode cX11_walk 15 = .ok (.iload_n 1, 1) := dkAt dk18b05pub_cX11_walk_0_a 3 rfl
theorem dX11_walk_16 : decode cX11_walk 16 = .ok (.ifCond .lt 9, 3) := dkAt dk18b05pub_cX11_walk_0_a 4 rfl
theorem dX11_walk_25 : decode cX11_walk 25 = .ok (.iconst (-1), 1) := dkAt dk18b05pub_cX11_walk_0_a 5 rfl
theorem dX11_walk_26 : decode cX11_walk 26 = .ok (.ireturn, 1) := dkAt dk18b05pub_cX11_walk_0_a 6 rfl
theorem dX11_walk_19 : decode cX11_walk 19 = .ok (.iload_n 1, 1) := dkAt dk18b05pub_cX11_walk_0_a 7 rfl
theorem dX11_walk_20 : decode cX11_walk 20 = .ok (.bipush 8, 2) := dkAt dk18b05pub_cX11_walk_0_a 8 rfl
theorem dX11_walk_22 : decode cX11_walk 22 = .ok (.if_icmp .lt 5, 3) := dkAt dk18b05pub_cX11_walk_0_a 9 rfl
theorem dX11_walk_27 : decode cX11_walk 27 = .ok (.aload_n 0, 1) := dkAt dk18b05pub_cX11_walk_0_a 10 rfl
theorem dX11_walk_28 : decode cX11_walk 28 = .ok (.getfield 14, 3) := dkAt dk18b05pub_cX11_walk_0_a 11 rfl
theorem dX11_walk_31 : decode cX11_walk 31 = .ok (.getfield 169, 3) := dkAt dk18b05pub_cX11_walk_0_a 12 rfl
theorem dX11_walk_34 : decode cX11_walk 34 = .ok (.bipush 6, 2) := dkAt dk18b05pub_cX11_walk_0_a 13 rfl
theorem dX11_walk_36 : decode cX11_walk 36 = .ok (.if_icmp .lt 6, 3) := dkAt dk18b05pub_cX11_walk_0_a 14 rfl
theorem dX11_walk_42 : decode cX11_walk 42 = .ok (.aload_n 0, 1) := dkAt dk18b05pub_cX11_walk_0_a 15 rfl
theorem dX11_walk_43 : decode cX11_walk 43 = .ok (.getfield 14, 3) := dkAt dk18b05pub_cX11_walk_0_a 16 rfl
theorem dX11_walk_46 : decode cX11_walk 46 = .ok (.getfield 172, 3) := dkAt dk18b05pub_cX11_walk_0_a 17 rfl
theorem dX11_walk_49 : decode cX11_walk 49 = .ok (.aload_n 0, 1) := dkAt dk18b05pub_cX11_walk_0_a 18 rfl
theorem dX11_walk_50 : decode cX11_walk 50 = .ok (.getfield 14, 3) := dkAt dk18b05pub_cX11_walk_0_a 19 rfl
theorem dX11_walk_53 : decode cX11_walk 53 = .ok (.getfield 169, 3) := dkAt dk18b05pub_cX11_walk_0_a 20 rfl
theorem dX11_walk_56 : decode cX11_walk 56 = .ok (.iload_n 1, 1) := dkAt dk18b05pub_cX11_walk_0_a 21 rfl
theorem dX11_walk_57 : decode cX11_walk 57 = .ok (.iastore, 1) := dkAt dk18b05pub_cX11_walk_0_a 22 rfl
theorem dX11_walk_58 : decode cX11_walk 58 = .ok (.aload_n 0, 1) := dkAt dk18b05pub_cX11_walk_0_a 23 rfl
theorem dX11_walk_59 : decode cX11_walk 59 = .ok (.getfield 14, 3) := dkAt dk18b05pub_cX11_walk_0_a 24 rfl
theorem dX11_walk_62 : decode cX11_walk 62 = .ok (.dup, 1) := dkAt dk18b05pub_cX11_walk_0_a 25 rfl
theorem dX11_walk_63 : decode cX11_walk 63 = .ok (.getfield 169, 3) := dkAt dk18b05pub_cX11_walk_0_a 26 rfl
theorem dX11_walk_66 : decode cX11_walk 66 = .ok (.iconst 1, 1) := dkAt dk18b05pub_cX11_walk_0_a 27 rfl
theorem dX11_walk_67 : decode cX11_walk 67 = .ok (.iadd, 1) := dkAt dk18b05pub_cX11_walk_0_a 28 rfl
theorem dX11_walk_68 : decode cX11_walk 68 = .ok (.putfield 169, 3) := dkAt dk18b05pub_cX11_walk_0_a 29 rfl
theorem dX11_walk_71 : decode cX11_walk 71 = .ok (.aload_n 0, 1) := dkAt dk18b05pub_cX11_walk_0_a 30 rfl
theorem dX11_walk_72 : decode cX11_walk 72 = .ok (.getfield 14, 3) := dkAt dk18b05pub_cX11_walk_0_a 31 rfl
theorem dX11_walk_75 : decode cX11_walk 75 = .ok (.getfield 169, 3) := dkAt dk18b05pub_cX11_walk_0_a 32 rfl
theorem dX11_walk_78 : decode cX11_walk 78 = .ok (.ireturn, 1) := dkAt dk18b05pub_cX11_walk_0_a 33 rfl
theorem dX11_walk_39 : decode cX11_walk 39 = .ok (.bipush (-4), 2) := dkAt dk18b05pub_cX11_walk_0_a 34 rfl
theorem dX11_walk_41 : decode cX11_walk 41 = .ok (.ireturn, 1) := dkAt dk18b05pub_cX11_walk_0_a 35 rfl
theorem dX11_walk_5 : decode cX11_walk 5 = .ok (.aload_n 0, 1) := dkAt dk18b05pub_cX11_walk_0_a 36 rfl
theorem dX11_walk_6 : decode cX11_walk 6 = .ok (.getfield 14, 3) := dkAt dk18b05pub_cX11_walk_0_a 37 rfl
theorem dX11_walk_9 : decode cX11_walk 9 = .ok (.iconst 0, 1) := dkAt dk18b05pub_cX11_walk_0_a 38 rfl
theorem dX11_walk_10 : decode cX11_walk 10 = .ok (.putfield 169, 3) := dkAt dk18b05pub_cX11_walk_0_a 39 rfl
noncomputable def dk18b05pub_cX11_walk_40 : List (Nat × Instr × Nat) := [(13, .iconst 0, 1), (14, .ireturn, 1)]
set_option maxRecDepth 100000 in
theorem dk18b05pub_cX11_walk_40_a : dkA cX11_walk dk18b05pub_cX11_walk_40 = true := by decide +kernel
theorem dX11_walk_13 : decode cX11_walk 13 = .ok (.iconst 0, 1) := dkAt dk18b05pub_cX11_walk_40_a 0 rfl
theorem dX11_walk_14 : decode cX11_walk 14 = .ok (.ireturn, 1) := dkAt dk18b05pub_cX11_walk_40_a 1 rfl
theorem kc_xWalk_0 : ∀ w ∈ wsX110, w ∈ wsX11_walk := fun w h => List.mem_cons_of_mem _ (gin_wsX110 w h)
theorem kc_xWalk_1 : (.fieldLink RX11 14 "MistHeaps" "scene" "LMistHeaps$Scene;" : Cond) ∈ wsX11_walk := kc_of 328 rfl rfl rfl
theorem kc_xWalk_2 : ∀ w ∈ wsX80, w ∈ wsX11_walk := fun w h => List.mem_cons_of_mem _ (gin_wsX80 w h)
theorem kc_xWalk_3 : (.fieldLink RX11 169 "MistHeaps$Scene" "walkSize" "I" : Cond) ∈ wsX11_walk := kc_of 179 rfl rfl rfl
theorem kc_xWalk_4 : (.fieldLink RX11 172 "MistHeaps$Scene" "walk" "[I" : Cond) ∈ wsX11_walk := kc_of 176 rfl rfl rfl
set_option maxHeartbeats 4000000 in
set_option maxRecDepth 100000 in
theorem c_xWalk (l : Launch) (dC : Nat → ClassId) (dI : Nat → Nat → Nat) (h0 : Nat) (sc : Nat) (kp : Nat) (bl : Nat) (go : Nat) (ch : Nat) (bo : Nat) (aTp : Nat) (aHl : Nat) (aHs : Nat) (aWk : Nat) (aBk : Nat) (aFc : Nat) (ts : Nat) (nh : Nat) (n : Nat) (wz : Nat) (bz : Nat) (mi : Int32) (sn : Int32) (ik : Int32) (x : Int32) (ed : Int64) (cWk : ClassId) (fWk : Nat → Int32) (w0 : Nat) (sz : Nat) (hwz : wz ≤ 6) (zwk : ∀ k0, k0 < 6 → ∃ w0 : Nat, w0 < 8 ∧ fWk k0 = nI w0) : Met l yX11_walk wsX11_walk ({ frames := 0, cells := 0, slots := 0, locals := 0 } : Room) (va_Pc [.ref h0, .int x] (fun U => U.heap.size = sz ∧ va_P (dC, dI) vwCl [(zo13rrirrrr h0 sc kp ik bl go ch bo), (zo10ririliiriririr sc aTp (nI ts) aHl (nI nh) ed mi sn aHs (nI n) aWk (nI wz) aBk (nI bz) aFc), (zaI aWk cWk 6 fWk)] U.heap ∧ va_K (dC, dI) vwCl [(cWk, .int)] U ∧ va_D (fun _ => True) [(zo13rrirrrr h0 sc kp ik bl go ch bo), (zo10ririliiriririr sc aTp (nI ts) aHl (nI nh) ed mi sn aHs (nI n) aWk (nI wz) aBk (nI bz) aFc), (zaI aWk cWk 6 fWk)])) (va_Qi (fun (r : Int32) (u : (Nat) × (Nat → Int32)) => match u with | (wz9, fWk9) => wz9 ≤ 6 ∧ (∀ k0, k0 < 6 → ∃ w0 : Nat, w0 < 8 ∧ fWk9 k0 = nI w0) ∧ r = wkR wz x ∧ wz9 = wkN wz x) (fun (u : (Nat) × (Nat → Int32)) (t : State) => match u with | (wz9, fWk9) => va_P (dC, dI) vwCl [(zo13rrirrrr h0 sc kp ik bl go ch bo), (zo10ririliiriririr sc aTp (nI ts) aHl (nI nh) ed mi sn aHs (nI n) aWk (nI wz9) aBk (nI bz) aFc), (zaI aWk cWk 6 fWk9)] t.heap ∧ va_K (dC, dI) vwCl [(cWk, .int)] t ∧ va_D (va_A [(zo13rrirrrr h0 sc kp ik bl go ch bo), (zo10ririliiriririr sc aTp (nI ts) aHl (nI nh) ed mi sn aHs (nI n) aWk (nI wz) aBk (nI bz) aFc), (zaI aWk cWk 6 fWk)] sz) [(zo13rrirrrr h0 sc kp ik bl go ch bo), (zo10ririliiriririr sc aTp (nI ts) aHl (nI nh) ed mi sn aHs (nI n) aWk (nI wz9) aBk (nI bz) aFc), (zaI aWk cWk 6 fWk9)]) (va_A [(zo13rrirrrr h0 sc kp ik bl go ch bo), (zo10ririliiriririr sc aTp (nI ts) aHl (nI nh) ed mi sn aHs (nI n) aWk (nI wz) aBk (nI bz) aFc), (zaI aWk cWk 6 fWk)] sz)) 0 0 (va_A [(zo13rrirrrr h0 sc kp ik bl go ch bo), (zo10ririliiriririr sc aTp (nI ts) aHl (nI nh) ed mi sn aHs (nI n) aWk (nI wz) aBk (nI bz) aFc), (zaI aWk cWk 6 fWk)] sz) := by
  refine met_ofQ (cc := cX11_walk) (maxL := 2) (ret := (some .int)) (by decide) rfl ?_
  intro p e s m args below meth c s₁ Q B hml hv hQ
  obtain ⟨rfl, hsz, hP, hK, hD0⟩ := hv
  have hx := B.exec
  have hb := B.bytes
  have hr := B.returns
  have hts := atoms_spec (ws := wsX11_walk) B.pre
  have hown : s.vm.findClass RX11 = some m.cls := findClass_of_methodNamed B.named
  have hlocks := B.notSynchronized
  subst hsz
  have hD := hD0.self (sz := s.heap.size)
  generalize hAe : va_A [(zo13rrirrrr h0 sc kp ik bl go ch bo), (zo10ririliiriririr sc aTp (nI ts) aHl (nI nh) ed mi sn aHs (nI n) aWk (nI wz) aBk (nI bz) aFc), (zaI aWk cWk 6 fWk)] s.heap.size = A at hD hQ ⊢
  have hA : ∀ q : Nat, s.heap.size ≤ q → A q := fun q h => by rw [← hAe]; exact Or.inr h
  have hS : va_S A s.heap s.heap [] := va_S.rf
  have hl := lv_entry [.ref h0, .int x] (n := 2) (Nat.le_of_ble_eq_true rfl)
  rw [lg_entry_eq]
  generalize (lg_sl [.ref h0, .int x] ++ List.replicate (2 - (lg_sl [.ref h0, .int x]).length) Slot.unset).toArray = ls at hl ⊢
  generalize hag : ([.ref h0, .int x] : List Value).toArray = args at hts hQ ⊢
  have hl : lv_has ls 2 [(0, .ref h0), (1, .int x)] := hl
  obtain ⟨H, hH⟩ : ∃ H : Heap, H = s.heap := ⟨_, rfl⟩
  rw [← hH] at hP
  rw [← hH]
  have hS : va_S A s.heap H [] := by rw [hH]; exact hS
  obtain ⟨locs, hlo⟩ : ∃ L : List Loc, L = [] := ⟨_, rfl⟩
  rw [← hlo] at hS
  rw [← hlo]
  clear hH hlo
  refine lv_iload_n hx hb dX11_walk_0 rfl (lv_at hl 1 rfl) ?_
  refine lv_iconst (v := (-1)) hx hb dX11_walk_1 (by decide) ?_
  refine lv_icmp_ne (tgt := 15) hx hb dX11_walk_2 (by decide) (fun c_1 => ?_) (fun c_1 => ?_)
  · skip
    have c1_ : ¬ x = -1 := c_1
    refine lv_iload_n hx hb dX11_walk_15 rfl (lv_at hl 1 rfl) ?_
    refine lv_if_lt (tgt := 25) hx hb dX11_walk_16 (by decide) (fun c_2 => ?_) (fun c_2 => ?_)
    · skip
      refine lv_iconst (v := (-1)) hx hb dX11_walk_25 (by decide) ?_
      rw [hQ]
      have hP9 := hP.sub (ws' := [(zo13rrirrrr h0 sc kp ik bl go ch bo), (zo10ririliiriririr sc aTp (nI ts) aHl (nI nh) ed mi sn aHs (nI n) aWk (nI wz) aBk (nI bz) aFc), (zaI aWk cWk 6 fWk)]) [0, 1, 2] rfl
      have hD9 := hD.sub (ws' := [(zo13rrirrrr h0 sc kp ik bl go ch bo), (zo10ririliiriririr sc aTp (nI ts) aHl (nI nh) ed mi sn aHs (nI n) aWk (nI wz) aBk (nI bz) aFc), (zaI aWk cWk 6 fWk)]) [0, 1, 2] (by decide) rfl
      have hK9 := hK.sub (tys' := [(cWk, .int)]) [0] rfl
      exact W.iret (v := (-1)) hx hb hr (fun tQ htQ hWQ => ⟨⟨(-1), (wz, fWk), rfl, ⟨hwz, zwk, (wk_none c1_ (by first | exact Or.inl (by assumption) | exact Or.inr (by assumption))).1, (wk_none c1_ (by first | exact Or.inl (by assumption) | exact Or.inr (by assumption))).2⟩, by rw [htQ]; exact hP9, va_K.moved hWQ.alike hK9, hD9⟩, hS.F htQ⟩) hS.2.2 dX11_walk_26
    · skip
      refine lv_iload_n hx hb dX11_walk_19 rfl (lv_at hl 1 rfl) ?_
      refine lv_bipush (v := 8) hx hb dX11_walk_20 (by decide) ?_
      refine lv_icmp_lt (tgt := 27) hx hb dX11_walk_22 (by decide) (fun c_3 => ?_) (fun c_3 => ?_)
      · skip
        obtain ⟨j8, hj8, rfl⟩ := lt_of (x := x) (n := 8) (by omega) (by assumption) (Int32.not_le.mpr c_3)
        refine lv_aload_n hx hb dX11_walk_27 rfl (lv_at hl 0 rfl) ?_
        refine va_get (D := (dC, dI)) (ci := 13) (v := .ref sc) (C := RX11) (T := TX11) (N := 7) hx hb hts kc_xWalk_0 hown hK hP 0 rfl rfl 0 (by decide) (hts (.fieldLink RX11 14 "MistHeaps" "scene" "LMistHeaps$Scene;") kc_xWalk_1) (fun _ h9 => h9) rfl dX11_walk_28 ?_
        refine va_get (D := (dC, dI)) (ci := 10) (v := .int (nI wz)) (C := RX8) (T := TX8) (N := 14) hx hb hts kc_xWalk_2 hown hK hP 1 rfl rfl 10 (by decide) (hts (.fieldLink RX11 169 "MistHeaps$Scene" "walkSize" "I") kc_xWalk_3) (fun _ h9 => h9) rfl dX11_walk_31 ?_
        refine lv_bipush (v := 6) hx hb dX11_walk_34 (by decide) ?_
        refine lv_icmp_lt (tgt := 42) hx hb dX11_walk_36 (by decide) (fun c_4 => ?_) (fun c_4 => ?_)
        · skip
          have c_4 : wz < 6 := (nI_ltI (a := wz) (b := 6) (by omega) (by omega)).mp c_4
          refine lv_aload_n hx hb dX11_walk_42 rfl (lv_at hl 0 rfl) ?_
          refine va_get (D := (dC, dI)) (ci := 13) (v := .ref sc) (C := RX11) (T := TX11) (N := 7) hx hb hts kc_xWalk_0 hown hK hP 0 rfl rfl 0 (by decide) (hts (.fieldLink RX11 14 "MistHeaps" "scene" "LMistHeaps$Scene;") kc_xWalk_1) (fun _ h9 => h9) rfl dX11_walk_43 ?_
          refine va_get (D := (dC, dI)) (ci := 10) (v := .ref aWk) (C := RX8) (T := TX8) (N := 14) hx hb hts kc_xWalk_2 hown hK hP 1 rfl rfl 9 (by decide) (hts (.fieldLink RX11 172 "MistHeaps$Scene" "walk" "[I") kc_xWalk_4) (fun _ h9 => h9) rfl dX11_walk_46 ?_
          refine lv_aload_n hx hb dX11_walk_49 rfl (lv_at hl 0 rfl) ?_
          refine va_get (D := (dC, dI)) (ci := 13) (v := .ref sc) (C := RX11) (T := TX11) (N := 7) hx hb hts kc_xWalk_0 hown hK hP 0 rfl rfl 0 (by decide) (hts (.fieldLink RX11 14 "MistHeaps" "scene" "LMistHeaps$Scene;") kc_xWalk_1) (fun _ h9 => h9) rfl dX11_walk_50 ?_
          refine va_get (D := (dC, dI)) (ci := 10) (v := .int (nI wz)) (C := RX8) (T := TX8) (N := 14) hx hb hts kc_xWalk_2 hown hK hP 1 rfl rfl 10 (by decide) (hts (.fieldLink RX11 169 "MistHeaps$Scene" "walkSize" "I") kc_xWalk_3) (fun _ h9 => h9) rfl dX11_walk_53 ?_
          refine lv_iload_n hx hb dX11_walk_56 rfl (lv_at hl 1 rfl) ?_
          refine va_iast hx hb hK hP hD hS 2 0 rfl rfl (vp_in_nI (n := wz) (N := 6) (by omega) (by omega)) dX11_walk_57 (fun H locs hP hD hS => ?_)
          rw [nI_clamp (n := wz) (by omega)] at hP hD
          have hP : va_P (dC, dI) vwCl [(zo13rrirrrr h0 sc kp ik bl go ch bo), (zo10ririliiriririr sc aTp (nI ts) aHl (nI nh) ed mi sn aHs (nI n) aWk (nI wz) aBk (nI bz) aFc), (zaI aWk cWk 6 (upd fWk wz (nI j8)))] H := hP
          have hD : va_D A [(zo13rrirrrr h0 sc kp ik bl go ch bo), (zo10ririliiriririr sc aTp (nI ts) aHl (nI nh) ed mi sn aHs (nI n) aWk (nI wz) aBk (nI bz) aFc), (zaI aWk cWk 6 (upd fWk wz (nI j8)))] := hD
          refine lv_aload_n hx hb dX11_walk_58 rfl (lv_at hl 0 rfl) ?_
          refine va_get (D := (dC, dI)) (ci := 13) (v := .ref sc) (C := RX11) (T := TX11) (N := 7) hx hb hts kc_xWalk_0 hown hK hP 0 rfl rfl 0 (by decide) (hts (.fieldLink RX11 14 "MistHeaps" "scene" "LMistHeaps$Scene;") kc_xWalk_1) (fun _ h9 => h9) rfl dX11_walk_59 ?_
          refine lv_dup hx hb dX11_walk_62 rfl ?_
          refine va_get (D := (dC, dI)) (ci := 10) (v := .int (nI wz)) (C := RX8) (T := TX8) (N := 14) hx hb hts kc_xWalk_2 hown hK hP 1 rfl rfl 10 (by decide) (hts (.fieldLink RX11 169 "MistHeaps$Scene" "walkSize" "I") kc_xWalk_3) (fun _ h9 => h9) rfl dX11_walk_63 ?_
          refine lv_iconst (v := 1) hx hb dX11_walk_66 (by decide) ?_
          refine lv_iadd hx hb dX11_walk_67 ?_
          refine qi_as (y := nI (wz + 1)) (nI_add wz 1) ?_
          refine va_put (D := (dC, dI)) (ci := 10) (v := .int (nI (wz + 1))) (ty := .int) (C := RX8) (T := TX8) (N := 14) hx hb hts kc_xWalk_2 tyX8 tyX8_ok nmX8 hown hK hP hD hS 1 rfl rfl 10 (by decide) (hts (.fieldLink RX11 169 "MistHeaps$Scene" "walkSize" "I") kc_xWalk_3) (fun _ h9 => h9) rfl (by decide +kernel) rfl rfl (Nat.le_of_ble_eq_true rfl) dX11_walk_68 (fun H locs hP hD hS => ?_)
          have hP : va_P (dC, dI) vwCl [(zo13rrirrrr h0 sc kp ik bl go ch bo), (zo10ririliiriririr sc aTp (nI ts) aHl (nI nh) ed mi sn aHs (nI n) aWk (nI (wz + 1)) aBk (nI bz) aFc), (zaI aWk cWk 6 (upd fWk wz (nI j8)))] H := hP
          have hD : va_D A [(zo13rrirrrr h0 sc kp ik bl go ch bo), (zo10ririliiriririr sc aTp (nI ts) aHl (nI nh) ed mi sn aHs (nI n) aWk (nI (wz + 1)) aBk (nI bz) aFc), (zaI aWk cWk 6 (upd fWk wz (nI j8)))] := hD
          refine lv_aload_n hx hb dX11_walk_71 rfl (lv_at hl 0 rfl) ?_
          refine va_get (D := (dC, dI)) (ci := 13) (v := .ref sc) (C := RX11) (T := TX11) (N := 7) hx hb hts kc_xWalk_0 hown hK hP 0 rfl rfl 0 (by decide) (hts (.fieldLink RX11 14 "MistHeaps" "scene" "LMistHeaps$Scene;") kc_xWalk_1) (fun _ h9 => h9) rfl dX11_walk_72 ?_
          refine va_get (D := (dC, dI)) (ci := 10) (v := .int (nI (wz + 1))) (C := RX8) (T := TX8) (N := 14) hx hb hts kc_xWalk_2 hown hK hP 1 rfl rfl 10 (by decide) (hts (.fieldLink RX11 169 "MistHeaps$Scene" "walkSize" "I") kc_xWalk_3) (fun _ h9 => h9) rfl dX11_walk_75 ?_
          rw [hQ]
          have hP9 := hP.sub (ws' := [(zo13rrirrrr h0 sc kp ik bl go ch bo), (zo10ririliiriririr sc aTp (nI ts) aHl (nI nh) ed mi sn aHs (nI n) aWk (nI (wz + 1)) aBk (nI bz) aFc), (zaI aWk cWk 6 (upd fWk wz (nI j8)))]) [0, 1, 2] rfl
          have hD9 := hD.sub (ws' := [(zo13rrirrrr h0 sc kp ik bl go ch bo), (zo10ririliiriririr sc aTp (nI ts) aHl (nI nh) ed mi sn aHs (nI n) aWk (nI (wz + 1)) aBk (nI bz) aFc), (zaI aWk cWk 6 (upd fWk wz (nI j8)))]) [0, 1, 2] (by decide) rfl
          have hK9 := hK.sub (tys' := [(cWk, .int)]) [0] rfl
          exact W.iret (v := nI (wz + 1)) hx hb hr (fun tQ htQ hWQ => ⟨⟨(nI (wz + 1)), ((wz + 1), (upd fWk wz (nI j8))), rfl, ⟨by omega, wk_up zwk hj8, (wk_ans hj8 (by omega)).1, (wk_ans hj8 (by omega)).2⟩, by rw [htQ]; exact hP9, va_K.moved hWQ.alike hK9, hD9⟩, hS.F htQ⟩) hS.2.2 dX11_walk_78
        · skip
          have c_4 : ¬ wz < 6 := fun q => c_4 ((nI_ltI (a := wz) (b := 6) (by omega) (by omega)).mpr q)
          refine lv_bipush (v := (-4)) hx hb dX11_walk_39 (by decide) ?_
          rw [hQ]
          have hP9 := hP.sub (ws' := [(zo13rrirrrr h0 sc kp ik bl go ch bo), (zo10ririliiriririr sc aTp (nI ts) aHl (nI nh) ed mi sn aHs (nI n) aWk (nI wz) aBk (nI bz) aFc), (zaI aWk cWk 6 fWk)]) [0, 1, 2] rfl
          have hD9 := hD.sub (ws' := [(zo13rrirrrr h0 sc kp ik bl go ch bo), (zo10ririliiriririr sc aTp (nI ts) aHl (nI nh) ed mi sn aHs (nI n) aWk (nI wz) aBk (nI bz) aFc), (zaI aWk cWk 6 fWk)]) [0, 1, 2] (by decide) rfl
          have hK9 := hK.sub (tys' := [(cWk, .int)]) [0] rfl
          exact W.iret (v := (-4)) hx hb hr (fun tQ htQ hWQ => ⟨⟨(-4), (wz, fWk), rfl, ⟨hwz, zwk, (wk_full hj8 (by omega)).1, (wk_full hj8 (by omega)).2⟩, by rw [htQ]; exact hP9, va_K.moved hWQ.alike hK9, hD9⟩, hS.F htQ⟩) hS.2.2 dX11_walk_41
      · skip
        refine lv_iconst (v := (-1)) hx hb dX11_walk_25 (by decide) ?_
        rw [hQ]
        have hP9 := hP.sub (ws' := [(zo13rrirrrr h0 sc kp ik bl go ch bo), (zo10ririliiriririr sc aTp (nI ts) aHl (nI nh) ed mi sn aHs (nI n) aWk (nI wz) aBk (nI bz) aFc), (zaI aWk cWk 6 fWk)]) [0, 1, 2] rfl
        have hD9 := hD.sub (ws' := [(zo13rrirrrr h0 sc kp ik bl go ch bo), (zo10ririliiriririr sc aTp (nI ts) aHl (nI nh) ed mi sn aHs (nI n) aWk (nI wz) aBk (nI bz) aFc), (zaI aWk cWk 6 fWk)]) [0, 1, 2] (by decide) rfl
        have hK9 := hK.sub (tys' := [(cWk, .int)]) [0] rfl
        exact W.iret (v := (-1)) hx hb hr (fun tQ htQ hWQ => ⟨⟨(-1), (wz, fWk), rfl, ⟨hwz, zwk, (wk_none c1_ (by first | exact Or.inl (by assumption) | exact Or.inr (by assumption))).1, (wk_none c1_ (by first | exact Or.inl (by assumption) | exact Or.inr (by assumption))).2⟩, by rw [htQ]; exact hP9, va_K.moved hWQ.alike hK9, hD9⟩, hS.F htQ⟩) hS.2.2 dX11_walk_26
  · skip
    have c1_ : x = -1 := c_1
    refine lv_aload_n hx hb dX11_walk_5 rfl (lv_at hl 0 rfl) ?_
    refine va_get (D := (dC, dI)) (ci := 13) (v := .ref sc) (C := RX11) (T := TX11) (N := 7) hx hb hts kc_xWalk_0 hown hK hP 0 rfl rfl 0 (by decide) (hts (.fieldLink RX11 14 "MistHeaps" "scene" "LMistHeaps$Scene;") kc_xWalk_1) (fun _ h9 => h9) rfl dX11_walk_6 ?_
    refine lv_iconst (v := 0) hx hb dX11_walk_9 (by decide) ?_
    refine va_put (D := (dC, dI)) (ci := 10) (v := .int 0) (ty := .int) (C := RX8) (T := TX8) (N := 14) hx hb hts kc_xWalk_2 tyX8 tyX8_ok nmX8 hown hK hP hD hS 1 rfl rfl 10 (by decide) (hts (.fieldLink RX11 169 "MistHeaps$Scene" "walkSize" "I") kc_xWalk_3) (fun _ h9 => h9) rfl (by decide +kernel) rfl rfl (Nat.le_of_ble_eq_true rfl) dX11_walk_10 (fun H locs hP hD hS => ?_)
    have hP : va_P (dC, dI) vwCl [(zo13rrirrrr h0 sc kp ik bl go ch bo), (zo10ririliiriririr sc aTp (nI ts) aHl (nI nh) ed mi sn aHs (nI n) aWk 0 aBk (nI bz) aFc), (zaI aWk cWk 6 fWk)] H := hP
    have hD : va_D A [(zo13rrirrrr h0 sc kp ik bl go ch bo), (zo10ririliiriririr sc aTp (nI ts) aHl (nI nh) ed mi sn aHs (nI n) aWk 0 aBk (nI bz) aFc), (zaI aWk cWk 6 fWk)] := hD
    refine lv_iconst (v := 0) hx hb dX11_walk_13 (by decide) ?_
    rw [hQ]
    have hP9 := hP.sub (ws' := [(zo13rrirrrr h0 sc kp ik bl go ch bo), (zo10ririliiriririr sc aTp (nI ts) aHl (nI nh) ed mi sn aHs (nI n) aWk 0 aBk (nI bz) aFc), (zaI aWk cWk 6 fWk)]) [0, 1, 2] rfl
    have hD9 := hD.sub (ws' := [(zo13rrirrrr h0 sc kp ik bl go ch bo), (zo10ririliiriririr sc aTp (nI ts) aHl (nI nh) ed mi sn aHs (nI n) aWk 0 aBk (nI bz) aFc), (zaI aWk cWk 6 fWk)]) [0, 1, 2] (by decide) rfl
    have hK9 := hK.sub (tys' := [(cWk, .int)]) [0] rfl
    exact W.iret (v := 0) hx hb hr (fun tQ htQ hWQ => ⟨⟨0, (0, fWk), rfl, ⟨by omega, zwk, by rw [wkR, if_pos c1_], by rw [wkN, if_pos c1_]⟩, by rw [htQ]; exact hP9, va_K.moved hWQ.alike hK9, hD9⟩, hS.F htQ⟩) hS.2.2 dX11_walk_14
