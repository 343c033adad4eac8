theorem ggX11_set_X11_told : GoodIn wsX11_set wsX11_told := gga_of 541 rfl rfl rfl
theorem gX11_set_X11_told : GoodIn wsX11_set (wsV RX11 81 RX11 yX11_told wsX11_told) := goodIn_app (ggh_of [538, 539, 540, 63] rfl rfl rfl) ggX11_set_X11_told
noncomputable def dk18b04pub_cX11_set_0 : List (Nat × Instr × Nat) := [(0, .iload_n 1, 1), (1, .ifCond .lt 8, 3), (9, .iconst (-1), 1), (10, .ireturn, 1), (4, .iload_n 1, 1), (5, .iconst 1, 1), (6, .if_icmp .le 5, 3), (11, .iload_n 2, 1), (12, .ifCond .lt 9, 3), (21, .bipush (-2), 2), (23, .ireturn, 1), (15, .iload_n 2, 1), (16, .bipush 9, 2), (18, .if_icmp .le 6, 3), (24, .aload_n 0, 1), (25, .iload_n 1, 1), (26, .invokevirtual 81, 3), (29, .istore_n 3, 1), (30, .iload_n 1, 1), (31, .ifCond .ne 14, 3), (34, .aload_n 0, 1), (35, .getfield 14, 3), (38, .iload_n 2, 1), (39, .putfield 85, 3), (42, .goto 11, 3), (53, .iload_n 3, 1), (54, .ireturn, 1), (45, .aload_n 0, 1), (46, .getfield 14, 3), (49, .iload_n 2, 1), (50, .putfield 88, 3)]
set_option maxRecDepth 100000 in
theorem dk18b04pub_cX11_set_0_a : dkA cX11_set dk18b04pub_cX11_set_0 = true := by decide +kernel
theorem dX11_set_0 : decode cX11_set 0 = .ok (.iload_n 1, 1) := dkAt dk18b04pub_cX11_set_0_a 0 rfl
theorem dX11_set_1 : decode cX11_set 1 = .ok (.ifCond .lt 8, 3) := dkAt dk18b04pub_cX11_set_0_a 1 rfl
theorem dX11_set_9 : decode cX11_set 9 = .ok (.iconst (-1), 1) := dkAt dk18b04pub_cX11_set_0_a 2 rfl
theorem dX11_set_10 : decode cX11_set 10 = .ok (.ireturn, 1) := dkAt dk18b04pub_cX11_set_0_a 3 rfl
theorem dX11_set_4 : decode cX11_set 4 = .ok (.iload_n 1, 1) := dkAt dk18b04pub_cX11_set_0_a 4 rfl
theorem dX11_set_5 : decode cX11_set 5 = .ok (.iconst 1, 1) := dkAt dk18b04pub_cX11_set_0_a 5 rfl
theorem dX11_set_6 : decode cX11_set 6 = .ok (.if_icmp .le 5, 3) := dkAt dk18b04pub_cX11_set_0_a 6 rfl
theorem dX11_set_11 : decode cX11_set 11 = .ok (.iload_n 2, 1) := dkAt dk18b04pub_cX11_set_0_a 7 rfl
theorem dX11_set_12 : decode cX11_set 12 = .ok (.ifCond .lt 9, 3) := dkAt dk18b04pub_cX11_set_0_a 8 rfl
theorem dX11_set_21 : decode cX11_set 21 = .ok (.bipush (-2), 2) := dkAt dk18b04pub_cX11_set_0_a 9 rfl
theorem dX11_set_23 : decode cX11_set 23 = .ok (.ireturn, 1) := dkAt dk18b04pub_cX11_set_0_a 10 rfl
theorem dX11_set_15 : decode cX11_set 15 = .ok (.iload_n 2, 1) := dkAt dk18b04pub_cX11_set_0_a 11 rfl
theorem dX11_set_16 : decode cX11_set 16 = .ok (.bipush 9, 2) := dkAt dk18b04pub_cX11_set_0_a 12 rfl
theorem dX11_set_18 : decode cX11_set 18 = .ok (.if_icmp .le 6, 3) := dkAt dk18b04pub_cX11_set_0_a 13 rfl
theorem dX11_set_24 : decode cX11_set 24 = .ok (.aload_n 0, 1) := dkAt dk18b04pub_cX11_set_0_a 14 rfl
theorem dX11_set_25 : decode cX11_set 25 = .ok (.iload_n 1, 1) := dkAt dk18b04pub_cX11_set_0_a 15 rfl
theorem dX11_set_26 : decode cX11_set 26 = .ok (.invokevirtual 81, 3) := dkAt dk18b04pub_cX11_set_0_a 16 rfl
theorem dX11_set_29 : decode cX11_set 29 = .ok (.istore_n 3, 1) := dkAt dk18b04pub_cX11_set_0_a 17 rfl
theorem dX11_set_30 : decode cX11_set 30 = .ok (.iload_n 1, 1) := dkAt dk18b04pub_cX11_set_0_a 18 rfl
theorem dX11_set_31 : decode cX11_set 31 = .ok (.ifCond .ne 14, 3) := dkAt dk18b04pub_cX11_set_0_a 19 rfl
theorem dX11_set_34 : decode cX11_set 34 = .ok (.aload_n 0, 1) := dkAt dk18b04pub_cX11_set_0_a 20 rfl
theorem dX11_set_35 : decode cX11_set 35 = .ok (.getfield 14, 3) := dkAt dk18b04pub_cX11_set_0_a 21 rfl
theorem dX11_set_38 : decode cX11_set 38 = .ok (.iload_n 2, 1) := dkAt dk18b04pub_cX11_set_0_a 22 rfl
theorem dX11_set_39 : decode cX11_set 39 = .ok (.putfield 85, 3) := dkAt dk18b04pub_cX11_set_0_a 23 rfl
theorem dX11_set_42 : decode cX11_set 42 = .ok (.goto 11, 3) := dkAt dk18b04pub_cX11_set_0_a 24 rfl
theorem dX11_set_53 : decode cX11_set 53 = .ok (.iload_n 3, 1) := dkAt dk18b04pub_cX11_set_0_a 25 rfl
theorem dX11_set_54 : decode cX11_set 54 = .ok (.ireturn, 1) := dkAt dk18b04pub_cX11_set_0_a 26 rfl
theorem dX11_set_45 : decode cX11_set 45 = .ok (.aload_n 0, 1) := dkAt dk18b04pub_cX11_set_0_a 27 rfl
theorem dX11_set_46 : decode cX11_set 46 = .ok (.getfield 14, 3) := dkAt dk18b04pub_cX11_set_0_a 28 rfl
theorem dX11_set_49 : decode cX11_set 49 = .ok (.iload_n 2, 1) := dkAt dk18b04pub_cX11_set_0_a 29 rfl
theorem dX11_set_50 : decode cX11_set 50 = .ok (.putfield 88, 3) := dkAt dk18b04pub_cX11_set_0_a 30 rfl
theorem kc_xSet_0 : ∀ w ∈ wsX110, w ∈ wsX11_set := fun w h => List.mem_cons_of_mem _ (gin_wsX110 w h)
theorem kc_xSet_1 : (.fieldLink RX11 14 "MistHeaps" "scene" "LMistHeaps$Scene;" : Cond) ∈ wsX11_set := kc_of 328 rfl rfl rfl
theorem kc_xSet_2 : ∀ w ∈ wsX80, w ∈ wsX11_set := fun w h => List.mem_cons_of_mem _ (gin_wsX80 w h)
theorem kc_xSet_3 : (.fieldLink RX11 85 "MistHeaps$Scene" "mist" "I" : Cond) ∈ wsX11_set := kc_of 164 rfl rfl rfl
theorem kc_xSet_4 : (.fieldLink RX11 88 "MistHeaps$Scene" "snow" "I" : Cond) ∈ wsX11_set := kc_of 166 rfl rfl rfl
set_option maxHeartbeats 4000000 in
set_option maxRecDepth 100000 in
theorem c_xSet (l : Launch) (dC : Nat → ClassId) (dI : Nat → Nat → Nat)  (h0 : Nat) (sc : Nat) (kp : Nat) (bl : Nat) (go : Nat) (ch : Nat) (bo : Nat) (aTp : Nat) (aHl : Nat) (aHs : Nat) (aWk : Nat) (aBk : Nat) (aFc : Nat) (bW : Nat) (bA : Nat) (bE : Nat) (bC : Nat) (ts : Nat) (nh : Nat) (n : Nat) (wz : Nat) (bz : Nat) (cl : Nat) (mi : Int32) (sn : Int32) (sg : Int32) (cdd : Int32) (szz : Int32) (att : Int32) (nmb : Int32) (ik : Int32) (x : Int32) (y : Int32) (cbW : ClassId) (cbA : ClassId) (cbE : ClassId) (cbC : ClassId) (fbW : Nat → Int32) (fbA : Nat → Int32) (fbE : Nat → Int32) (fbC : Nat → Int32) (tpv : Value) (ee : Nat) (hC : List pCla) (sz : Nat) (hee : ee < 2 ^ 36) (hsg : sg = nI (sgC hC)) : Met l yX11_set wsX11_set ({ frames := 2, cells := 0, slots := 0, locals := 42 } : Room) (va_Pc [.ref h0, .int x, .int y] (fun U => U.heap.size = sz ∧ va_P (dC, dI) vwCl [(zo13rrirrrr h0 sc kp ik bl go ch bo), (zo10ririliiriririr sc aTp (nI ts) aHl (nI nh) (lN ee) mi sn aHs (nI n) aWk (nI wz) aBk (nI bz) aFc)] U.heap ∧ va_K (dC, dI) vwCl [] U ∧ va_D (fun _ => True) [(zo13rrirrrr h0 sc kp ik bl go ch bo), (zo10ririliiriririr sc aTp (nI ts) aHl (nI nh) (lN ee) mi sn aHs (nI n) aWk (nI wz) aBk (nI bz) aFc)] ∧ Fz dC dI [(zo7iirrrriviii aHl sg (nI cl) bW bA bE bC cdd tpv szz att nmb), (zaI bW cbW 10 fbW), (zaI bA cbA 10 fbA), (zaI bE cbE 10 fbE), (zaI bC cbC 100 fbC)] [(cbW, .int), (cbA, .int), (cbE, .int), (cbC, .int)] (va_A [(zo13rrirrrr h0 sc kp ik bl go ch bo), (zo10ririliiriririr sc aTp (nI ts) aHl (nI nh) (lN ee) mi sn aHs (nI n) aWk (nI wz) aBk (nI bz) aFc)] sz) U)) (va_Qi (fun (r : Int32) (u : (Int32) × (Int32)) => match u with | (mi9, sn9) => r = stR mi sn x y ∧ mi9 = stM mi x y ∧ sn9 = stN sn x y) (fun (u : (Int32) × (Int32)) (t : State) => match u with | (mi9, sn9) => va_P (dC, dI) vwCl [(zo13rrirrrr h0 sc kp ik bl go ch bo), (zo10ririliiriririr sc aTp (nI ts) aHl (nI nh) (lN ee) mi9 sn9 aHs (nI n) aWk (nI wz) aBk (nI bz) aFc)] t.heap ∧ va_K (dC, dI) vwCl [] t ∧ va_D (va_A [(zo13rrirrrr h0 sc kp ik bl go ch bo), (zo10ririliiriririr sc aTp (nI ts) aHl (nI nh) (lN ee) mi sn aHs (nI n) aWk (nI wz) aBk (nI bz) aFc)] sz) [(zo13rrirrrr h0 sc kp ik bl go ch bo), (zo10ririliiriririr sc aTp (nI ts) aHl (nI nh) (lN ee) mi9 sn9 aHs (nI n) aWk (nI wz) aBk (nI bz) aFc)]) (va_A [(zo13rrirrrr h0 sc kp ik bl go ch bo), (zo10ririliiriririr sc aTp (nI ts) aHl (nI nh) (lN ee) mi sn aHs (nI n) aWk (nI wz) aBk (nI bz) aFc)] sz)) 0 0 (va_A [(zo13rrirrrr h0 sc kp ik bl go ch bo), (zo10ririliiriririr sc aTp (nI ts) aHl (nI nh) (lN ee) mi sn aHs (nI n) aWk (nI wz) aBk (nI bz) aFc)] sz) := by
  refine met_ofQ (cc := cX11_set) (maxL := 4) (ret := (some .int)) (by decide) rfl ?_
  intro p e s m args below meth c s₁ Q B hml hv hQ
  obtain ⟨rfl, hsz, hP, hK, hD0, hZ⟩ := hv
  have hx := B.exec
  have hb := B.bytes
  have hr := B.returns
  have hts := atoms_spec (ws := wsX11_set) B.pre
  have hown : s.vm.findClass RX11 = some m.cls := findClass_of_methodNamed B.named
  have hlocks := B.notSynchronized
  subst hsz
  have hD := hD0.self (sz := s.heap.size)
  generalize hAe : va_A [(zo13rrirrrr h0 sc kp ik bl go ch bo), (zo10ririliiriririr sc aTp (nI ts) aHl (nI nh) (lN ee) mi sn aHs (nI n) aWk (nI wz) aBk (nI bz) aFc)] s.heap.size = A at hD hQ hZ ⊢
  have hA : ∀ q : Nat, s.heap.size ≤ q → A q := fun q h => by rw [← hAe]; exact Or.inr h
  have hS : va_S A s.heap s.heap [] := va_S.rf
  have hl := lv_entry [.ref h0, .int x, .int y] (n := 4) (Nat.le_of_ble_eq_true rfl)
  rw [lg_entry_eq]
  generalize (lg_sl [.ref h0, .int x, .int y] ++ List.replicate (4 - (lg_sl [.ref h0, .int x, .int y]).length) Slot.unset).toArray = ls at hl ⊢
  generalize hag : ([.ref h0, .int x, .int y] : List Value).toArray = args at hts hQ ⊢
  have hl : lv_has ls 4 [(0, .ref h0), (1, .int x), (2, .int y)] := hl
  obtain ⟨H, hH⟩ : ∃ H : Heap, H = s.heap := ⟨_, rfl⟩
  rw [← hH] at hP
  rw [← hH]
  have hS : va_S A s.heap H [] := by rw [hH]; exact hS
  obtain ⟨locs, hlo⟩ : ∃ L : List Loc, L = [] := ⟨_, rfl⟩
  rw [← hlo] at hS
  rw [← hlo]
  clear hH hlo
  refine lv_iload_n hx hb dX11_set_0 rfl (lv_at hl 1 rfl) ?_
  refine lv_if_lt (tgt := 9) hx hb dX11_set_1 (by decide) (fun c_1 => ?_) (fun c_1 => ?_)
  · skip
    refine lv_iconst (v := (-1)) hx hb dX11_set_9 (by decide) ?_
    rw [hQ]
    have hP9 := hP.sub (ws' := [(zo13rrirrrr h0 sc kp ik bl go ch bo), (zo10ririliiriririr sc aTp (nI ts) aHl (nI nh) (lN ee) mi sn aHs (nI n) aWk (nI wz) aBk (nI bz) aFc)]) [0, 1] rfl
    have hD9 := hD.sub (ws' := [(zo13rrirrrr h0 sc kp ik bl go ch bo), (zo10ririliiriririr sc aTp (nI ts) aHl (nI nh) (lN ee) mi sn aHs (nI n) aWk (nI wz) aBk (nI bz) aFc)]) [0, 1] (by decide) rfl
    have hK9 := hK.sub (tys' := []) [] rfl
    exact W.iret (v := (-1)) hx hb hr (fun tQ htQ hWQ => ⟨⟨(-1), (mi, sn), rfl, st_none (by first | exact Or.inl (by assumption) | exact Or.inr (Int32.not_le.mp (by assumption))), by rw [htQ]; exact hP9, va_K.moved hWQ.alike hK9, hD9⟩, hS.F htQ⟩) hS.2.2 dX11_set_10
  · skip
    refine lv_iload_n hx hb dX11_set_4 rfl (lv_at hl 1 rfl) ?_
    refine lv_iconst (v := 1) hx hb dX11_set_5 (by decide) ?_
    refine lv_icmp_le (tgt := 11) hx hb dX11_set_6 (by decide) (fun c_2 => ?_) (fun c_2 => ?_)
    · skip
      refine lv_iload_n hx hb dX11_set_11 rfl (lv_at hl 2 rfl) ?_
      refine lv_if_lt (tgt := 21) hx hb dX11_set_12 (by decide) (fun c_3 => ?_) (fun c_3 => ?_)
      · skip
        refine lv_bipush (v := (-2)) hx hb dX11_set_21 (by decide) ?_
        rw [hQ]
        have hP9 := hP.sub (ws' := [(zo13rrirrrr h0 sc kp ik bl go ch bo), (zo10ririliiriririr sc aTp (nI ts) aHl (nI nh) (lN ee) mi sn aHs (nI n) aWk (nI wz) aBk (nI bz) aFc)]) [0, 1] rfl
        have hD9 := hD.sub (ws' := [(zo13rrirrrr h0 sc kp ik bl go ch bo), (zo10ririliiriririr sc aTp (nI ts) aHl (nI nh) (lN ee) mi sn aHs (nI n) aWk (nI wz) aBk (nI bz) aFc)]) [0, 1] (by decide) rfl
        have hK9 := hK.sub (tys' := []) [] rfl
        exact W.iret (v := (-2)) hx hb hr (fun tQ htQ hWQ => ⟨⟨(-2), (mi, sn), rfl, st_bad (by assumption) (Int32.not_lt.mpr (by assumption)) (by first | exact Or.inl (by assumption) | exact Or.inr (Int32.not_le.mp (by assumption))), by rw [htQ]; exact hP9, va_K.moved hWQ.alike hK9, hD9⟩, hS.F htQ⟩) hS.2.2 dX11_set_23
      · skip
        refine lv_iload_n hx hb dX11_set_15 rfl (lv_at hl 2 rfl) ?_
        refine lv_bipush (v := 9) hx hb dX11_set_16 (by decide) ?_
        refine lv_icmp_le (tgt := 24) hx hb dX11_set_18 (by decide) (fun c_4 => ?_) (fun c_4 => ?_)
        · skip
          rcases two01 (x := x) (by assumption) (Int32.not_lt.mpr (by assumption)) with rfl | rfl
          · skip
            refine lv_aload_n hx hb dX11_set_24 rfl (lv_at hl 0 rfl) ?_
            refine lv_iload_n hx hb dX11_set_25 rfl (lv_at hl 1 rfl) ?_
            have hPc := hP.sub (ws' := [(zo13rrirrrr h0 sc kp ik bl go ch bo), (zo10ririliiriririr sc aTp (nI ts) aHl (nI nh) (lN ee) mi sn aHs (nI n) aWk (nI wz) aBk (nI bz) aFc)]) [0, 1] rfl
            have hKc := hK.sub (tys' := []) [] rfl
            refine vp_callSi (va_runV (As := [.int 0]) (rest := []) ⟨hx, hb, hml, hown, hts⟩ (c_xTold l dC dI  h0 sc kp bl go ch bo aTp aHl aHs aWk aBk aFc bW bA bE bC ts nh n wz bz cl mi sn sg cdd szz att nmb ik 0 cbW cbA cbE cbC fbW fbA fbE fbC tpv ee hC (hee) (hsg)) (cwV 1 hts gX11_set_X11_told rfl rfl rfl hd_yX11_told ⟨Nat.le_of_ble_eq_true rfl, Nat.le_of_ble_eq_true rfl⟩) ⟨fun a U g mk q => by obtain ⟨q0, qP, qK, qhZ⟩ := q; exact ⟨q0, qP, va_K.moved (u := U) (U := U.calling g mk a) (Vm.Alike.refl U.vm) qK, qhZ.same rfl rfl⟩, va_recv hK hP (ci := 13) (q := (RX11, TX11, 7)) (q0 := 0) rfl rfl, fun U hU hW => ⟨rfl, by rw [hU]; exact hPc, va_K.moved hW.alike hKc, (hZ.sub [0, 1, 2, 3, 4] [0, 1, 2, 3] rfl rfl).callF hS hU hW⟩⟩ rfl rfl hl.1 rfl (lv_room (Nat.le_of_ble_eq_true rfl)) dX11_set_26 ⟨Nat.le_of_ble_eq_true rfl, Nat.le_of_ble_eq_true rfl⟩).run (fun r_5 hw_6 => ?_)
            refine qi_as (y := mi) (hw_6.trans (td_0 rfl).symm) ?_
            refine lv_istore_n (lv' := [(3, .int mi), (0, .ref h0), (1, .int 0), (2, .int y)]) hx hb dX11_set_29 rfl hl (by decide) rfl (fun ls hl => ?_)
            refine lv_iload_n hx hb dX11_set_30 rfl (lv_at hl 2 rfl) ?_
            refine lv_if_ne (tgt := 45) hx hb dX11_set_31 (by decide) (fun c_7 => absurd c_7 (by decide)) (fun _ => ?_)
            refine lv_aload_n hx hb dX11_set_34 rfl (lv_at hl 1 rfl) ?_
            refine va_get (D := (dC, dI)) (ci := 13) (v := .ref sc) (C := RX11) (T := TX11) (N := 7) hx hb hts kc_xSet_0 hown hK hP 0 rfl rfl 0 (by decide) (hts (.fieldLink RX11 14 "MistHeaps" "scene" "LMistHeaps$Scene;") kc_xSet_1) (fun _ h9 => h9) rfl dX11_set_35 ?_
            refine lv_iload_n hx hb dX11_set_38 rfl (lv_at hl 3 rfl) ?_
            refine va_put (D := (dC, dI)) (ci := 10) (v := .int y) (ty := .int) (C := RX8) (T := TX8) (N := 14) hx hb hts kc_xSet_2 tyX8 tyX8_ok nmX8 hown hK hP hD hS 1 rfl rfl 5 (by decide) (hts (.fieldLink RX11 85 "MistHeaps$Scene" "mist" "I") kc_xSet_3) (fun _ h9 => h9) rfl (by decide +kernel) rfl rfl (Nat.le_of_ble_eq_true rfl) dX11_set_39 (fun H locs hP hD hS => ?_)
            have hP : va_P (dC, dI) vwCl [(zo13rrirrrr h0 sc kp ik bl go ch bo), (zo10ririliiriririr sc aTp (nI ts) aHl (nI nh) (lN ee) y sn aHs (nI n) aWk (nI wz) aBk (nI bz) aFc)] H := hP
            have hD : va_D A [(zo13rrirrrr h0 sc kp ik bl go ch bo), (zo10ririliiriririr sc aTp (nI ts) aHl (nI nh) (lN ee) y sn aHs (nI n) aWk (nI wz) aBk (nI bz) aFc)] := hD
            refine lv_goto (tgt := 53) hx hb dX11_set_42 (by decide) ?_
            refine lv_iload_n hx hb dX11_set_53 rfl (lv_at hl 0 rfl) ?_
            rw [hQ]
            have hP9 := hP.sub (ws' := [(zo13rrirrrr h0 sc kp ik bl go ch bo), (zo10ririliiriririr sc aTp (nI ts) aHl (nI nh) (lN ee) y sn aHs (nI n) aWk (nI wz) aBk (nI bz) aFc)]) [0, 1] rfl
            have hD9 := hD.sub (ws' := [(zo13rrirrrr h0 sc kp ik bl go ch bo), (zo10ririliiriririr sc aTp (nI ts) aHl (nI nh) (lN ee) y sn aHs (nI n) aWk (nI wz) aBk (nI bz) aFc)]) [0, 1] (by decide) rfl
            have hK9 := hK.sub (tys' := []) [] rfl
            exact W.iret (v := mi) hx hb hr (fun tQ htQ hWQ => ⟨⟨mi, (y, sn), rfl, st_0 (by assumption) (Int32.not_lt.mpr (by assumption)), by rw [htQ]; exact hP9, va_K.moved hWQ.alike hK9, hD9⟩, hS.F htQ⟩) hS.2.2 dX11_set_54
          · skip
            refine lv_aload_n hx hb dX11_set_24 rfl (lv_at hl 0 rfl) ?_
            refine lv_iload_n hx hb dX11_set_25 rfl (lv_at hl 1 rfl) ?_
            have hPc := hP.sub (ws' := [(zo13rrirrrr h0 sc kp ik bl go ch bo), (zo10ririliiriririr sc aTp (nI ts) aHl (nI nh) (lN ee) mi sn aHs (nI n) aWk (nI wz) aBk (nI bz) aFc)]) [0, 1] rfl
            have hKc := hK.sub (tys' := []) [] rfl
            refine vp_callSi (va_runV (As := [.int 1]) (rest := []) ⟨hx, hb, hml, hown, hts⟩ (c_xTold l dC dI  h0 sc kp bl go ch bo aTp aHl aHs aWk aBk aFc bW bA bE bC ts nh n wz bz cl mi sn sg cdd szz att nmb ik 1 cbW cbA cbE cbC fbW fbA fbE fbC tpv ee hC (hee) (hsg)) (cwV 1 hts gX11_set_X11_told rfl rfl rfl hd_yX11_told ⟨Nat.le_of_ble_eq_true rfl, Nat.le_of_ble_eq_true rfl⟩) ⟨fun a U g mk q => by obtain ⟨q0, qP, qK, qhZ⟩ := q; exact ⟨q0, qP, va_K.moved (u := U) (U := U.calling g mk a) (Vm.Alike.refl U.vm) qK, qhZ.same rfl rfl⟩, va_recv hK hP (ci := 13) (q := (RX11, TX11, 7)) (q0 := 0) rfl rfl, fun U hU hW => ⟨rfl, by rw [hU]; exact hPc, va_K.moved hW.alike hKc, (hZ.sub [0, 1, 2, 3, 4] [0, 1, 2, 3] rfl rfl).callF hS hU hW⟩⟩ rfl rfl hl.1 rfl (lv_room (Nat.le_of_ble_eq_true rfl)) dX11_set_26 ⟨Nat.le_of_ble_eq_true rfl, Nat.le_of_ble_eq_true rfl⟩).run (fun r_8 hw_9 => ?_)
            refine qi_as (y := sn) (hw_9.trans (td_1 rfl).symm) ?_
            refine lv_istore_n (lv' := [(3, .int sn), (0, .ref h0), (1, .int 1), (2, .int y)]) hx hb dX11_set_29 rfl hl (by decide) rfl (fun ls hl => ?_)
            refine lv_iload_n hx hb dX11_set_30 rfl (lv_at hl 2 rfl) ?_
            refine lv_if_ne (tgt := 45) hx hb dX11_set_31 (by decide) (fun _ => ?_) (fun c_10 => absurd c_10 (by decide))
            refine lv_aload_n hx hb dX11_set_45 rfl (lv_at hl 1 rfl) ?_
            refine va_get (D := (dC, dI)) (ci := 13) (v := .ref sc) (C := RX11) (T := TX11) (N := 7) hx hb hts kc_xSet_0 hown hK hP 0 rfl rfl 0 (by decide) (hts (.fieldLink RX11 14 "MistHeaps" "scene" "LMistHeaps$Scene;") kc_xSet_1) (fun _ h9 => h9) rfl dX11_set_46 ?_
            refine lv_iload_n hx hb dX11_set_49 rfl (lv_at hl 3 rfl) ?_
            refine va_put (D := (dC, dI)) (ci := 10) (v := .int y) (ty := .int) (C := RX8) (T := TX8) (N := 14) hx hb hts kc_xSet_2 tyX8 tyX8_ok nmX8 hown hK hP hD hS 1 rfl rfl 6 (by decide) (hts (.fieldLink RX11 88 "MistHeaps$Scene" "snow" "I") kc_xSet_4) (fun _ h9 => h9) rfl (by decide +kernel) rfl rfl (Nat.le_of_ble_eq_true rfl) dX11_set_50 (fun H locs hP hD hS => ?_)
            have hP : va_P (dC, dI) vwCl [(zo13rrirrrr h0 sc kp ik bl go ch bo), (zo10ririliiriririr sc aTp (nI ts) aHl (nI nh) (lN ee) mi y aHs (nI n) aWk (nI wz) aBk (nI bz) aFc)] H := hP
            have hD : va_D A [(zo13rrirrrr h0 sc kp ik bl go ch bo), (zo10ririliiriririr sc aTp (nI ts) aHl (nI nh) (lN ee) mi y aHs (nI n) aWk (nI wz) aBk (nI bz) aFc)] := hD
            refine lv_iload_n hx hb dX11_set_53 rfl (lv_at hl 0 rfl) ?_
            rw [hQ]
            have hP9 := hP.sub (ws' := [(zo13rrirrrr h0 sc kp ik bl go ch bo), (zo10ririliiriririr sc aTp (nI ts) aHl (nI nh) (lN ee) mi y aHs (nI n) aWk (nI wz) aBk (nI bz) aFc)]) [0, 1] rfl
            have hD9 := hD.sub (ws' := [(zo13rrirrrr h0 sc kp ik bl go ch bo), (zo10ririliiriririr sc aTp (nI ts) aHl (nI nh) (lN ee) mi y aHs (nI n) aWk (nI wz) aBk (nI bz) aFc)]) [0, 1] (by decide) rfl
            have hK9 := hK.sub (tys' := []) [] rfl
            exact W.iret (v := sn) hx hb hr (fun tQ htQ hWQ => ⟨⟨sn, (mi, y), rfl, st_1 (by assumption) (Int32.not_lt.mpr (by assumption)), by rw [htQ]; exact hP9, va_K.moved hWQ.alike hK9, hD9⟩, hS.F htQ⟩) hS.2.2 dX11_set_54
        · skip
          refine lv_bipush (v := (-2)) hx hb dX11_set_21 (by decide) ?_
          rw [hQ]
          have hP9 := hP.sub (ws' := [(zo13rrirrrr h0 sc kp ik bl go ch bo), (zo10ririliiriririr sc aTp (nI ts) aHl (nI nh) (lN ee) mi sn aHs (nI n) aWk (nI wz) aBk (nI bz) aFc)]) [0, 1] rfl
          have hD9 := hD.sub (ws' := [(zo13rrirrrr h0 sc kp ik bl go ch bo), (zo10ririliiriririr sc aTp (nI ts) aHl (nI nh) (lN ee) mi sn aHs (nI n) aWk (nI wz) aBk (nI bz) aFc)]) [0, 1] (by decide) rfl
          have hK9 := hK.sub (tys' := []) [] rfl
          exact W.iret (v := (-2)) hx hb hr (fun tQ htQ hWQ => ⟨⟨(-2), (mi, sn), rfl, st_bad (by assumption) (Int32.not_lt.mpr (by assumption)) (by first | exact Or.inl (by assumption) | exact Or.inr (Int32.not_le.mp (by assumption))), by rw [htQ]; exact hP9, va_K.moved hWQ.alike hK9, hD9⟩, hS.F htQ⟩) hS.2.2 dX11_set_23
    · skip
      refine lv_iconst (v := (-1)) hx hb dX11_set_9 (by decide) ?_
      rw [hQ]
      have hP9 := hP.sub (ws' := [(zo13rrirrrr h0 sc kp ik bl go ch bo), (zo10ririliiriririr sc aTp (nI ts) aHl (nI nh) (lN ee) mi sn aHs (nI n) aWk (nI wz) aBk (nI bz) aFc)]) [0, 1] rfl
      have hD9 := hD.sub (ws' := [(zo13rrirrrr h0 sc kp ik bl go ch bo), (zo10ririliiriririr sc aTp (nI ts) aHl (nI nh) (lN ee) mi sn aHs (nI n) aWk (nI wz) aBk (nI bz) aFc)]) [0, 1] (by decide) rfl
      have hK9 := hK.sub (tys' := []) [] rfl
      exact W.iret (v := (-1)) hx hb hr (fun tQ htQ hWQ => ⟨⟨(-1), (mi, sn), rfl, st_none (by first | exact Or.inl (by assumption) | exact Or.inr (Int32.not_le.mp (by assumption))), by rw [htQ]; exact hP9, va_K.moved hWQ.alike hK9, hD9⟩, hS.F htQ⟩) hS.2.2 dX11_set_10
