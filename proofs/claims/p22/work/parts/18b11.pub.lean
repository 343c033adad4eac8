theorem ggX11_via_X8_areHeaps : GoodIn wsX11_via wsX8_areHeaps := gga_of 719 rfl rfl rfl
theorem gX11_via_X8_areHeaps : GoodIn wsX11_via (wsV RX11 141 RX8 yX8_areHeaps wsX8_areHeaps) := goodIn_app (ggh_of [716, 717, 718, 64] rfl rfl rfl) ggX11_via_X8_areHeaps
theorem ggX11_via_X2_link : GoodIn wsX11_via wsX2_link := gga_of 724 rfl rfl rfl
theorem gX11_via_X2_link : GoodIn wsX11_via (wsV RX11 145 RX2 yX2_link wsX2_link) := goodIn_app (ggh_of [721, 722, 723, 66] rfl rfl rfl) ggX11_via_X2_link
theorem ggX11_via_X2_first : GoodIn wsX11_via wsX2_first := gga_of 769 rfl rfl rfl
theorem gX11_via_X2_first : GoodIn wsX11_via (wsV RX11 152 RX2 yX2_first wsX2_first) := goodIn_app (ggh_of [766, 767, 768, 66] rfl rfl rfl) ggX11_via_X2_first
noncomputable def dk18b11pub_cX11_via_0 : List (Nat × Instr × Nat) := [(0, .aload_n 0, 1), (1, .getfield 14, 3), (4, .iload_n 1, 1), (5, .iload_n 2, 1), (6, .invokevirtual 141, 3), (9, .ifCond .ne 5, 3), (14, .aload_n 0, 1), (15, .getfield 35, 3), (18, .aload_n 0, 1), (19, .getfield 14, 3), (22, .aload_n 0, 1), (23, .getfield 14, 3), (26, .getfield 88, 3), (29, .invokevirtual 145, 3), (32, .aload_n 0, 1), (33, .getfield 35, 3), (36, .iload_n 1, 1), (37, .iload_n 2, 1), (38, .invokevirtual 152, 3), (41, .ireturn, 1), (12, .iconst (-1), 1), (13, .ireturn, 1)]
set_option maxRecDepth 100000 in
theorem dk18b11pub_cX11_via_0_a : dkA cX11_via dk18b11pub_cX11_via_0 = true := by decide +kernel
theorem dX11_via_0 : decode cX11_via 0 = .ok (.aload_n 0, 1) := dkAt dk18b11pub_cX11_via_0_a 0 rfl
theorem dX11_via_1 : decode cX11_via 1 = .ok (.getfield 14, 3) := dkAt dk18b11pub_cX11_via_0_a 1 rfl
theorem dX11_via_4 : decode cX11_via 4 = .ok (.iload_n 1, 1) := dkAt dk18b11pub_cX11_via_0_a 2 rfl
theorem dX11_via_5 : decode cX11_via 5 = .ok (.iload_n 2, 1) := dkAt dk18b11pub_cX11_via_0_a 3 rfl
theorem dX11_via_6 : decode cX11_via 6 = .ok (.invokevirtual 141, 3) := dkAt dk18b11pub_cX11_via_0_a 4 rfl
theorem dX11_via_9 : decode cX11_via 9 = .ok (.ifCond .ne 5, 3) := dkAt dk18b11pub_cX11_via_0_a 5 rfl
theorem dX11_via_14 : decode cX11_via 14 = .ok (.aload_n 0, 1) := dkAt dk18b11pub_cX11_via_0_a 6 rfl
theorem dX11_via_15 : decode cX11_via 15 = .ok (.getfield 35, 3) := dkAt dk18b11pub_cX11_via_0_a 7 rfl
theorem dX11_via_18 : decode cX11_via 18 = .ok (.aload_n 0, 1) := dkAt dk18b11pub_cX11_via_0_a 8 rfl
theorem dX11_via_19 : decode cX11_via 19 = .ok (.getfield 14, 3) := dkAt dk18b11pub_cX11_via_0_a 9 rfl
theorem dX11_via_22 : decode cX11_via 22 = .ok (.aload_n 0, 1) := dkAt dk18b11pub_cX11_via_0_a 10 rfl
theorem dX11_via_23 : decode cX11_via 23 = .ok (.getfield 14, 3) := dkAt dk18b11pub_cX11_via_0_a 11 rfl
theorem dX11_via_26 : decode cX11_via 26 = .ok (.getfield 88, 3) := dkAt dk18b11pub_cX11_via_0_a 12 rfl
theorem dX11_via_29 : decode cX11_via 29 = .ok (.invokevirtual 145, 3) := dkAt dk18b11pub_cX11_via_0_a 13 rfl
theorem dX11_via_32 : decode cX11_via 32 = .ok (.aload_n 0, 1) := dkAt dk18b11pub_cX11_via_0_a 14 rfl
theorem dX11_via_33 : decode cX11_via 33 = .ok (.getfield 35, 3) := dkAt dk18b11pub_cX11_via_0_a 15 rfl
theorem dX11_via_36 : decode cX11_via 36 = .ok (.iload_n 1, 1) := dkAt dk18b11pub_cX11_via_0_a 16 rfl
theorem dX11_via_37 : decode cX11_via 37 = .ok (.iload_n 2, 1) := dkAt dk18b11pub_cX11_via_0_a 17 rfl
theorem dX11_via_38 : decode cX11_via 38 = .ok (.invokevirtual 152, 3) := dkAt dk18b11pub_cX11_via_0_a 18 rfl
theorem dX11_via_41 : decode cX11_via 41 = .ok (.ireturn, 1) := dkAt dk18b11pub_cX11_via_0_a 19 rfl
theorem dX11_via_12 : decode cX11_via 12 = .ok (.iconst (-1), 1) := dkAt dk18b11pub_cX11_via_0_a 20 rfl
theorem dX11_via_13 : decode cX11_via 13 = .ok (.ireturn, 1) := dkAt dk18b11pub_cX11_via_0_a 21 rfl
theorem kc_xVia_0 : ∀ w ∈ wsX110, w ∈ wsX11_via := fun w h => List.mem_cons_of_mem _ (gin_wsX110 w h)
theorem kc_xVia_1 : (.fieldLink RX11 14 "MistHeaps" "scene" "LMistHeaps$Scene;" : Cond) ∈ wsX11_via := kc_of 328 rfl rfl rfl
theorem kc_xVia_2 : (.fieldLink RX11 35 "MistHeaps" "goings" "LMistHeaps$Goings;" : Cond) ∈ wsX11_via := kc_of 332 rfl rfl rfl
theorem kc_xVia_3 : ∀ w ∈ wsX80, w ∈ wsX11_via := fun w h => List.mem_cons_of_mem _ (gin_wsX80 w h)
theorem kc_xVia_4 : (.fieldLink RX11 88 "MistHeaps$Scene" "snow" "I" : Cond) ∈ wsX11_via := kc_of 166 rfl rfl rfl
set_option maxHeartbeats 4000000 in
set_option maxRecDepth 100000 in
theorem c_xVia (l : Launch) (dC : Nat → ClassId) (dI : Nat → Nat → Nat) (gd : Nat → Nat)  (kA : Nat)   (h0 : Nat) (sc : Nat) (kp : Nat) (bl : Nat) (go : Nat) (ch : Nat) (bo : Nat) (aTp : Nat) (aHl : Nat) (aHs : Nat) (aWk : Nat) (aBk : Nat) (aFc : Nat) (bW : Nat) (bA : Nat) (bE : Nat) (bC : Nat) (gR : Nat) (gO : Nat) (gS : Nat) (ts : Nat) (nh : Nat) (n : Nat) (wz : Nat) (bz : Nat) (lk : Nat) (cl : Nat) (mi : Int32) (sn : Int32) (sg : Int32) (cdd : Int32) (szz : Int32) (att : Int32) (nmb : Int32) (ik : Int32) (x : Int32) (y : Int32) (ed : Int64) (cHs : ClassId) (cFc : ClassId) (cbW : ClassId) (cbA : ClassId) (cbE : ClassId) (cbC : ClassId) (cR : ClassId) (cO : ClassId) (fFc : Nat → Int32) (fbW : Nat → Int32) (fbA : Nat → Int32) (fbE : Nat → Int32) (fbC : Nat → Int32) (fR : Nat → Int32) (fO : Nat → Int32) (yk : Nat → Int32) (yv : Nat → Int32) (yc : Nat → Int32) (fHs : Nat → Option Nat) (yi : Nat → Nat) (ya : Nat → Nat) (tpv : Value) (cz : List pCla) (sz : Nat) (zhs : ∀ k0, k0 < n → fHs k0 = some (ya k0)) (hn8 : n ≤ 8) (zcl : cl ≤ 10) (zE : ∀ k0, k0 < 10 → ∃ e0 : Nat, e0 ≤ 100 ∧ fbE k0 = nI e0) (zC : ∀ k0, k0 < 100 → okC (fbC k0)) (zyv : ∀ k0, k0 < n → ∃ v0 : Nat, v0 ≤ 9 ∧ yv k0 = nI v0) (zyc : ∀ k0, k0 < n → ∃ v0 : Nat, v0 < 36 ∧ yc k0 = nI v0) (hlk : lk ≤ 8) (zHC : HC cl sg fbW fbA fbE fbC cz ∧ WfC cz) (zyt : ∀ k0, k0 < n → hpT (yi k0) (yk k0)) : Met l yX11_via wsX11_via ({ frames := 7, cells := 0, slots := 0, locals := 149 } : Room) (va_Pc [.ref h0, .int x, .int y] (fun U => U.heap.size = sz ∧ va_P (dC, dI) vwCl [(zo13rrirrrr h0 sc kp ik bl go ch bo), (zo4rrir go gR gO (nI lk) gS), (zaI gR cR 8 fR), (zaI gO cO 8 fO), (zo10ririliiriririr sc aTp (nI ts) aHl (nI nh) ed mi sn aHs (nI n) aWk (nI wz) aBk (nI bz) aFc), (zaR aHs cHs 8 fHs), (zaI aFc cFc 6 fFc)] U.heap ∧ va_K (dC, dI) vwCl [(cR, .int), (cO, .int), (cHs, .object "MistHeaps$Heap"), (cFc, .int)] U ∧ va_D (fun _ => True) [(zo13rrirrrr h0 sc kp ik bl go ch bo), (zo4rrir go gR gO (nI lk) gS), (zaI gR cR 8 fR), (zaI gO cO 8 fO), (zo10ririliiriririr sc aTp (nI ts) aHl (nI nh) ed mi sn aHs (nI n) aWk (nI wz) aBk (nI bz) aFc), (zaR aHs cHs 8 fHs), (zaI aFc cFc 6 fFc)] ∧ Gl gd (va_A [(zo13rrirrrr h0 sc kp ik bl go ch bo), (zo4rrir go gR gO (nI lk) gS), (zaI gR cR 8 fR), (zaI gO cO 8 fO), (zo10ririliiriririr sc aTp (nI ts) aHl (nI nh) ed mi sn aHs (nI n) aWk (nI wz) aBk (nI bz) aFc), (zaR aHs cHs 8 fHs), (zaI aFc cFc 6 fFc)] sz) U ∧ Gw (va_A [(zo13rrirrrr h0 sc kp ik bl go ch bo), (zo4rrir go gR gO (nI lk) gS), (zaI gR cR 8 fR), (zaI gO cO 8 fO), (zo10ririliiriririr sc aTp (nI ts) aHl (nI nh) ed mi sn aHs (nI n) aWk (nI wz) aBk (nI bz) aFc), (zaR aHs cHs 8 fHs), (zaI aFc cFc 6 fFc)] sz) U ∧ Gn kA (va_A [(zo13rrirrrr h0 sc kp ik bl go ch bo), (zo4rrir go gR gO (nI lk) gS), (zaI gR cR 8 fR), (zaI gO cO 8 fO), (zo10ririliiriririr sc aTp (nI ts) aHl (nI nh) ed mi sn aHs (nI n) aWk (nI wz) aBk (nI bz) aFc), (zaR aHs cHs 8 fHs), (zaI aFc cFc 6 fFc)] sz) U ∧ Fz dC dI [(zo7iirrrriviii aHl sg (nI cl) bW bA bE bC cdd tpv szz att nmb), (zaI bW cbW 10 fbW), (zaI bA cbA 10 fbA), (zaI bE cbE 10 fbE), (zaI bC cbC 100 fbC)] [(cbW, .int), (cbA, .int), (cbE, .int), (cbC, .int)] (va_A [(zo13rrirrrr h0 sc kp ik bl go ch bo), (zo4rrir go gR gO (nI lk) gS), (zaI gR cR 8 fR), (zaI gO cO 8 fO), (zo10ririliiriririr sc aTp (nI ts) aHl (nI nh) ed mi sn aHs (nI n) aWk (nI wz) aBk (nI bz) aFc), (zaR aHs cHs 8 fHs), (zaI aFc cFc 6 fFc)] sz) U ∧ Hs dC dI n yi ya yk yv yc (va_A [(zo13rrirrrr h0 sc kp ik bl go ch bo), (zo4rrir go gR gO (nI lk) gS), (zaI gR cR 8 fR), (zaI gO cO 8 fO), (zo10ririliiriririr sc aTp (nI ts) aHl (nI nh) ed mi sn aHs (nI n) aWk (nI wz) aBk (nI bz) aFc), (zaR aHs cHs 8 fHs), (zaI aFc cFc 6 fFc)] sz) U)) (va_Qi (fun (r : Int32) (u : (Nat) × (Nat → Int32) × (Nat → Int32) × (Nat → Int32)) => match u with | (lk9, fR9, fO9, fFc9) => lk9 ≤ 8 ∧ r = viR_ n yk yv yc cz mi sn x y) (fun (u : (Nat) × (Nat → Int32) × (Nat → Int32) × (Nat → Int32)) (t : State) => match u with | (lk9, fR9, fO9, fFc9) => va_P (dC, dI) vwCl [(zo13rrirrrr h0 sc kp ik bl go ch bo), (zo4rrir go gR gO (nI lk9) gS), (zaI gR cR 8 fR9), (zaI gO cO 8 fO9), (zo10ririliiriririr sc aTp (nI ts) aHl (nI nh) ed mi sn aHs (nI n) aWk (nI wz) aBk (nI bz) aFc), (zaR aHs cHs 8 fHs), (zaI aFc cFc 6 fFc9)] t.heap ∧ va_K (dC, dI) vwCl [(cR, .int), (cO, .int), (cHs, .object "MistHeaps$Heap"), (cFc, .int)] t ∧ va_D (va_A [(zo13rrirrrr h0 sc kp ik bl go ch bo), (zo4rrir go gR gO (nI lk) gS), (zaI gR cR 8 fR), (zaI gO cO 8 fO), (zo10ririliiriririr sc aTp (nI ts) aHl (nI nh) ed mi sn aHs (nI n) aWk (nI wz) aBk (nI bz) aFc), (zaR aHs cHs 8 fHs), (zaI aFc cFc 6 fFc)] sz) [(zo13rrirrrr h0 sc kp ik bl go ch bo), (zo4rrir go gR gO (nI lk9) gS), (zaI gR cR 8 fR9), (zaI gO cO 8 fO9), (zo10ririliiriririr sc aTp (nI ts) aHl (nI nh) ed mi sn aHs (nI n) aWk (nI wz) aBk (nI bz) aFc), (zaR aHs cHs 8 fHs), (zaI aFc cFc 6 fFc9)]) (va_A [(zo13rrirrrr h0 sc kp ik bl go ch bo), (zo4rrir go gR gO (nI lk) gS), (zaI gR cR 8 fR), (zaI gO cO 8 fO), (zo10ririliiriririr sc aTp (nI ts) aHl (nI nh) ed mi sn aHs (nI n) aWk (nI wz) aBk (nI bz) aFc), (zaR aHs cHs 8 fHs), (zaI aFc cFc 6 fFc)] sz)) 0 0 (va_A [(zo13rrirrrr h0 sc kp ik bl go ch bo), (zo4rrir go gR gO (nI lk) gS), (zaI gR cR 8 fR), (zaI gO cO 8 fO), (zo10ririliiriririr sc aTp (nI ts) aHl (nI nh) ed mi sn aHs (nI n) aWk (nI wz) aBk (nI bz) aFc), (zaR aHs cHs 8 fHs), (zaI aFc cFc 6 fFc)] sz) := by
  refine met_ofQ (cc := cX11_via) (maxL := 3) (ret := (some .int)) (by decide) rfl ?_
  intro p e s m args below meth c s₁ Q B hml hv hQ
  obtain ⟨rfl, hsz, hP, hK, hD0, hG, hW_, hN_, hZ, hH_⟩ := hv
  have hx := B.exec
  have hb := B.bytes
  have hr := B.returns
  have hts := atoms_spec (ws := wsX11_via) B.pre
  have hown : s.vm.findClass RX11 = some m.cls := findClass_of_methodNamed B.named
  have hlocks := B.notSynchronized
  subst hsz
  have hD := hD0.self (sz := s.heap.size)
  generalize hAe : va_A [(zo13rrirrrr h0 sc kp ik bl go ch bo), (zo4rrir go gR gO (nI lk) gS), (zaI gR cR 8 fR), (zaI gO cO 8 fO), (zo10ririliiriririr sc aTp (nI ts) aHl (nI nh) ed mi sn aHs (nI n) aWk (nI wz) aBk (nI bz) aFc), (zaR aHs cHs 8 fHs), (zaI aFc cFc 6 fFc)] s.heap.size = A at hD hQ hG hW_ hN_ hZ hH_ ⊢
  have hA : ∀ q : Nat, s.heap.size ≤ q → A q := fun q h => by rw [← hAe]; exact Or.inr h
  have hS : va_S A s.heap s.heap [] := va_S.rf
  have hl := lv_entry [.ref h0, .int x, .int y] (n := 3) (Nat.le_of_ble_eq_true rfl)
  rw [lg_entry_eq]
  generalize (lg_sl [.ref h0, .int x, .int y] ++ List.replicate (3 - (lg_sl [.ref h0, .int x, .int y]).length) Slot.unset).toArray = ls at hl ⊢
  generalize hag : ([.ref h0, .int x, .int y] : List Value).toArray = args at hts hQ ⊢
  have hl : lv_has ls 3 [(0, .ref h0), (1, .int x), (2, .int y)] := hl
  obtain ⟨H, hH⟩ : ∃ H : Heap, H = s.heap := ⟨_, rfl⟩
  rw [← hH] at hP
  rw [← hH]
  have hS : va_S A s.heap H [] := by rw [hH]; exact hS
  obtain ⟨locs, hlo⟩ : ∃ L : List Loc, L = [] := ⟨_, rfl⟩
  rw [← hlo] at hS
  rw [← hlo]
  clear hH hlo
  refine lv_aload_n hx hb dX11_via_0 rfl (lv_at hl 0 rfl) ?_
  refine va_get (D := (dC, dI)) (ci := 13) (v := .ref sc) (C := RX11) (T := TX11) (N := 7) hx hb hts kc_xVia_0 hown hK hP 0 rfl rfl 0 (by decide) (hts (.fieldLink RX11 14 "MistHeaps" "scene" "LMistHeaps$Scene;") kc_xVia_1) (fun _ h9 => h9) rfl dX11_via_1 ?_
  refine lv_iload_n hx hb dX11_via_4 rfl (lv_at hl 1 rfl) ?_
  refine lv_iload_n hx hb dX11_via_5 rfl (lv_at hl 2 rfl) ?_
  have hPc := hP.sub (ws' := [(zo10ririliiriririr sc aTp (nI ts) aHl (nI nh) ed mi sn aHs (nI n) aWk (nI wz) aBk (nI bz) aFc), (zaR aHs cHs 8 fHs)]) [4, 5] rfl
  have hKc := hK.sub (tys' := [(cHs, .object "MistHeaps$Heap")]) [2] rfl
  refine vp_callSi (va_runV (As := [.int x, .int y]) (rest := []) ⟨hx, hb, hml, hown, hts⟩ (c_areHeaps l dC dI sc aTp aHl aHs aWk aBk aFc ts nh n wz bz mi sn x y ed cHs fHs ya (zhs) (hn8)) (cwV 2 hts gX11_via_X8_areHeaps rfl rfl rfl hd_yX8_areHeaps ⟨Nat.le_of_ble_eq_true rfl, Nat.le_of_ble_eq_true rfl⟩) ⟨fun a U g mk q => by obtain ⟨q0, qP, qK⟩ := q; exact ⟨q0, qP, va_K.moved (u := U) (U := U.calling g mk a) (Vm.Alike.refl U.vm) qK⟩, va_recv hK hP (ci := 10) (q := (RX8, TX8, 14)) (q0 := 4) rfl rfl, fun U hU hW => ⟨rfl, by rw [hU]; exact hPc, va_K.moved hW.alike hKc⟩⟩ rfl rfl hl.1 rfl (lv_room (Nat.le_of_ble_eq_true rfl)) dX11_via_6 ⟨Nat.le_of_ble_eq_true rfl, Nat.le_of_ble_eq_true rfl⟩).run (fun r_1 hw_2 => ?_)
  rcases hw_2 with ⟨rfl, j1, j2, hj1, hj2, rfl, rfl⟩ | ⟨rfl, hno⟩
  · skip
    refine lv_if_ne (tgt := 14) hx hb dX11_via_9 (by decide) (fun _ => ?_) (fun c_3 => absurd c_3 (by decide))
    refine lv_aload_n hx hb dX11_via_14 rfl (lv_at hl 0 rfl) ?_
    refine va_get (D := (dC, dI)) (ci := 13) (v := .ref go) (C := RX11) (T := TX11) (N := 7) hx hb hts kc_xVia_0 hown hK hP 0 rfl rfl 4 (by decide) (hts (.fieldLink RX11 35 "MistHeaps" "goings" "LMistHeaps$Goings;") kc_xVia_2) (fun _ h9 => h9) rfl dX11_via_15 ?_
    refine lv_aload_n hx hb dX11_via_18 rfl (lv_at hl 0 rfl) ?_
    refine va_get (D := (dC, dI)) (ci := 13) (v := .ref sc) (C := RX11) (T := TX11) (N := 7) hx hb hts kc_xVia_0 hown hK hP 0 rfl rfl 0 (by decide) (hts (.fieldLink RX11 14 "MistHeaps" "scene" "LMistHeaps$Scene;") kc_xVia_1) (fun _ h9 => h9) rfl dX11_via_19 ?_
    refine lv_aload_n hx hb dX11_via_22 rfl (lv_at hl 0 rfl) ?_
    refine va_get (D := (dC, dI)) (ci := 13) (v := .ref sc) (C := RX11) (T := TX11) (N := 7) hx hb hts kc_xVia_0 hown hK hP 0 rfl rfl 0 (by decide) (hts (.fieldLink RX11 14 "MistHeaps" "scene" "LMistHeaps$Scene;") kc_xVia_1) (fun _ h9 => h9) rfl dX11_via_23 ?_
    refine va_get (D := (dC, dI)) (ci := 10) (v := .int sn) (C := RX8) (T := TX8) (N := 14) hx hb hts kc_xVia_3 hown hK hP 4 rfl rfl 6 (by decide) (hts (.fieldLink RX11 88 "MistHeaps$Scene" "snow" "I") kc_xVia_4) (fun _ h9 => h9) rfl dX11_via_26 ?_
    have hPc := hP.sub (ws' := [(zo4rrir go gR gO (nI lk) gS), (zaI gR cR 8 fR), (zaI gO cO 8 fO), (zo10ririliiriririr sc aTp (nI ts) aHl (nI nh) ed mi sn aHs (nI n) aWk (nI wz) aBk (nI bz) aFc), (zaR aHs cHs 8 fHs), (zaI aFc cFc 6 fFc)]) [1, 2, 3, 4, 5, 6] rfl
    have hDc := hD.sub (ws' := [(zo4rrir go gR gO (nI lk) gS), (zaI gR cR 8 fR), (zaI gO cO 8 fO), (zo10ririliiriririr sc aTp (nI ts) aHl (nI nh) ed mi sn aHs (nI n) aWk (nI wz) aBk (nI bz) aFc), (zaR aHs cHs 8 fHs), (zaI aFc cFc 6 fFc)]) [1, 2, 3, 4, 5, 6] (by decide) rfl
    have hKc := hK.sub (tys' := [(cR, .int), (cO, .int), (cHs, .object "MistHeaps$Heap"), (cFc, .int)]) [0, 1, 2, 3] rfl
    have hFc := va_free (wc := [(zo4rrir go gR gO (nI lk) gS), (zaI gR cR 8 fR), (zaI gO cO 8 fO), (zo10ririliiriririr sc aTp (nI ts) aHl (nI nh) ed mi sn aHs (nI n) aWk (nI wz) aBk (nI bz) aFc), (zaR aHs cHs 8 fHs), (zaI aFc cFc 6 fFc)]) hD hS hA [1, 2, 3, 4, 5, 6] rfl
    refine va_callv (va_runV (As := [.ref sc, .int sn]) (rest := []) ⟨hx, hb, hml, hown, hts⟩ (c_link l dC dI gd  kA   sc go aTp aHl aHs aWk aBk aFc bW bA bE bC gR gO gS ts nh n wz bz lk cl mi sn sg cdd szz att nmb sn ed cHs cFc cbW cbA cbE cbC cR cO fFc fbW fbA fbE fbC fR fO yk yv yc fHs yi ya tpv cz H.size (zhs) (hn8) (zcl) (zE) (zC) (zyv) (zyc) (zHC) (zyt)) (cwV 2 hts gX11_via_X2_link rfl rfl rfl hd_yX2_link ⟨Nat.le_of_ble_eq_true rfl, Nat.le_of_ble_eq_true rfl⟩) ⟨fun a U g mk q => by obtain ⟨q0, q1, qP, qK, qD, qhG, qhW_, qhN_, qhZ, qhH_⟩ := q; exact ⟨q0, q1, qP, va_K.moved (u := U) (U := U.calling g mk a) (Vm.Alike.refl U.vm) qK, qD, qhG.same rfl rfl, qhW_.same rfl rfl, qhN_.same rfl rfl, qhZ.same rfl rfl, qhH_.same rfl rfl⟩, va_recv hK hP (ci := 4) (q := (RX2, TX2, 4)) (q0 := 1) rfl rfl, fun U hU hW => ⟨rfl, by rw [hU], by rw [hU]; exact hPc, va_K.moved hW.alike hKc, hDc.weaken (fun _ _ _ _ => trivial), hG.call hS hU hW (fun q h => hFc q h), hW_.call hS hU hW (fun q h => hFc q h), hN_.call hS hU hW (fun q h => hFc q h), (hZ.sub [0, 1, 2, 3, 4] [0, 1, 2, 3] rfl rfl).call hS hU hW (fun q h => hFc q h), hH_.call hS hU hW (fun q h => hFc q h)⟩⟩ rfl rfl hl.1 rfl (lv_room (Nat.le_of_ble_eq_true rfl)) dX11_via_29 ⟨Nat.le_of_ble_eq_true rfl, Nat.le_of_ble_eq_true rfl⟩) hS (fun q _ h => hFc q h) hFc (fun u tC H1 locs htC hvm hw_5 hB hz1 hk1 hS => ?_)
    obtain ⟨lk9_6, fR9_7, fO9_8, fFc9_9⟩ := u
    try dsimp only at hw_5 hB
    obtain ⟨hP1, hK1, hD1⟩ := hB
    rw [htC] at hP1
    have hK1 := va_K.moved hvm.symm hK1
    obtain ⟨hP, hD⟩ := va_join (wr := [(zo13rrirrrr h0 sc kp ik bl go ch bo)]) (w1 := [(zo4rrir go gR gO (nI lk9_6) gS), (zaI gR cR 8 fR9_7), (zaI gO cO 8 fO9_8), (zo10ririliiriririr sc aTp (nI ts) aHl (nI nh) ed mi sn aHs (nI n) aWk (nI wz) aBk (nI bz) aFc), (zaR aHs cHs 8 fHs), (zaI aFc cFc 6 fFc9_9)]) hP hD [1, 2, 3, 4, 5, 6] [0] rfl rfl (by decide) (by decide) hk1 hFc hP1 hD1
    have hK := (hK.sub (tys' := []) [] rfl).app hK1
    generalize H1 = H at hP hS ⊢
    have hP : va_P (dC, dI) vwCl [(zo13rrirrrr h0 sc kp ik bl go ch bo), (zo4rrir go gR gO (nI lk9_6) gS), (zaI gR cR 8 fR9_7), (zaI gO cO 8 fO9_8), (zo10ririliiriririr sc aTp (nI ts) aHl (nI nh) ed mi sn aHs (nI n) aWk (nI wz) aBk (nI bz) aFc), (zaR aHs cHs 8 fHs), (zaI aFc cFc 6 fFc9_9)] H := hP
    have hD : va_D A [(zo13rrirrrr h0 sc kp ik bl go ch bo), (zo4rrir go gR gO (nI lk9_6) gS), (zaI gR cR 8 fR9_7), (zaI gO cO 8 fO9_8), (zo10ririliiriririr sc aTp (nI ts) aHl (nI nh) ed mi sn aHs (nI n) aWk (nI wz) aBk (nI bz) aFc), (zaR aHs cHs 8 fHs), (zaI aFc cFc 6 fFc9_9)] := hD
    have hK : va_K (dC, dI) vwCl [(cR, .int), (cO, .int), (cHs, .object "MistHeaps$Heap"), (cFc, .int)] s := hK
    obtain ⟨elk, hlR, hlO⟩ := hw_5
    obtain rfl := elk.symm
    refine lv_aload_n hx hb dX11_via_32 rfl (lv_at hl 0 rfl) ?_
    refine va_get (D := (dC, dI)) (ci := 13) (v := .ref go) (C := RX11) (T := TX11) (N := 7) hx hb hts kc_xVia_0 hown hK hP 0 rfl rfl 4 (by decide) (hts (.fieldLink RX11 35 "MistHeaps" "goings" "LMistHeaps$Goings;") kc_xVia_2) (fun _ h9 => h9) rfl dX11_via_33 ?_
    refine lv_iload_n hx hb dX11_via_36 rfl (lv_at hl 1 rfl) ?_
    refine lv_iload_n hx hb dX11_via_37 rfl (lv_at hl 2 rfl) ?_
    have hPc := hP.sub (ws' := [(zo4rrir go gR gO (nI n) gS), (zaI gO cO 8 fO9_8)]) [1, 3] rfl
    have hKc := hK.sub (tys' := [(cO, .int)]) [1] rfl
    refine vp_callSi (va_runV (As := [.int (nI j1), .int (nI j2)]) (rest := []) ⟨hx, hb, hml, hown, hts⟩ (c_first l dC dI go gR gO gS n j1 j2 cO fO9_8 (by omega) (by omega)) (cwV 2 hts gX11_via_X2_first rfl rfl rfl hd_yX2_first ⟨Nat.le_of_ble_eq_true rfl, Nat.le_of_ble_eq_true rfl⟩) ⟨fun a U g mk q => by obtain ⟨q0, qP, qK⟩ := q; exact ⟨q0, qP, va_K.moved (u := U) (U := U.calling g mk a) (Vm.Alike.refl U.vm) qK⟩, va_recv hK hP (ci := 4) (q := (RX2, TX2, 4)) (q0 := 1) rfl rfl, fun U hU hW => ⟨rfl, by rw [hU]; exact hPc, va_K.moved hW.alike hKc⟩⟩ rfl rfl hl.1 rfl (lv_room (Nat.le_of_ble_eq_true rfl)) dX11_via_38 ⟨Nat.le_of_ble_eq_true rfl, Nat.le_of_ble_eq_true rfl⟩).run (fun r_10 hw_11 => ?_)
    obtain rfl := hw_11
    rw [hQ]
    have hP9 := hP.sub (ws' := [(zo13rrirrrr h0 sc kp ik bl go ch bo), (zo4rrir go gR gO (nI n) gS), (zaI gR cR 8 fR9_7), (zaI gO cO 8 fO9_8), (zo10ririliiriririr sc aTp (nI ts) aHl (nI nh) ed mi sn aHs (nI n) aWk (nI wz) aBk (nI bz) aFc), (zaR aHs cHs 8 fHs), (zaI aFc cFc 6 fFc9_9)]) [0, 1, 2, 3, 4, 5, 6] rfl
    have hD9 := hD.sub (ws' := [(zo13rrirrrr h0 sc kp ik bl go ch bo), (zo4rrir go gR gO (nI n) gS), (zaI gR cR 8 fR9_7), (zaI gO cO 8 fO9_8), (zo10ririliiriririr sc aTp (nI ts) aHl (nI nh) ed mi sn aHs (nI n) aWk (nI wz) aBk (nI bz) aFc), (zaR aHs cHs 8 fHs), (zaI aFc cFc 6 fFc9_9)]) [0, 1, 2, 3, 4, 5, 6] (by decide) rfl
    have hK9 := hK.sub (tys' := [(cR, .int), (cO, .int), (cHs, .object "MistHeaps$Heap"), (cFc, .int)]) [0, 1, 2, 3] rfl
    exact W.iret (v := vxR fO9_8 n j1 (nI j2)) hx hb hr (fun tQ htQ hWQ => ⟨⟨(vxR fO9_8 n j1 (nI j2)), (n, fR9_7, fO9_8, fFc9_9), rfl, ⟨by omega, vi_x hn8 hj1 hj2 hlO⟩, by rw [htQ]; exact hP9, va_K.moved hWQ.alike hK9, hD9⟩, hS.F htQ⟩) hS.2.2 dX11_via_41
  · skip
    refine lv_if_ne (tgt := 14) hx hb dX11_via_9 (by decide) (fun c_12 => absurd c_12 (by decide)) (fun _ => ?_)
    refine lv_iconst (v := (-1)) hx hb dX11_via_12 (by decide) ?_
    rw [hQ]
    have hP9 := hP.sub (ws' := [(zo13rrirrrr h0 sc kp ik bl go ch bo), (zo4rrir go gR gO (nI lk) gS), (zaI gR cR 8 fR), (zaI gO cO 8 fO), (zo10ririliiriririr sc aTp (nI ts) aHl (nI nh) ed mi sn aHs (nI n) aWk (nI wz) aBk (nI bz) aFc), (zaR aHs cHs 8 fHs), (zaI aFc cFc 6 fFc)]) [0, 1, 2, 3, 4, 5, 6] rfl
    have hD9 := hD.sub (ws' := [(zo13rrirrrr h0 sc kp ik bl go ch bo), (zo4rrir go gR gO (nI lk) gS), (zaI gR cR 8 fR), (zaI gO cO 8 fO), (zo10ririliiriririr sc aTp (nI ts) aHl (nI nh) ed mi sn aHs (nI n) aWk (nI wz) aBk (nI bz) aFc), (zaR aHs cHs 8 fHs), (zaI aFc cFc 6 fFc)]) [0, 1, 2, 3, 4, 5, 6] (by decide) rfl
    have hK9 := hK.sub (tys' := [(cR, .int), (cO, .int), (cHs, .object "MistHeaps$Heap"), (cFc, .int)]) [0, 1, 2, 3] rfl
    exact W.iret (v := (-1)) hx hb hr (fun tQ htQ hWQ => ⟨⟨(-1), (lk, fR, fO, fFc), rfl, ⟨hlk, two_no hno⟩, by rw [htQ]; exact hP9, va_K.moved hWQ.alike hK9, hD9⟩, hS.F htQ⟩) hS.2.2 dX11_via_13
