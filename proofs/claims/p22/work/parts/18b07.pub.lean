theorem ggX11_of_X8_heapAt : GoodIn wsX11_of wsX8_heapAt := gga_of 632 rfl rfl rfl
theorem gX11_of_X8_heapAt : GoodIn wsX11_of (wsV RX11 112 RX8 yX8_heapAt wsX8_heapAt) := goodIn_app (ggh_of [629, 630, 631, 64] rfl rfl rfl) ggX11_of_X8_heapAt
theorem ggX11_of_X8_reachOf : GoodIn wsX11_of wsX8_reachOf := gga_of 636 rfl rfl rfl
theorem gX11_of_X8_reachOf : GoodIn wsX11_of (wsV RX11 127 RX8 yX8_reachOf wsX8_reachOf) := goodIn_app (ggh_of [633, 634, 635, 64] rfl rfl rfl) ggX11_of_X8_reachOf
noncomputable def dk18b07pub_cX11_of_0 : List (Nat × Instr × Nat) := [(0, .aload_n 0, 1), (1, .getfield 14, 3), (4, .iload_n 1, 1), (5, .invokevirtual 112, 3), (8, .astore_n 3, 1), (9, .aload_n 3, 1), (10, .ifnonnull 5, 3), (15, .iload_n 2, 1), (16, .tableswitch 63 0 3 #[32, 37, 42, 47], 32), (48, .aload_n 3, 1), (49, .getfield 116, 3), (52, .ireturn, 1), (53, .aload_n 3, 1), (54, .getfield 121, 3), (57, .ireturn, 1), (58, .aload_n 3, 1), (59, .getfield 124, 3), (62, .ireturn, 1), (63, .aload_n 0, 1), (64, .getfield 14, 3), (67, .aload_n 3, 1), (68, .aload_n 0, 1), (69, .getfield 14, 3), (72, .getfield 88, 3), (75, .invokevirtual 127, 3), (78, .ireturn, 1), (79, .iconst (-1), 1), (80, .ireturn, 1), (13, .iconst (-1), 1), (14, .ireturn, 1)]
set_option maxRecDepth 100000 in
theorem dk18b07pub_cX11_of_0_a : dkA cX11_of dk18b07pub_cX11_of_0 = true := by decide +kernel
theorem dX11_of_0 : decode cX11_of 0 = .ok (.aload_n 0, 1) := dkAt dk18b07pub_cX11_of_0_a 0 rfl
theorem dX11_of_1 : decode cX11_of 1 = .ok (.getfield 14, 3) := dkAt dk18b07pub_cX11_of_0_a 1 rfl
theorem dX11_of_4 : decode cX11_of 4 = .ok (.iload_n 1, 1) := dkAt dk18b07pub_cX11_of_0_a 2 rfl
theorem dX11_of_5 : decode cX11_of 5 = .ok (.invokevirtual 112, 3) := dkAt dk18b07pub_cX11_of_0_a 3 rfl
theorem dX11_of_8 : decode cX11_of 8 = .ok (.astore_n 3, 1) := dkAt dk18b07pub_cX11_of_0_a 4 rfl
theorem dX11_of_9 : decode cX11_of 9 = .ok (.aload_n 3, 1) := dkAt dk18b07pub_cX11_of_0_a 5 rfl
theorem dX11_of_10 : decode cX11_of 10 = .ok (.ifnonnull 5, 3) := dkAt dk18b07pub_cX11_of_0_a 6 rfl
theorem dX11_of_15 : decode cX11_of 15 = .ok (.iload_n 2, 1) := dkAt dk18b07pub_cX11_of_0_a 7 rfl
theorem dX11_of_16 : decode cX11_of 16 = .ok (.tableswitch 63 0 3 #[32, 37, 42, 47], 32) := dkAt dk18b07pub_cX11_of_0_a 8 rfl
theorem dX11_of_48 : decode cX11_of 48 = .ok (.aload_n 3, 1) := dkAt dk18b07pub_cX11_of_0_a 9 rfl
theorem dX11_of_49 : decode cX11_of 49 = .ok (.getfield 116, 3) := dkAt dk18b07pub_cX11_of_0_a 10 rfl
theorem dX11_of_52 : decode cX11_of 52 = .ok (.ireturn, 1) := dkAt dk18b07pub_cX11_of_0_a 11 rfl
theorem dX11_of_53 : decode cX11_of 53 = .ok (.aload_n 3, 1) := dkAt dk18b07pub_cX11_of_0_a 12 rfl
theorem dX11_of_54 : decode cX11_of 54 = .ok (.getfield 121, 3) := dkAt dk18b07pub_cX11_of_0_a 13 rfl
theorem dX11_of_57 : decode cX11_of 57 = .ok (.ireturn, 1) := dkAt dk18b07pub_cX11_of_0_a 14 rfl
theorem dX11_of_58 : decode cX11_of 58 = .ok (.aload_n 3, 1) := dkAt dk18b07pub_cX11_of_0_a 15 rfl
theorem dX11_of_59 : decode cX11_of 59 = .ok (.getfield 124, 3) := dkAt dk18b07pub_cX11_of_0_a 16 rfl
theorem dX11_of_62 : decode cX11_of 62 = .ok (.ireturn, 1) := dkAt dk18b07pub_cX11_of_0_a 17 rfl
theorem dX11_of_63 : decode cX11_of 63 = .ok (.aload_n 0, 1) := dkAt dk18b07pub_cX11_of_0_a 18 rfl
theorem dX11_of_64 : decode cX11_of 64 = .ok (.getfield 14, 3) := dkAt dk18b07pub_cX11_of_0_a 19 rfl
theorem dX11_of_67 : decode cX11_of 67 = .ok (.aload_n 3, 1) := dkAt dk18b07pub_cX11_of_0_a 20 rfl
theorem dX11_of_68 : decode cX11_of 68 = .ok (.aload_n 0, 1) := dkAt dk18b07pub_cX11_of_0_a 21 rfl
theorem dX11_of_69 : decode cX11_of 69 = .ok (.getfield 14, 3) := dkAt dk18b07pub_cX11_of_0_a 22 rfl
theorem dX11_of_72 : decode cX11_of 72 = .ok (.getfield 88, 3) := dkAt dk18b07pub_cX11_of_0_a 23 rfl
theorem dX11_of_75 : decode cX11_of 75 = .ok (.invokevirtual 127, 3) := dkAt dk18b07pub_cX11_of_0_a 24 rfl
theorem dX11_of_78 : decode cX11_of 78 = .ok (.ireturn, 1) := dkAt dk18b07pub_cX11_of_0_a 25 rfl
theorem dX11_of_79 : decode cX11_of 79 = .ok (.iconst (-1), 1) := dkAt dk18b07pub_cX11_of_0_a 26 rfl
theorem dX11_of_80 : decode cX11_of 80 = .ok (.ireturn, 1) := dkAt dk18b07pub_cX11_of_0_a 27 rfl
theorem dX11_of_13 : decode cX11_of 13 = .ok (.iconst (-1), 1) := dkAt dk18b07pub_cX11_of_0_a 28 rfl
theorem dX11_of_14 : decode cX11_of 14 = .ok (.ireturn, 1) := dkAt dk18b07pub_cX11_of_0_a 29 rfl
theorem kc_xOf_0 : ∀ w ∈ wsX110, w ∈ wsX11_of := fun w h => List.mem_cons_of_mem _ (gin_wsX110 w h)
theorem kc_xOf_1 : (.fieldLink RX11 14 "MistHeaps" "scene" "LMistHeaps$Scene;" : Cond) ∈ wsX11_of := kc_of 328 rfl rfl rfl
theorem kc_xOf_2 : (.fieldLink RX11 116 "MistHeaps$Heap" "kind" "I" : Cond) ∈ wsX11_of := kc_of 230 rfl rfl rfl
theorem kc_xOf_4 : (.fieldLink RX11 121 "MistHeaps$Heap" "v" "I" : Cond) ∈ wsX11_of := kc_of 245 rfl rfl rfl
theorem kc_xOf_5 : (.fieldLink RX11 124 "MistHeaps$Heap" "cell" "I" : Cond) ∈ wsX11_of := kc_of 251 rfl rfl rfl
theorem kc_xOf_6 : ∀ w ∈ wsX80, w ∈ wsX11_of := fun w h => List.mem_cons_of_mem _ (gin_wsX80 w h)
theorem kc_xOf_7 : (.fieldLink RX11 88 "MistHeaps$Scene" "snow" "I" : Cond) ∈ wsX11_of := kc_of 166 rfl rfl rfl
theorem kc_xOf_3 : ∀ C ∈ hpC, ∀ w ∈ u_ws C.1 C.2.1 C.2.2, w ∈ wsX11_of := by decide +kernel
set_option maxHeartbeats 4000000 in
set_option maxRecDepth 100000 in
theorem c_xOf (l : Launch) (dC : Nat → ClassId) (dI : Nat → Nat → Nat) (gd : Nat → Nat)    (h0 : Nat) (sc : Nat) (kp : Nat) (bl : Nat) (go : Nat) (ch : Nat) (bo : Nat) (aTp : Nat) (aHl : Nat) (aHs : Nat) (aWk : Nat) (aBk : Nat) (aFc : Nat) (bW : Nat) (bA : Nat) (bE : Nat) (bC : Nat) (ts : Nat) (nh : Nat) (n : Nat) (wz : Nat) (bz : Nat) (cl : Nat) (mi : Int32) (sn : Int32) (sg : Int32) (cdd : Int32) (szz : Int32) (att : Int32) (nmb : Int32) (ik : Int32) (x : Int32) (y : Int32) (ed : Int64) (cHs : ClassId) (cFc : ClassId) (cbW : ClassId) (cbA : ClassId) (cbE : ClassId) (cbC : ClassId) (fFc : Nat → Int32) (fbW : Nat → Int32) (fbA : Nat → Int32) (fbE : Nat → Int32) (fbC : Nat → Int32) (yk : Nat → Int32) (yv : Nat → Int32) (yc : Nat → Int32) (fHs : Nat → Option Nat) (yi : Nat → Nat) (ya : Nat → Nat) (tpv : Value) (cz : List pCla) (sz : Nat) (zhs : ∀ k0, k0 < n → fHs k0 = some (ya k0)) (hn8 : n ≤ 8) (zcl : cl ≤ 10) (zE : ∀ k0, k0 < 10 → ∃ e0 : Nat, e0 ≤ 100 ∧ fbE k0 = nI e0) (zC : ∀ k0, k0 < 100 → okC (fbC k0)) (zHC : HC cl sg fbW fbA fbE fbC cz ∧ WfC cz) (zyt : ∀ k0, k0 < n → hpT (yi k0) (yk k0)) : Met l yX11_of wsX11_of ({ frames := 5, cells := 0, slots := 0, locals := 102 } : Room) (va_Pc [.ref h0, .int x, .int y] (fun U => U.heap.size = sz ∧ va_P (dC, dI) vwCl [(zo13rrirrrr h0 sc kp ik bl go ch bo), (zo10ririliiriririr sc aTp (nI ts) aHl (nI nh) ed mi sn aHs (nI n) aWk (nI wz) aBk (nI bz) aFc), (zaR aHs cHs 8 fHs), (zaI aFc cFc 6 fFc)] U.heap ∧ va_K (dC, dI) vwCl [(cHs, .object "MistHeaps$Heap"), (cFc, .int)] U ∧ va_D (fun _ => True) [(zo13rrirrrr h0 sc kp ik bl go ch bo), (zo10ririliiriririr sc aTp (nI ts) aHl (nI nh) ed mi sn aHs (nI n) aWk (nI wz) aBk (nI bz) aFc), (zaR aHs cHs 8 fHs), (zaI aFc cFc 6 fFc)] ∧ Gl gd (va_A [(zo13rrirrrr h0 sc kp ik bl go ch bo), (zo10ririliiriririr sc aTp (nI ts) aHl (nI nh) ed mi sn aHs (nI n) aWk (nI wz) aBk (nI bz) aFc), (zaR aHs cHs 8 fHs), (zaI aFc cFc 6 fFc)] sz) U ∧ Gw (va_A [(zo13rrirrrr h0 sc kp ik bl go ch bo), (zo10ririliiriririr sc aTp (nI ts) aHl (nI nh) ed mi sn aHs (nI n) aWk (nI wz) aBk (nI bz) aFc), (zaR aHs cHs 8 fHs), (zaI aFc cFc 6 fFc)] sz) U ∧ Fz dC dI [(zo7iirrrriviii aHl sg (nI cl) bW bA bE bC cdd tpv szz att nmb), (zaI bW cbW 10 fbW), (zaI bA cbA 10 fbA), (zaI bE cbE 10 fbE), (zaI bC cbC 100 fbC)] [(cbW, .int), (cbA, .int), (cbE, .int), (cbC, .int)] (va_A [(zo13rrirrrr h0 sc kp ik bl go ch bo), (zo10ririliiriririr sc aTp (nI ts) aHl (nI nh) ed mi sn aHs (nI n) aWk (nI wz) aBk (nI bz) aFc), (zaR aHs cHs 8 fHs), (zaI aFc cFc 6 fFc)] sz) U ∧ Hs dC dI n yi ya yk yv yc (va_A [(zo13rrirrrr h0 sc kp ik bl go ch bo), (zo10ririliiriririr sc aTp (nI ts) aHl (nI nh) ed mi sn aHs (nI n) aWk (nI wz) aBk (nI bz) aFc), (zaR aHs cHs 8 fHs), (zaI aFc cFc 6 fFc)] sz) U)) (va_Qi (fun (r : Int32) (u : Nat → Int32) => match u with | fFc9 => r = ofR n yk yv yc cz mi sn x y) (fun (u : Nat → Int32) (t : State) => match u with | fFc9 => va_P (dC, dI) vwCl [(zo13rrirrrr h0 sc kp ik bl go ch bo), (zo10ririliiriririr sc aTp (nI ts) aHl (nI nh) ed mi sn aHs (nI n) aWk (nI wz) aBk (nI bz) aFc), (zaR aHs cHs 8 fHs), (zaI aFc cFc 6 fFc9)] t.heap ∧ va_K (dC, dI) vwCl [(cHs, .object "MistHeaps$Heap"), (cFc, .int)] t ∧ va_D (va_A [(zo13rrirrrr h0 sc kp ik bl go ch bo), (zo10ririliiriririr sc aTp (nI ts) aHl (nI nh) ed mi sn aHs (nI n) aWk (nI wz) aBk (nI bz) aFc), (zaR aHs cHs 8 fHs), (zaI aFc cFc 6 fFc)] sz) [(zo13rrirrrr h0 sc kp ik bl go ch bo), (zo10ririliiriririr sc aTp (nI ts) aHl (nI nh) ed mi sn aHs (nI n) aWk (nI wz) aBk (nI bz) aFc), (zaR aHs cHs 8 fHs), (zaI aFc cFc 6 fFc9)]) (va_A [(zo13rrirrrr h0 sc kp ik bl go ch bo), (zo10ririliiriririr sc aTp (nI ts) aHl (nI nh) ed mi sn aHs (nI n) aWk (nI wz) aBk (nI bz) aFc), (zaR aHs cHs 8 fHs), (zaI aFc cFc 6 fFc)] sz)) 0 0 (va_A [(zo13rrirrrr h0 sc kp ik bl go ch bo), (zo10ririliiriririr sc aTp (nI ts) aHl (nI nh) ed mi sn aHs (nI n) aWk (nI wz) aBk (nI bz) aFc), (zaR aHs cHs 8 fHs), (zaI aFc cFc 6 fFc)] sz) := by
  refine met_ofQ (cc := cX11_of) (maxL := 4) (ret := (some .int)) (by decide) rfl ?_
  intro p e s m args below meth c s₁ Q B hml hv hQ
  obtain ⟨rfl, hsz, hP, hK, hD0, hG, hW_, hZ, hH_⟩ := hv
  have hx := B.exec
  have hb := B.bytes
  have hr := B.returns
  have hts := atoms_spec (ws := wsX11_of) B.pre
  have hown : s.vm.findClass RX11 = some m.cls := findClass_of_methodNamed B.named
  have hlocks := B.notSynchronized
  subst hsz
  have hD := hD0.self (sz := s.heap.size)
  generalize hAe : va_A [(zo13rrirrrr h0 sc kp ik bl go ch bo), (zo10ririliiriririr sc aTp (nI ts) aHl (nI nh) ed mi sn aHs (nI n) aWk (nI wz) aBk (nI bz) aFc), (zaR aHs cHs 8 fHs), (zaI aFc cFc 6 fFc)] s.heap.size = A at hD hQ hG hW_ hZ hH_ ⊢
  have hA : ∀ q : Nat, s.heap.size ≤ q → A q := fun q h => by rw [← hAe]; exact Or.inr h
  have hS : va_S A s.heap s.heap [] := va_S.rf
  have hl := lv_entry [.ref h0, .int x, .int y] (n := 4) (Nat.le_of_ble_eq_true rfl)
  rw [lg_entry_eq]
  generalize (lg_sl [.ref h0, .int x, .int y] ++ List.replicate (4 - (lg_sl [.ref h0, .int x, .int y]).length) Slot.unset).toArray = ls at hl ⊢
  generalize hag : ([.ref h0, .int x, .int y] : List Value).toArray = args at hts hQ ⊢
  have hl : lv_has ls 4 [(0, .ref h0), (1, .int x), (2, .int y)] := hl
  obtain ⟨H, hH⟩ : ∃ H : Heap, H = s.heap := ⟨_, rfl⟩
  rw [← hH] at hP
  rw [← hH]
  have hS : va_S A s.heap H [] := by rw [hH]; exact hS
  obtain ⟨locs, hlo⟩ : ∃ L : List Loc, L = [] := ⟨_, rfl⟩
  rw [← hlo] at hS
  rw [← hlo]
  clear hH hlo
  refine lv_aload_n hx hb dX11_of_0 rfl (lv_at hl 0 rfl) ?_
  refine va_get (D := (dC, dI)) (ci := 13) (v := .ref sc) (C := RX11) (T := TX11) (N := 7) hx hb hts kc_xOf_0 hown hK hP 0 rfl rfl 0 (by decide) (hts (.fieldLink RX11 14 "MistHeaps" "scene" "LMistHeaps$Scene;") kc_xOf_1) (fun _ h9 => h9) rfl dX11_of_1 ?_
  refine lv_iload_n hx hb dX11_of_4 rfl (lv_at hl 1 rfl) ?_
  have hPc := hP.sub (ws' := [(zo10ririliiriririr sc aTp (nI ts) aHl (nI nh) ed mi sn aHs (nI n) aWk (nI wz) aBk (nI bz) aFc), (zaR aHs cHs 8 fHs)]) [1, 2] rfl
  have hKc := hK.sub (tys' := [(cHs, .object "MistHeaps$Heap")]) [0] rfl
  refine va_csq (va_runV (As := [.int x]) (rest := []) ⟨hx, hb, hml, hown, hts⟩ (c_heapAt l dC dI sc aTp aHl aHs aWk aBk aFc ts nh n wz bz mi sn x ed cHs fHs ya (zhs) (hn8)) (cwV 1 hts gX11_of_X8_heapAt rfl rfl rfl hd_yX8_heapAt ⟨Nat.le_of_ble_eq_true rfl, Nat.le_of_ble_eq_true rfl⟩) ⟨fun a U g mk q => by obtain ⟨q0, qP, qK⟩ := q; exact ⟨q0, qP, va_K.moved (u := U) (U := U.calling g mk a) (Vm.Alike.refl U.vm) qK⟩, va_recv hK hP (ci := 10) (q := (RX8, TX8, 14)) (q0 := 1) rfl rfl, fun U hU hW => ⟨rfl, by rw [hU]; exact hPc, va_K.moved hW.alike hKc⟩⟩ rfl rfl hl.1 rfl (lv_room (Nat.le_of_ble_eq_true rfl)) dX11_of_5 ⟨Nat.le_of_ble_eq_true rfl, Nat.le_of_ble_eq_true rfl⟩).run (fun r_1 hw_2 => ?_)
  rcases hw_2 with ⟨j_3, hj_4, rfl, rfl⟩ | ⟨rfl, h_6⟩
  · skip
    refine qq_as (v := .ref (ya j_3)) rfl ?_
    refine lv_astore_n (lv' := [(3, .ref (ya j_3)), (0, .ref h0), (1, .int (nI j_3)), (2, .int y)]) hx hb dX11_of_8 rfl hl (by decide) rfl (fun ls hl => ?_)
    refine lv_aload_n hx hb dX11_of_9 rfl (lv_at hl 0 rfl) ?_
    refine lv_ifnonnull (tgt := 15) hx hb dX11_of_10 (by decide) ?_
    refine lv_iload_n hx hb dX11_of_15 rfl (lv_at hl 3 rfl) ?_
    by_cases c_7_0 : y = 0
    · skip
      refine lv_tableIn (tgt := 48) hx hb dX11_of_16 (by rw [c_7_0]; decide) (by rw [c_7_0]; decide) (by rw [c_7_0]; rfl) (by decide) ?_
      refine lv_aload_n hx hb dX11_of_48 rfl (lv_at hl 0 rfl) ?_
      refine va_hget0 (v := .int (yk j_3)) hx hb hts kc_xOf_3 hown (hH_ j_3 (by omega)).1 (hH_ j_3 (by omega)).2 hS (hts (.fieldLink RX11 116 "MistHeaps$Heap" "kind" "I") kc_xOf_2) dX11_of_49 rfl ?_
      rw [hQ]
      have hP9 := hP.sub (ws' := [(zo13rrirrrr h0 sc kp ik bl go ch bo), (zo10ririliiriririr sc aTp (nI ts) aHl (nI nh) ed mi sn aHs (nI n) aWk (nI wz) aBk (nI bz) aFc), (zaR aHs cHs 8 fHs), (zaI aFc cFc 6 fFc)]) [0, 1, 2, 3] rfl
      have hD9 := hD.sub (ws' := [(zo13rrirrrr h0 sc kp ik bl go ch bo), (zo10ririliiriririr sc aTp (nI ts) aHl (nI nh) ed mi sn aHs (nI n) aWk (nI wz) aBk (nI bz) aFc), (zaR aHs cHs 8 fHs), (zaI aFc cFc 6 fFc)]) [0, 1, 2, 3] (by decide) rfl
      have hK9 := hK.sub (tys' := [(cHs, .object "MistHeaps$Heap"), (cFc, .int)]) [0, 1] rfl
      exact W.iret (v := yk j_3) hx hb hr (fun tQ htQ hWQ => ⟨⟨(yk j_3), fFc, rfl, of_k hn8 (by omega) (by assumption), by rw [htQ]; exact hP9, va_K.moved hWQ.alike hK9, hD9⟩, hS.F htQ⟩) hS.2.2 dX11_of_52
    by_cases c_7_1 : y = 1
    · skip
      refine lv_tableIn (tgt := 53) hx hb dX11_of_16 (by rw [c_7_1]; decide) (by rw [c_7_1]; decide) (by rw [c_7_1]; rfl) (by decide) ?_
      refine lv_aload_n hx hb dX11_of_53 rfl (lv_at hl 0 rfl) ?_
      refine va_hget2 (v := .int (yv j_3)) hx hb hts kc_xOf_3 hown (hH_ j_3 (by omega)).1 (hH_ j_3 (by omega)).2 hS (hts (.fieldLink RX11 121 "MistHeaps$Heap" "v" "I") kc_xOf_4) dX11_of_54 rfl ?_
      rw [hQ]
      have hP9 := hP.sub (ws' := [(zo13rrirrrr h0 sc kp ik bl go ch bo), (zo10ririliiriririr sc aTp (nI ts) aHl (nI nh) ed mi sn aHs (nI n) aWk (nI wz) aBk (nI bz) aFc), (zaR aHs cHs 8 fHs), (zaI aFc cFc 6 fFc)]) [0, 1, 2, 3] rfl
      have hD9 := hD.sub (ws' := [(zo13rrirrrr h0 sc kp ik bl go ch bo), (zo10ririliiriririr sc aTp (nI ts) aHl (nI nh) ed mi sn aHs (nI n) aWk (nI wz) aBk (nI bz) aFc), (zaR aHs cHs 8 fHs), (zaI aFc cFc 6 fFc)]) [0, 1, 2, 3] (by decide) rfl
      have hK9 := hK.sub (tys' := [(cHs, .object "MistHeaps$Heap"), (cFc, .int)]) [0, 1] rfl
      exact W.iret (v := yv j_3) hx hb hr (fun tQ htQ hWQ => ⟨⟨(yv j_3), fFc, rfl, of_v hn8 (by omega) (by assumption), by rw [htQ]; exact hP9, va_K.moved hWQ.alike hK9, hD9⟩, hS.F htQ⟩) hS.2.2 dX11_of_57
    by_cases c_7_2 : y = 2
    · skip
      refine lv_tableIn (tgt := 58) hx hb dX11_of_16 (by rw [c_7_2]; decide) (by rw [c_7_2]; decide) (by rw [c_7_2]; rfl) (by decide) ?_
      refine lv_aload_n hx hb dX11_of_58 rfl (lv_at hl 0 rfl) ?_
      refine va_hget3 (v := .int (yc j_3)) hx hb hts kc_xOf_3 hown (hH_ j_3 (by omega)).1 (hH_ j_3 (by omega)).2 hS (hts (.fieldLink RX11 124 "MistHeaps$Heap" "cell" "I") kc_xOf_5) dX11_of_59 rfl ?_
      rw [hQ]
      have hP9 := hP.sub (ws' := [(zo13rrirrrr h0 sc kp ik bl go ch bo), (zo10ririliiriririr sc aTp (nI ts) aHl (nI nh) ed mi sn aHs (nI n) aWk (nI wz) aBk (nI bz) aFc), (zaR aHs cHs 8 fHs), (zaI aFc cFc 6 fFc)]) [0, 1, 2, 3] rfl
      have hD9 := hD.sub (ws' := [(zo13rrirrrr h0 sc kp ik bl go ch bo), (zo10ririliiriririr sc aTp (nI ts) aHl (nI nh) ed mi sn aHs (nI n) aWk (nI wz) aBk (nI bz) aFc), (zaR aHs cHs 8 fHs), (zaI aFc cFc 6 fFc)]) [0, 1, 2, 3] (by decide) rfl
      have hK9 := hK.sub (tys' := [(cHs, .object "MistHeaps$Heap"), (cFc, .int)]) [0, 1] rfl
      exact W.iret (v := yc j_3) hx hb hr (fun tQ htQ hWQ => ⟨⟨(yc j_3), fFc, rfl, of_c hn8 (by omega) (by assumption), by rw [htQ]; exact hP9, va_K.moved hWQ.alike hK9, hD9⟩, hS.F htQ⟩) hS.2.2 dX11_of_62
    by_cases c_7_3 : y = 3
    · skip
      refine lv_tableIn (tgt := 63) hx hb dX11_of_16 (by rw [c_7_3]; decide) (by rw [c_7_3]; decide) (by rw [c_7_3]; rfl) (by decide) ?_
      refine lv_aload_n hx hb dX11_of_63 rfl (lv_at hl 1 rfl) ?_
      refine va_get (D := (dC, dI)) (ci := 13) (v := .ref sc) (C := RX11) (T := TX11) (N := 7) hx hb hts kc_xOf_0 hown hK hP 0 rfl rfl 0 (by decide) (hts (.fieldLink RX11 14 "MistHeaps" "scene" "LMistHeaps$Scene;") kc_xOf_1) (fun _ h9 => h9) rfl dX11_of_64 ?_
      refine lv_aload_n hx hb dX11_of_67 rfl (lv_at hl 0 rfl) ?_
      refine lv_aload_n hx hb dX11_of_68 rfl (lv_at hl 1 rfl) ?_
      refine va_get (D := (dC, dI)) (ci := 13) (v := .ref sc) (C := RX11) (T := TX11) (N := 7) hx hb hts kc_xOf_0 hown hK hP 0 rfl rfl 0 (by decide) (hts (.fieldLink RX11 14 "MistHeaps" "scene" "LMistHeaps$Scene;") kc_xOf_1) (fun _ h9 => h9) rfl dX11_of_69 ?_
      refine va_get (D := (dC, dI)) (ci := 10) (v := .int sn) (C := RX8) (T := TX8) (N := 14) hx hb hts kc_xOf_6 hown hK hP 1 rfl rfl 6 (by decide) (hts (.fieldLink RX11 88 "MistHeaps$Scene" "snow" "I") kc_xOf_7) (fun _ h9 => h9) rfl dX11_of_72 ?_
      have hPc := hP.sub (ws' := [(zo10ririliiriririr sc aTp (nI ts) aHl (nI nh) ed mi sn aHs (nI n) aWk (nI wz) aBk (nI bz) aFc), (zaI aFc cFc 6 fFc)]) [1, 3] rfl
      have hDc := hD.sub (ws' := [(zo10ririliiriririr sc aTp (nI ts) aHl (nI nh) ed mi sn aHs (nI n) aWk (nI wz) aBk (nI bz) aFc), (zaI aFc cFc 6 fFc)]) [1, 3] (by decide) rfl
      have hKc := hK.sub (tys' := [(cFc, .int)]) [1] rfl
      have hFc := va_free (wc := [(zo10ririliiriririr sc aTp (nI ts) aHl (nI nh) ed mi sn aHs (nI n) aWk (nI wz) aBk (nI bz) aFc), (zaI aFc cFc 6 fFc)]) hD hS hA [1, 3] rfl
      refine va_calli (va_runV (As := [.ref (ya j_3), .int sn]) (rest := []) ⟨hx, hb, hml, hown, hts⟩ (c_xReach l dC dI gd    sc aTp aHl aHs aWk aBk aFc bW bA bE bC ts nh n wz bz cl j_3 mi sn sg cdd szz att nmb sn ed cFc cbW cbA cbE cbC fFc fbW fbA fbE fbC yk yv yc yi ya tpv cz H.size (by omega) (zcl) (zE) (zC) (zHC) (zyt)) (cwV 2 hts gX11_of_X8_reachOf rfl rfl rfl hd_yX8_reachOf ⟨Nat.le_of_ble_eq_true rfl, Nat.le_of_ble_eq_true rfl⟩) ⟨fun a U g mk q => by obtain ⟨q0, q1, qP, qK, qD, qhG, qhW_, qhZ, qhH_⟩ := q; exact ⟨q0, q1, qP, va_K.moved (u := U) (U := U.calling g mk a) (Vm.Alike.refl U.vm) qK, qD, qhG.same rfl rfl, qhW_.same rfl rfl, qhZ.same rfl rfl, qhH_.same rfl rfl⟩, va_recv hK hP (ci := 10) (q := (RX8, TX8, 14)) (q0 := 1) rfl rfl, fun U hU hW => ⟨rfl, by rw [hU], by rw [hU]; exact hPc, va_K.moved hW.alike hKc, hDc.weaken (fun _ _ _ _ => trivial), hG.call hS hU hW (fun q h => hFc q h), hW_.call hS hU hW (fun q h => hFc q h), (hZ.sub [0, 1, 2, 3, 4] [0, 1, 2, 3] rfl rfl).call hS hU hW (fun q h => hFc q h), hH_.call hS hU hW (fun q h => hFc q h)⟩⟩ rfl rfl hl.1 rfl (lv_room (Nat.le_of_ble_eq_true rfl)) dX11_of_75 ⟨Nat.le_of_ble_eq_true rfl, Nat.le_of_ble_eq_true rfl⟩) hS (fun q _ h => hFc q h) hFc (fun r_8 u tC H1 locs htC hvm hw_9 hB hz1 hk1 hS => ?_)
      obtain ⟨fFc9_10, rfl⟩ : ∃ z, z = u := ⟨_, rfl⟩
      try dsimp only at hw_9 hB
      obtain ⟨hP1, hK1, hD1⟩ := hB
      rw [htC] at hP1
      have hK1 := va_K.moved hvm.symm hK1
      obtain ⟨hP, hD⟩ := va_join (wr := [(zo13rrirrrr h0 sc kp ik bl go ch bo), (zaR aHs cHs 8 fHs)]) (w1 := [(zo10ririliiriririr sc aTp (nI ts) aHl (nI nh) ed mi sn aHs (nI n) aWk (nI wz) aBk (nI bz) aFc), (zaI aFc cFc 6 fFc9_10)]) hP hD [1, 3] [0, 2] rfl rfl (by decide) (by decide) hk1 hFc hP1 hD1
      have hK := (hK.sub (tys' := [(cHs, .object "MistHeaps$Heap")]) [0] rfl).app hK1
      generalize H1 = H at hP hS ⊢
      have hP : va_P (dC, dI) vwCl [(zo13rrirrrr h0 sc kp ik bl go ch bo), (zaR aHs cHs 8 fHs), (zo10ririliiriririr sc aTp (nI ts) aHl (nI nh) ed mi sn aHs (nI n) aWk (nI wz) aBk (nI bz) aFc), (zaI aFc cFc 6 fFc9_10)] H := hP
      have hD : va_D A [(zo13rrirrrr h0 sc kp ik bl go ch bo), (zaR aHs cHs 8 fHs), (zo10ririliiriririr sc aTp (nI ts) aHl (nI nh) ed mi sn aHs (nI n) aWk (nI wz) aBk (nI bz) aFc), (zaI aFc cFc 6 fFc9_10)] := hD
      have hK : va_K (dC, dI) vwCl [(cHs, .object "MistHeaps$Heap"), (cFc, .int)] s := hK
      obtain rfl := hw_9
      rw [hQ]
      have hP9 := hP.sub (ws' := [(zo13rrirrrr h0 sc kp ik bl go ch bo), (zo10ririliiriririr sc aTp (nI ts) aHl (nI nh) ed mi sn aHs (nI n) aWk (nI wz) aBk (nI bz) aFc), (zaR aHs cHs 8 fHs), (zaI aFc cFc 6 fFc9_10)]) [0, 2, 1, 3] rfl
      have hD9 := hD.sub (ws' := [(zo13rrirrrr h0 sc kp ik bl go ch bo), (zo10ririliiriririr sc aTp (nI ts) aHl (nI nh) ed mi sn aHs (nI n) aWk (nI wz) aBk (nI bz) aFc), (zaR aHs cHs 8 fHs), (zaI aFc cFc 6 fFc9_10)]) [0, 2, 1, 3] (by decide) rfl
      have hK9 := hK.sub (tys' := [(cHs, .object "MistHeaps$Heap"), (cFc, .int)]) [0, 1] rfl
      exact W.iret (v := RV cz mi sn j_3 (yk j_3) (yv j_3) (yc j_3)) hx hb hr (fun tQ htQ hWQ => ⟨⟨(RV cz mi sn j_3 (yk j_3) (yv j_3) (yc j_3)), fFc9_10, rfl, of_r hn8 (by omega) (by assumption), by rw [htQ]; exact hP9, va_K.moved hWQ.alike hK9, hD9⟩, hS.F htQ⟩) hS.2.2 dX11_of_78
    refine lv_tableOut (tgt := 79) hx hb dX11_of_16 (sw_out 0 3 y (fun k hk => by
      match k, hk with
      | 0, _ => exact c_7_0
      | 1, _ => exact c_7_1
      | 2, _ => exact c_7_2
      | 3, _ => exact c_7_3
      | k + 4, hk => exact absurd hk (by omega))) (by decide) ?_
    refine lv_iconst (v := (-1)) hx hb dX11_of_79 (by decide) ?_
    rw [hQ]
    have hP9 := hP.sub (ws' := [(zo13rrirrrr h0 sc kp ik bl go ch bo), (zo10ririliiriririr sc aTp (nI ts) aHl (nI nh) ed mi sn aHs (nI n) aWk (nI wz) aBk (nI bz) aFc), (zaR aHs cHs 8 fHs), (zaI aFc cFc 6 fFc)]) [0, 1, 2, 3] rfl
    have hD9 := hD.sub (ws' := [(zo13rrirrrr h0 sc kp ik bl go ch bo), (zo10ririliiriririr sc aTp (nI ts) aHl (nI nh) ed mi sn aHs (nI n) aWk (nI wz) aBk (nI bz) aFc), (zaR aHs cHs 8 fHs), (zaI aFc cFc 6 fFc)]) [0, 1, 2, 3] (by decide) rfl
    have hK9 := hK.sub (tys' := [(cHs, .object "MistHeaps$Heap"), (cFc, .int)]) [0, 1] rfl
    exact W.iret (v := (-1)) hx hb hr (fun tQ htQ hWQ => ⟨⟨(-1), fFc, rfl, of_x hn8 (by omega) (by assumption) (by assumption) (by assumption) (by assumption), by rw [htQ]; exact hP9, va_K.moved hWQ.alike hK9, hD9⟩, hS.F htQ⟩) hS.2.2 dX11_of_80
  · skip
    refine qq_as (v := .null) rfl ?_
    refine lv_astore_nN (lv' := [(3, .null), (0, .ref h0), (1, .int x), (2, .int y)]) hx hb dX11_of_8 rfl hl (by decide) rfl (fun ls hl => ?_)
    refine lv_aload_nN hx hb dX11_of_9 rfl (lv_at hl 0 rfl) ?_
    refine lv_ifnonnullN hx hb dX11_of_10 ?_
    refine lv_iconst (v := (-1)) hx hb dX11_of_13 (by decide) ?_
    rw [hQ]
    have hP9 := hP.sub (ws' := [(zo13rrirrrr h0 sc kp ik bl go ch bo), (zo10ririliiriririr sc aTp (nI ts) aHl (nI nh) ed mi sn aHs (nI n) aWk (nI wz) aBk (nI bz) aFc), (zaR aHs cHs 8 fHs), (zaI aFc cFc 6 fFc)]) [0, 1, 2, 3] rfl
    have hD9 := hD.sub (ws' := [(zo13rrirrrr h0 sc kp ik bl go ch bo), (zo10ririliiriririr sc aTp (nI ts) aHl (nI nh) ed mi sn aHs (nI n) aWk (nI wz) aBk (nI bz) aFc), (zaR aHs cHs 8 fHs), (zaI aFc cFc 6 fFc)]) [0, 1, 2, 3] (by decide) rfl
    have hK9 := hK.sub (tys' := [(cHs, .object "MistHeaps$Heap"), (cFc, .int)]) [0, 1] rfl
    exact W.iret (v := (-1)) hx hb hr (fun tQ htQ hWQ => ⟨⟨(-1), fFc, rfl, of_no (by assumption), by rw [htQ]; exact hP9, va_K.moved hWQ.alike hK9, hD9⟩, hS.F htQ⟩) hS.2.2 dX11_of_14
