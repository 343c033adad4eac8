theorem ggX11_book_X8_heapAt : GoodIn wsX11_book wsX8_heapAt := gga_of 632 rfl rfl rfl
theorem gX11_book_X8_heapAt : GoodIn wsX11_book (wsV RX11 112 RX8 yX8_heapAt wsX8_heapAt) := goodIn_app (ggh_of [629, 630, 631, 64] rfl rfl rfl) ggX11_book_X8_heapAt
noncomputable def dk18b06pub_cX11_book_0 : List (Nat × Instr × Nat) := [(0, .iload_n 1, 1), (1, .iconst (-1), 1), (2, .if_icmp .ne 13, 3), (15, .aload_n 0, 1), (16, .getfield 14, 3), (19, .iload_n 1, 1), (20, .invokevirtual 112, 3), (23, .ifnonnull 5, 3), (28, .aload_n 0, 1), (29, .getfield 14, 3), (32, .getfield 221, 3), (35, .bipush 12, 2), (37, .if_icmp .lt 6, 3), (43, .aload_n 0, 1), (44, .getfield 14, 3), (47, .getfield 224, 3), (50, .aload_n 0, 1), (51, .getfield 14, 3), (54, .getfield 221, 3), (57, .iload_n 1, 1), (58, .iastore, 1), (59, .aload_n 0, 1), (60, .getfield 14, 3), (63, .dup, 1), (64, .getfield 221, 3), (67, .iconst 1, 1), (68, .iadd, 1), (69, .putfield 221, 3), (72, .aload_n 0, 1), (73, .getfield 14, 3), (76, .getfield 221, 3), (79, .ireturn, 1), (40, .bipush (-4), 2), (42, .ireturn, 1), (26, .iconst (-1), 1), (27, .ireturn, 1), (5, .aload_n 0, 1), (6, .getfield 14, 3), (9, .iconst 0, 1), (10, .putfield 221, 3)]
set_option maxRecDepth 100000 in
theorem dk18b06pub_cX11_book_0_a : dkA cX11_book dk18b06pub_cX11_book_0 = true := by decide +kernel
theorem dX11_book_0 : decode cX11_book 0 = .ok (.iload_n 1, 1) := dkAt dk18b06pub_cX11_book_0_a 0 rfl
theorem dX11_book_1 : decode cX11_book 1 = .ok (.iconst (-1), 1) := dkAt dk18b06pub_cX11_book_0_a 1 rfl
theorem dX11_book_2 : decode cX11_book 2 = .ok (.if_icmp .ne 13, 3) := dkAt dk18b06pub_cX11_book_0_a 2 rfl
theorem dX11_book_15 : decode cX11_book 15 = .ok (.aload_n 0, 1) := dkAt dk18b06pub_cX11_book_0_a 3 rfl
theorem dX11_book_16 : decode cX11_book 16 = .ok (.getfield 14, 3) := dkAt dk18b06pub_cX11_book_0_a 4 rfl
theorem dX11_book_19 : decode cX11_book 19 = .ok (.iload_n 1, 1) := dkAt dk18b06pub_cX11_book_0_a 5 rfl
theorem dX11_book_20 : decode cX11_book 20 = .ok (.invokevirtual 112, 3) := dkAt dk18b06pub_cX11_book_0_a 6 rfl
theorem dX11_book_23 : decode cX11_book 23 = .ok (.ifnonnull 5, 3) := dkAt dk18b06pub_cX11_book_0_a 7 rfl
theorem dX11_book_28 : decode cX11_book 28 = .ok (.aload_n 0, 1) := dkAt dk18b06pub_cX11_book_0_a 8 rfl
theorem dX11_book_29 : decode cX11_book 29 = .ok (.getfield 14, 3) := dkAt dk18b06pub_cX11_book_0_a 9 rfl
theorem dX11_book_32 : decode cX11_book 32 = .ok (.getfield 221, 3) := dkAt dk18b06pub_cX11_book_0_a 10 rfl
theorem dX11_book_35 : decode cX11_book 35 = .ok (.bipush 12, 2) := dkAt dk18b06pub_cX11_book_0_a 11 rfl
theorem dX11_book_37 : decode cX11_book 37 = .ok (.if_icmp .lt 6, 3) := dkAt dk18b06pub_cX11_book_0_a 12 rfl
theorem dX11_book_43 : decode cX11_book 43 = .ok (.aload_n 0, 1) := dkAt dk18b06pub_cX11_book_0_a 13 rfl
theorem dX11_book_44 : decode cX11_book 44 = .ok (.getfield 14, 3) := dkAt dk18b06pub_cX11_book_0_a 14 rfl
theorem dX11_book_47 : decode cX11_book 47 = .ok (.getfield 224, 3) := dkAt dk18b06pub_cX11_book_0_a 15 rfl
theorem dX11_book_50 : decode cX11_book 50 = .ok (.aload_n 0, 1) := dkAt dk18b06pub_cX11_book_0_a 16 rfl
theorem dX11_book_51 : decode cX11_book 51 = .ok (.getfield 14, 3) := dkAt dk18b06pub_cX11_book_0_a 17 rfl
theorem dX11_book_54 : decode cX11_book 54 = .ok (.getfield 221, 3) := dkAt dk18b06pub_cX11_book_0_a 18 rfl
theorem dX11_book_57 : decode cX11_book 57 = .ok (.iload_n 1, 1) := dkAt dk18b06pub_cX11_book_0_a 19 rfl
theorem dX11_book_58 : decode cX11_book 58 = .ok (.iastore, 1) := dkAt dk18b06pub_cX11_book_0_a 20 rfl
theorem dX11_book_59 : decode cX11_book 59 = .ok (.aload_n 0, 1) := dkAt dk18b06pub_cX11_book_0_a 21 rfl
theorem dX11_book_60 : decode cX11_book 60 = .ok (.getfield 14, 3) := dkAt dk18b06pub_cX11_book_0_a 22 rfl
theorem dX11_book_63 : decode cX11_book 63 = .ok (.dup, 1) := dkAt dk18b06pub_cX11_book_0_a 23 rfl
theorem dX11_book_64 : decode cX11_book 64 = .ok (.getfield 221, 3) := dkAt dk18b06pub_cX11_book_0_a 24 rfl
theorem dX11_book_67 : decode cX11_book 67 = .ok (.iconst 1, 1) := dkAt dk18b06pub_cX11_book_0_a 25 rfl
theorem dX11_book_68 : decode cX11_book 68 = .ok (.iadd, 1) := dkAt dk18b06pub_cX11_book_0_a 26 rfl
theorem dX11_book_69 : decode cX11_book 69 = .ok (.putfield 221, 3) := dkAt dk18b06pub_cX11_book_0_a 27 rfl
theorem dX11_book_72 : decode cX11_book 72 = .ok (.aload_n 0, 1) := dkAt dk18b06pub_cX11_book_0_a 28 rfl
theorem dX11_book_73 : decode cX11_book 73 = .ok (.getfield 14, 3) := dkAt dk18b06pub_cX11_book_0_a 29 rfl
theorem dX11_book_76 : decode cX11_book 76 = .ok (.getfield 221, 3) := dkAt dk18b06pub_cX11_book_0_a 30 rfl
theorem dX11_book_79 : decode cX11_book 79 = .ok (.ireturn, 1) := dkAt dk18b06pub_cX11_book_0_a 31 rfl
theorem dX11_book_40 : decode cX11_book 40 = .ok (.bipush (-4), 2) := dkAt dk18b06pub_cX11_book_0_a 32 rfl
theorem dX11_book_42 : decode cX11_book 42 = .ok (.ireturn, 1) := dkAt dk18b06pub_cX11_book_0_a 33 rfl
theorem dX11_book_26 : decode cX11_book 26 = .ok (.iconst (-1), 1) := dkAt dk18b06pub_cX11_book_0_a 34 rfl
theorem dX11_book_27 : decode cX11_book 27 = .ok (.ireturn, 1) := dkAt dk18b06pub_cX11_book_0_a 35 rfl
theorem dX11_book_5 : decode cX11_book 5 = .ok (.aload_n 0, 1) := dkAt dk18b06pub_cX11_book_0_a 36 rfl
theorem dX11_book_6 : decode cX11_book 6 = .ok (.getfield 14, 3) := dkAt dk18b06pub_cX11_book_0_a 37 rfl
theorem dX11_book_9 : decode cX11_book 9 = .ok (.iconst 0, 1) := dkAt dk18b06pub_cX11_book_0_a 38 rfl
theorem dX11_book_10 : decode cX11_book 10 = .ok (.putfield 221, 3) := dkAt dk18b06pub_cX11_book_0_a 39 rfl
noncomputable def dk18b06pub_cX11_book_40 : List (Nat × Instr × Nat) := [(13, .iconst 0, 1), (14, .ireturn, 1)]
set_option maxRecDepth 100000 in
theorem dk18b06pub_cX11_book_40_a : dkA cX11_book dk18b06pub_cX11_book_40 = true := by decide +kernel
theorem dX11_book_13 : decode cX11_book 13 = .ok (.iconst 0, 1) := dkAt dk18b06pub_cX11_book_40_a 0 rfl
theorem dX11_book_14 : decode cX11_book 14 = .ok (.ireturn, 1) := dkAt dk18b06pub_cX11_book_40_a 1 rfl
theorem kc_xBook_0 : ∀ w ∈ wsX110, w ∈ wsX11_book := fun w h => List.mem_cons_of_mem _ (gin_wsX110 w h)
theorem kc_xBook_1 : (.fieldLink RX11 14 "MistHeaps" "scene" "LMistHeaps$Scene;" : Cond) ∈ wsX11_book := kc_of 328 rfl rfl rfl
theorem kc_xBook_2 : ∀ w ∈ wsX80, w ∈ wsX11_book := fun w h => List.mem_cons_of_mem _ (gin_wsX80 w h)
theorem kc_xBook_3 : (.fieldLink RX11 221 "MistHeaps$Scene" "bookSize" "I" : Cond) ∈ wsX11_book := kc_of 183 rfl rfl rfl
theorem kc_xBook_4 : (.fieldLink RX11 224 "MistHeaps$Scene" "book" "[I" : Cond) ∈ wsX11_book := kc_of 181 rfl rfl rfl
set_option maxHeartbeats 4000000 in
set_option maxRecDepth 100000 in
theorem c_xBook (l : Launch) (dC : Nat → ClassId) (dI : Nat → Nat → Nat) (h0 : Nat) (sc : Nat) (kp : Nat) (bl : Nat) (go : Nat) (ch : Nat) (bo : Nat) (aTp : Nat) (aHl : Nat) (aHs : Nat) (aWk : Nat) (aBk : Nat) (aFc : Nat) (ts : Nat) (nh : Nat) (n : Nat) (wz : Nat) (bz : Nat) (mi : Int32) (sn : Int32) (ik : Int32) (x : Int32) (ed : Int64) (cHs : ClassId) (cBk : ClassId) (fBk : Nat → Int32) (fHs : Nat → Option Nat) (w0 : Nat) (ya : Nat → Nat) (sz : Nat) (zhs : ∀ k0, k0 < n → fHs k0 = some (ya k0)) (hn8 : n ≤ 8) (hbz : bz ≤ 12) (zbk : ∀ k0, k0 < 12 → ∃ w0 : Nat, w0 < 8 ∧ fBk k0 = nI w0) : Met l yX11_book wsX11_book ({ frames := 1, cells := 0, slots := 0, locals := 21 } : Room) (va_Pc [.ref h0, .int x] (fun U => U.heap.size = sz ∧ va_P (dC, dI) vwCl [(zo13rrirrrr h0 sc kp ik bl go ch bo), (zo10ririliiriririr sc aTp (nI ts) aHl (nI nh) ed mi sn aHs (nI n) aWk (nI wz) aBk (nI bz) aFc), (zaR aHs cHs 8 fHs), (zaI aBk cBk 12 fBk)] U.heap ∧ va_K (dC, dI) vwCl [(cHs, .object "MistHeaps$Heap"), (cBk, .int)] U ∧ va_D (fun _ => True) [(zo13rrirrrr h0 sc kp ik bl go ch bo), (zo10ririliiriririr sc aTp (nI ts) aHl (nI nh) ed mi sn aHs (nI n) aWk (nI wz) aBk (nI bz) aFc), (zaR aHs cHs 8 fHs), (zaI aBk cBk 12 fBk)])) (va_Qi (fun (r : Int32) (u : (Nat) × (Nat → Int32)) => match u with | (bz9, fBk9) => bz9 ≤ 12 ∧ (∀ k0, k0 < 12 → ∃ w0 : Nat, w0 < 8 ∧ fBk9 k0 = nI w0) ∧ r = bkR n bz x ∧ bz9 = bkN n bz x) (fun (u : (Nat) × (Nat → Int32)) (t : State) => match u with | (bz9, fBk9) => va_P (dC, dI) vwCl [(zo13rrirrrr h0 sc kp ik bl go ch bo), (zo10ririliiriririr sc aTp (nI ts) aHl (nI nh) ed mi sn aHs (nI n) aWk (nI wz) aBk (nI bz9) aFc), (zaR aHs cHs 8 fHs), (zaI aBk cBk 12 fBk9)] t.heap ∧ va_K (dC, dI) vwCl [(cHs, .object "MistHeaps$Heap"), (cBk, .int)] t ∧ va_D (va_A [(zo13rrirrrr h0 sc kp ik bl go ch bo), (zo10ririliiriririr sc aTp (nI ts) aHl (nI nh) ed mi sn aHs (nI n) aWk (nI wz) aBk (nI bz) aFc), (zaR aHs cHs 8 fHs), (zaI aBk cBk 12 fBk)] sz) [(zo13rrirrrr h0 sc kp ik bl go ch bo), (zo10ririliiriririr sc aTp (nI ts) aHl (nI nh) ed mi sn aHs (nI n) aWk (nI wz) aBk (nI bz9) aFc), (zaR aHs cHs 8 fHs), (zaI aBk cBk 12 fBk9)]) (va_A [(zo13rrirrrr h0 sc kp ik bl go ch bo), (zo10ririliiriririr sc aTp (nI ts) aHl (nI nh) ed mi sn aHs (nI n) aWk (nI wz) aBk (nI bz) aFc), (zaR aHs cHs 8 fHs), (zaI aBk cBk 12 fBk)] sz)) 0 0 (va_A [(zo13rrirrrr h0 sc kp ik bl go ch bo), (zo10ririliiriririr sc aTp (nI ts) aHl (nI nh) ed mi sn aHs (nI n) aWk (nI wz) aBk (nI bz) aFc), (zaR aHs cHs 8 fHs), (zaI aBk cBk 12 fBk)] sz) := by
  refine met_ofQ (cc := cX11_book) (maxL := 2) (ret := (some .int)) (by decide) rfl ?_
  intro p e s m args below meth c s₁ Q B hml hv hQ
  obtain ⟨rfl, hsz, hP, hK, hD0⟩ := hv
  have hx := B.exec
  have hb := B.bytes
  have hr := B.returns
  have hts := atoms_spec (ws := wsX11_book) B.pre
  have hown : s.vm.findClass RX11 = some m.cls := findClass_of_methodNamed B.named
  have hlocks := B.notSynchronized
  subst hsz
  have hD := hD0.self (sz := s.heap.size)
  generalize hAe : va_A [(zo13rrirrrr h0 sc kp ik bl go ch bo), (zo10ririliiriririr sc aTp (nI ts) aHl (nI nh) ed mi sn aHs (nI n) aWk (nI wz) aBk (nI bz) aFc), (zaR aHs cHs 8 fHs), (zaI aBk cBk 12 fBk)] s.heap.size = A at hD hQ ⊢
  have hA : ∀ q : Nat, s.heap.size ≤ q → A q := fun q h => by rw [← hAe]; exact Or.inr h
  have hS : va_S A s.heap s.heap [] := va_S.rf
  have hl := lv_entry [.ref h0, .int x] (n := 2) (Nat.le_of_ble_eq_true rfl)
  rw [lg_entry_eq]
  generalize (lg_sl [.ref h0, .int x] ++ List.replicate (2 - (lg_sl [.ref h0, .int x]).length) Slot.unset).toArray = ls at hl ⊢
  generalize hag : ([.ref h0, .int x] : List Value).toArray = args at hts hQ ⊢
  have hl : lv_has ls 2 [(0, .ref h0), (1, .int x)] := hl
  obtain ⟨H, hH⟩ : ∃ H : Heap, H = s.heap := ⟨_, rfl⟩
  rw [← hH] at hP
  rw [← hH]
  have hS : va_S A s.heap H [] := by rw [hH]; exact hS
  obtain ⟨locs, hlo⟩ : ∃ L : List Loc, L = [] := ⟨_, rfl⟩
  rw [← hlo] at hS
  rw [← hlo]
  clear hH hlo
  refine lv_iload_n hx hb dX11_book_0 rfl (lv_at hl 1 rfl) ?_
  refine lv_iconst (v := (-1)) hx hb dX11_book_1 (by decide) ?_
  refine lv_icmp_ne (tgt := 15) hx hb dX11_book_2 (by decide) (fun c_1 => ?_) (fun c_1 => ?_)
  · skip
    have c1_ : ¬ x = -1 := c_1
    refine lv_aload_n hx hb dX11_book_15 rfl (lv_at hl 0 rfl) ?_
    refine va_get (D := (dC, dI)) (ci := 13) (v := .ref sc) (C := RX11) (T := TX11) (N := 7) hx hb hts kc_xBook_0 hown hK hP 0 rfl rfl 0 (by decide) (hts (.fieldLink RX11 14 "MistHeaps" "scene" "LMistHeaps$Scene;") kc_xBook_1) (fun _ h9 => h9) rfl dX11_book_16 ?_
    refine lv_iload_n hx hb dX11_book_19 rfl (lv_at hl 1 rfl) ?_
    have hPc := hP.sub (ws' := [(zo10ririliiriririr sc aTp (nI ts) aHl (nI nh) ed mi sn aHs (nI n) aWk (nI wz) aBk (nI bz) aFc), (zaR aHs cHs 8 fHs)]) [1, 2] rfl
    have hKc := hK.sub (tys' := [(cHs, .object "MistHeaps$Heap")]) [0] rfl
    refine va_csq (va_runV (As := [.int x]) (rest := []) ⟨hx, hb, hml, hown, hts⟩ (c_heapAt l dC dI sc aTp aHl aHs aWk aBk aFc ts nh n wz bz mi sn x ed cHs fHs ya (zhs) (hn8)) (cwV 1 hts gX11_book_X8_heapAt rfl rfl rfl hd_yX8_heapAt ⟨Nat.le_of_ble_eq_true rfl, Nat.le_of_ble_eq_true rfl⟩) ⟨fun a U g mk q => by obtain ⟨q0, qP, qK⟩ := q; exact ⟨q0, qP, va_K.moved (u := U) (U := U.calling g mk a) (Vm.Alike.refl U.vm) qK⟩, va_recv hK hP (ci := 10) (q := (RX8, TX8, 14)) (q0 := 1) rfl rfl, fun U hU hW => ⟨rfl, by rw [hU]; exact hPc, va_K.moved hW.alike hKc⟩⟩ rfl rfl hl.1 rfl (lv_room (Nat.le_of_ble_eq_true rfl)) dX11_book_20 ⟨Nat.le_of_ble_eq_true rfl, Nat.le_of_ble_eq_true rfl⟩).run (fun r_2 hw_3 => ?_)
    rcases hw_3 with ⟨j_4, hj_5, rfl, rfl⟩ | ⟨rfl, h_7⟩
    · skip
      refine qq_as (v := .ref (ya j_4)) rfl ?_
      refine lv_ifnonnull (tgt := 28) hx hb dX11_book_23 (by decide) ?_
      refine lv_aload_n hx hb dX11_book_28 rfl (lv_at hl 0 rfl) ?_
      refine va_get (D := (dC, dI)) (ci := 13) (v := .ref sc) (C := RX11) (T := TX11) (N := 7) hx hb hts kc_xBook_0 hown hK hP 0 rfl rfl 0 (by decide) (hts (.fieldLink RX11 14 "MistHeaps" "scene" "LMistHeaps$Scene;") kc_xBook_1) (fun _ h9 => h9) rfl dX11_book_29 ?_
      refine va_get (D := (dC, dI)) (ci := 10) (v := .int (nI bz)) (C := RX8) (T := TX8) (N := 14) hx hb hts kc_xBook_2 hown hK hP 1 rfl rfl 12 (by decide) (hts (.fieldLink RX11 221 "MistHeaps$Scene" "bookSize" "I") kc_xBook_3) (fun _ h9 => h9) rfl dX11_book_32 ?_
      refine lv_bipush (v := 12) hx hb dX11_book_35 (by decide) ?_
      refine lv_icmp_lt (tgt := 43) hx hb dX11_book_37 (by decide) (fun c_8 => ?_) (fun c_8 => ?_)
      · skip
        have c_8 : bz < 12 := (nI_ltI (a := bz) (b := 12) (by omega) (by omega)).mp c_8
        refine lv_aload_n hx hb dX11_book_43 rfl (lv_at hl 0 rfl) ?_
        refine va_get (D := (dC, dI)) (ci := 13) (v := .ref sc) (C := RX11) (T := TX11) (N := 7) hx hb hts kc_xBook_0 hown hK hP 0 rfl rfl 0 (by decide) (hts (.fieldLink RX11 14 "MistHeaps" "scene" "LMistHeaps$Scene;") kc_xBook_1) (fun _ h9 => h9) rfl dX11_book_44 ?_
        refine va_get (D := (dC, dI)) (ci := 10) (v := .ref aBk) (C := RX8) (T := TX8) (N := 14) hx hb hts kc_xBook_2 hown hK hP 1 rfl rfl 11 (by decide) (hts (.fieldLink RX11 224 "MistHeaps$Scene" "book" "[I") kc_xBook_4) (fun _ h9 => h9) rfl dX11_book_47 ?_
        refine lv_aload_n hx hb dX11_book_50 rfl (lv_at hl 0 rfl) ?_
        refine va_get (D := (dC, dI)) (ci := 13) (v := .ref sc) (C := RX11) (T := TX11) (N := 7) hx hb hts kc_xBook_0 hown hK hP 0 rfl rfl 0 (by decide) (hts (.fieldLink RX11 14 "MistHeaps" "scene" "LMistHeaps$Scene;") kc_xBook_1) (fun _ h9 => h9) rfl dX11_book_51 ?_
        refine va_get (D := (dC, dI)) (ci := 10) (v := .int (nI bz)) (C := RX8) (T := TX8) (N := 14) hx hb hts kc_xBook_2 hown hK hP 1 rfl rfl 12 (by decide) (hts (.fieldLink RX11 221 "MistHeaps$Scene" "bookSize" "I") kc_xBook_3) (fun _ h9 => h9) rfl dX11_book_54 ?_
        refine lv_iload_n hx hb dX11_book_57 rfl (lv_at hl 1 rfl) ?_
        refine va_iast hx hb hK hP hD hS 3 1 rfl rfl (vp_in_nI (n := bz) (N := 12) (by omega) (by omega)) dX11_book_58 (fun H locs hP hD hS => ?_)
        rw [nI_clamp (n := bz) (by omega)] at hP hD
        have hP : va_P (dC, dI) vwCl [(zo13rrirrrr h0 sc kp ik bl go ch bo), (zo10ririliiriririr sc aTp (nI ts) aHl (nI nh) ed mi sn aHs (nI n) aWk (nI wz) aBk (nI bz) aFc), (zaR aHs cHs 8 fHs), (zaI aBk cBk 12 (upd fBk bz (nI j_4)))] H := hP
        have hD : va_D A [(zo13rrirrrr h0 sc kp ik bl go ch bo), (zo10ririliiriririr sc aTp (nI ts) aHl (nI nh) ed mi sn aHs (nI n) aWk (nI wz) aBk (nI bz) aFc), (zaR aHs cHs 8 fHs), (zaI aBk cBk 12 (upd fBk bz (nI j_4)))] := hD
        refine lv_aload_n hx hb dX11_book_59 rfl (lv_at hl 0 rfl) ?_
        refine va_get (D := (dC, dI)) (ci := 13) (v := .ref sc) (C := RX11) (T := TX11) (N := 7) hx hb hts kc_xBook_0 hown hK hP 0 rfl rfl 0 (by decide) (hts (.fieldLink RX11 14 "MistHeaps" "scene" "LMistHeaps$Scene;") kc_xBook_1) (fun _ h9 => h9) rfl dX11_book_60 ?_
        refine lv_dup hx hb dX11_book_63 rfl ?_
        refine va_get (D := (dC, dI)) (ci := 10) (v := .int (nI bz)) (C := RX8) (T := TX8) (N := 14) hx hb hts kc_xBook_2 hown hK hP 1 rfl rfl 12 (by decide) (hts (.fieldLink RX11 221 "MistHeaps$Scene" "bookSize" "I") kc_xBook_3) (fun _ h9 => h9) rfl dX11_book_64 ?_
        refine lv_iconst (v := 1) hx hb dX11_book_67 (by decide) ?_
        refine lv_iadd hx hb dX11_book_68 ?_
        refine qi_as (y := nI (bz + 1)) (nI_add bz 1) ?_
        refine va_put (D := (dC, dI)) (ci := 10) (v := .int (nI (bz + 1))) (ty := .int) (C := RX8) (T := TX8) (N := 14) hx hb hts kc_xBook_2 tyX8 tyX8_ok nmX8 hown hK hP hD hS 1 rfl rfl 12 (by decide) (hts (.fieldLink RX11 221 "MistHeaps$Scene" "bookSize" "I") kc_xBook_3) (fun _ h9 => h9) rfl (by decide +kernel) rfl rfl (Nat.le_of_ble_eq_true rfl) dX11_book_69 (fun H locs hP hD hS => ?_)
        have hP : va_P (dC, dI) vwCl [(zo13rrirrrr h0 sc kp ik bl go ch bo), (zo10ririliiriririr sc aTp (nI ts) aHl (nI nh) ed mi sn aHs (nI n) aWk (nI wz) aBk (nI (bz + 1)) aFc), (zaR aHs cHs 8 fHs), (zaI aBk cBk 12 (upd fBk bz (nI j_4)))] H := hP
        have hD : va_D A [(zo13rrirrrr h0 sc kp ik bl go ch bo), (zo10ririliiriririr sc aTp (nI ts) aHl (nI nh) ed mi sn aHs (nI n) aWk (nI wz) aBk (nI (bz + 1)) aFc), (zaR aHs cHs 8 fHs), (zaI aBk cBk 12 (upd fBk bz (nI j_4)))] := hD
        refine lv_aload_n hx hb dX11_book_72 rfl (lv_at hl 0 rfl) ?_
        refine va_get (D := (dC, dI)) (ci := 13) (v := .ref sc) (C := RX11) (T := TX11) (N := 7) hx hb hts kc_xBook_0 hown hK hP 0 rfl rfl 0 (by decide) (hts (.fieldLink RX11 14 "MistHeaps" "scene" "LMistHeaps$Scene;") kc_xBook_1) (fun _ h9 => h9) rfl dX11_book_73 ?_
        refine va_get (D := (dC, dI)) (ci := 10) (v := .int (nI (bz + 1))) (C := RX8) (T := TX8) (N := 14) hx hb hts kc_xBook_2 hown hK hP 1 rfl rfl 12 (by decide) (hts (.fieldLink RX11 221 "MistHeaps$Scene" "bookSize" "I") kc_xBook_3) (fun _ h9 => h9) rfl dX11_book_76 ?_
        rw [hQ]
        have hP9 := hP.sub (ws' := [(zo13rrirrrr h0 sc kp ik bl go ch bo), (zo10ririliiriririr sc aTp (nI ts) aHl (nI nh) ed mi sn aHs (nI n) aWk (nI wz) aBk (nI (bz + 1)) aFc), (zaR aHs cHs 8 fHs), (zaI aBk cBk 12 (upd fBk bz (nI j_4)))]) [0, 1, 2, 3] rfl
        have hD9 := hD.sub (ws' := [(zo13rrirrrr h0 sc kp ik bl go ch bo), (zo10ririliiriririr sc aTp (nI ts) aHl (nI nh) ed mi sn aHs (nI n) aWk (nI wz) aBk (nI (bz + 1)) aFc), (zaR aHs cHs 8 fHs), (zaI aBk cBk 12 (upd fBk bz (nI j_4)))]) [0, 1, 2, 3] (by decide) rfl
        have hK9 := hK.sub (tys' := [(cHs, .object "MistHeaps$Heap"), (cBk, .int)]) [0, 1] rfl
        exact W.iret (v := nI (bz + 1)) hx hb hr (fun tQ htQ hWQ => ⟨⟨(nI (bz + 1)), ((bz + 1), (upd fBk bz (nI j_4))), rfl, ⟨by omega, bk_up2 zbk (by omega), (bo_one (n := n) (bz := bz) (j := j_4) hn8 (by omega) (by omega)).1, (bo_one (n := n) (bz := bz) (j := j_4) hn8 (by omega) (by omega)).2⟩, by rw [htQ]; exact hP9, va_K.moved hWQ.alike hK9, hD9⟩, hS.F htQ⟩) hS.2.2 dX11_book_79
      · skip
        have c_8 : ¬ bz < 12 := fun q => c_8 ((nI_ltI (a := bz) (b := 12) (by omega) (by omega)).mpr q)
        refine lv_bipush (v := (-4)) hx hb dX11_book_40 (by decide) ?_
        rw [hQ]
        have hP9 := hP.sub (ws' := [(zo13rrirrrr h0 sc kp ik bl go ch bo), (zo10ririliiriririr sc aTp (nI ts) aHl (nI nh) ed mi sn aHs (nI n) aWk (nI wz) aBk (nI bz) aFc), (zaR aHs cHs 8 fHs), (zaI aBk cBk 12 fBk)]) [0, 1, 2, 3] rfl
        have hD9 := hD.sub (ws' := [(zo13rrirrrr h0 sc kp ik bl go ch bo), (zo10ririliiriririr sc aTp (nI ts) aHl (nI nh) ed mi sn aHs (nI n) aWk (nI wz) aBk (nI bz) aFc), (zaR aHs cHs 8 fHs), (zaI aBk cBk 12 fBk)]) [0, 1, 2, 3] (by decide) rfl
        have hK9 := hK.sub (tys' := [(cHs, .object "MistHeaps$Heap"), (cBk, .int)]) [0, 1] rfl
        exact W.iret (v := (-4)) hx hb hr (fun tQ htQ hWQ => ⟨⟨(-4), (bz, fBk), rfl, ⟨by omega, zbk, (bo_full (n := n) (bz := bz) (j := j_4) hn8 (by omega) (by omega)).1, (bo_full (n := n) (bz := bz) (j := j_4) hn8 (by omega) (by omega)).2⟩, by rw [htQ]; exact hP9, va_K.moved hWQ.alike hK9, hD9⟩, hS.F htQ⟩) hS.2.2 dX11_book_42
    · skip
      refine qq_as (v := .null) rfl ?_
      refine lv_ifnonnullN hx hb dX11_book_23 ?_
      refine lv_iconst (v := (-1)) hx hb dX11_book_26 (by decide) ?_
      rw [hQ]
      have hP9 := hP.sub (ws' := [(zo13rrirrrr h0 sc kp ik bl go ch bo), (zo10ririliiriririr sc aTp (nI ts) aHl (nI nh) ed mi sn aHs (nI n) aWk (nI wz) aBk (nI bz) aFc), (zaR aHs cHs 8 fHs), (zaI aBk cBk 12 fBk)]) [0, 1, 2, 3] rfl
      have hD9 := hD.sub (ws' := [(zo13rrirrrr h0 sc kp ik bl go ch bo), (zo10ririliiriririr sc aTp (nI ts) aHl (nI nh) ed mi sn aHs (nI n) aWk (nI wz) aBk (nI bz) aFc), (zaR aHs cHs 8 fHs), (zaI aBk cBk 12 fBk)]) [0, 1, 2, 3] (by decide) rfl
      have hK9 := hK.sub (tys' := [(cHs, .object "MistHeaps$Heap"), (cBk, .int)]) [0, 1] rfl
      exact W.iret (v := (-1)) hx hb hr (fun tQ htQ hWQ => ⟨⟨(-1), (bz, fBk), rfl, ⟨by omega, zbk, (bo_none (n := n) (bz := bz) (x := x) c1_ (by assumption)).1, (bo_none (n := n) (bz := bz) (x := x) c1_ (by assumption)).2⟩, by rw [htQ]; exact hP9, va_K.moved hWQ.alike hK9, hD9⟩, hS.F htQ⟩) hS.2.2 dX11_book_27
  · skip
    have c1_ : x = -1 := c_1
    refine lv_aload_n hx hb dX11_book_5 rfl (lv_at hl 0 rfl) ?_
    refine va_get (D := (dC, dI)) (ci := 13) (v := .ref sc) (C := RX11) (T := TX11) (N := 7) hx hb hts kc_xBook_0 hown hK hP 0 rfl rfl 0 (by decide) (hts (.fieldLink RX11 14 "MistHeaps" "scene" "LMistHeaps$Scene;") kc_xBook_1) (fun _ h9 => h9) rfl dX11_book_6 ?_
    refine lv_iconst (v := 0) hx hb dX11_book_9 (by decide) ?_
    refine va_put (D := (dC, dI)) (ci := 10) (v := .int 0) (ty := .int) (C := RX8) (T := TX8) (N := 14) hx hb hts kc_xBook_2 tyX8 tyX8_ok nmX8 hown hK hP hD hS 1 rfl rfl 12 (by decide) (hts (.fieldLink RX11 221 "MistHeaps$Scene" "bookSize" "I") kc_xBook_3) (fun _ h9 => h9) rfl (by decide +kernel) rfl rfl (Nat.le_of_ble_eq_true rfl) dX11_book_10 (fun H locs hP hD hS => ?_)
    have hP : va_P (dC, dI) vwCl [(zo13rrirrrr h0 sc kp ik bl go ch bo), (zo10ririliiriririr sc aTp (nI ts) aHl (nI nh) ed mi sn aHs (nI n) aWk (nI wz) aBk 0 aFc), (zaR aHs cHs 8 fHs), (zaI aBk cBk 12 fBk)] H := hP
    have hD : va_D A [(zo13rrirrrr h0 sc kp ik bl go ch bo), (zo10ririliiriririr sc aTp (nI ts) aHl (nI nh) ed mi sn aHs (nI n) aWk (nI wz) aBk 0 aFc), (zaR aHs cHs 8 fHs), (zaI aBk cBk 12 fBk)] := hD
    refine lv_iconst (v := 0) hx hb dX11_book_13 (by decide) ?_
    rw [hQ]
    have hP9 := hP.sub (ws' := [(zo13rrirrrr h0 sc kp ik bl go ch bo), (zo10ririliiriririr sc aTp (nI ts) aHl (nI nh) ed mi sn aHs (nI n) aWk (nI wz) aBk 0 aFc), (zaR aHs cHs 8 fHs), (zaI aBk cBk 12 fBk)]) [0, 1, 2, 3] rfl
    have hD9 := hD.sub (ws' := [(zo13rrirrrr h0 sc kp ik bl go ch bo), (zo10ririliiriririr sc aTp (nI ts) aHl (nI nh) ed mi sn aHs (nI n) aWk (nI wz) aBk 0 aFc), (zaR aHs cHs 8 fHs), (zaI aBk cBk 12 fBk)]) [0, 1, 2, 3] (by decide) rfl
    have hK9 := hK.sub (tys' := [(cHs, .object "MistHeaps$Heap"), (cBk, .int)]) [0, 1] rfl
    exact W.iret (v := 0) hx hb hr (fun tQ htQ hWQ => ⟨⟨0, (0, fBk), rfl, ⟨by omega, zbk, (bo_clear (n := n) (bz := bz) (x := x) c1_).1, (bo_clear (n := n) (bz := bz) (x := x) c1_).2⟩, by rw [htQ]; exact hP9, va_K.moved hWQ.alike hK9, hD9⟩, hS.F htQ⟩) hS.2.2 dX11_book_14
