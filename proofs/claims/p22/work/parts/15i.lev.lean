
theorem kc_xPlain2_0 : ∀ w ∈ wsX50, w ∈ wsX5_readPlain := fun w h => List.mem_cons_of_mem _ (gin_wsX50 w h)
theorem kc_xPlain2_1 : (.fieldLink RX5 34 "MistHeaps$Hill" "at" "I" : Cond) ∈ wsX5_readPlain := kc_of 124 rfl rfl rfl
set_option maxHeartbeats 4000000 in
set_option maxRecDepth 100000 in
theorem c_xPlain2 (l : Launch) (dC : Nat → ClassId) (dI : Nat → Nat → Nat) (sK sV : Nat → Nat) (bl : Nat) (aTp : Nat) (eW : Nat) (eA : Nat) (eE : Nat) (eC : Nat) (ecl : Nat) (ecd : Nat) (esg : Int32) (cTp : ClassId) (ceC : ClassId) (fTp : Nat → Int32) (feC : Nat → Int32) (ez : Nat) (ep : Nat) (em : Nat) (ss : Nat → Nat) (kt : List Nat) (sz : Nat) (hez : ez ≤ 100) (hep : ep ≤ ez) (hem : em ≤ 99) (hXT : XT feC ecd kt ep) (zeC : ∀ k0, k0 < 100 → okC (feC k0)) (gX : TX fTp ez ss) : Met l yX5_readPlain wsX5_readPlain ({ frames := 14, cells := 0, slots := 0, locals := 311 } : Room) (va_Pc [.ref bl, .int 2] (fun U => U.heap.size = sz ∧ va_P (dC, dI) vwCl [(zo7iirrrririii bl esg (nI ecl) eW eA eE eC (nI ecd) aTp (nI ez) (nI ep) (nI em)), (zaI aTp cTp 100 fTp), (zaI eC ceC 100 feC)] U.heap ∧ va_K (dC, dI) vwCl [(cTp, .int), (ceC, .int)] U ∧ va_D (fun _ => True) [(zo7iirrrririii bl esg (nI ecl) eW eA eE eC (nI ecd) aTp (nI ez) (nI ep) (nI em)), (zaI aTp cTp 100 fTp), (zaI eC ceC 100 feC)] ∧ Gs sK sV (va_A [(zo7iirrrririii bl esg (nI ecl) eW eA eE eC (nI ecd) aTp (nI ez) (nI ep) (nI em)), (zaI aTp cTp 100 fTp), (zaI eC ceC 100 feC)] sz) U)) (va_Qi (fun (r : Int32) (u : (Nat) × (Nat) × (Nat) × (Nat → Int32)) => match u with | (ecd9, ep9, em9, feC9) => (r = 1 ∧ ∃ L0 : List Nat, pFac ss 3 ep = (some L0, ep9) ∧ ep + 3 ≤ ep9 ∧ ep9 ≤ ez ∧ em9 ≤ 99 ∧ L0.length + ep ≤ ep9 ∧ XT feC9 ecd9 (kt ++ L0) ep9 ∧ ∀ k0, k0 < 100 → okC (feC9 k0)) ∨ (r = 0 ∧ pFac ss 3 ep = (none, ep9) ∧ ep9 ≤ ez + 2 ∧ em9 ≤ 99 ∧ ecd9 ≤ 100 ∧ ∀ k0, k0 < 100 → okC (feC9 k0))) (fun (u : (Nat) × (Nat) × (Nat) × (Nat → Int32)) (t : State) => match u with | (ecd9, ep9, em9, feC9) => va_P (dC, dI) vwCl [(zo7iirrrririii bl esg (nI ecl) eW eA eE eC (nI ecd9) aTp (nI ez) (nI ep9) (nI em9)), (zaI aTp cTp 100 fTp), (zaI eC ceC 100 feC9)] t.heap ∧ va_K (dC, dI) vwCl [(cTp, .int), (ceC, .int)] t ∧ va_D (va_A [(zo7iirrrririii bl esg (nI ecl) eW eA eE eC (nI ecd) aTp (nI ez) (nI ep) (nI em)), (zaI aTp cTp 100 fTp), (zaI eC ceC 100 feC)] sz) [(zo7iirrrririii bl esg (nI ecl) eW eA eE eC (nI ecd9) aTp (nI ez) (nI ep9) (nI em9)), (zaI aTp cTp 100 fTp), (zaI eC ceC 100 feC9)]) (va_A [(zo7iirrrririii bl esg (nI ecl) eW eA eE eC (nI ecd) aTp (nI ez) (nI ep) (nI em)), (zaI aTp cTp 100 fTp), (zaI eC ceC 100 feC)] sz)) 0 0 (va_A [(zo7iirrrririii bl esg (nI ecl) eW eA eE eC (nI ecd) aTp (nI ez) (nI ep) (nI em)), (zaI aTp cTp 100 fTp), (zaI eC ceC 100 feC)] sz) := by
  refine met_ofQ (cc := cX5_readPlain) (maxL := 3) (ret := (some .boolean)) (by decide) rfl ?_
  intro p e s m args below meth c s₁ Q B hml hv hQ
  obtain ⟨rfl, hsz, hP, hK, hD0, hE⟩ := hv
  have hx := B.exec
  have hb := B.bytes
  have hr := B.returns
  have hts := atoms_spec (ws := wsX5_readPlain) B.pre
  have hown : s.vm.findClass RX5 = some m.cls := findClass_of_methodNamed B.named
  have hlocks := B.notSynchronized
  subst hsz
  have hD := hD0.self (sz := s.heap.size)
  generalize hAe : va_A [(zo7iirrrririii bl esg (nI ecl) eW eA eE eC (nI ecd) aTp (nI ez) (nI ep) (nI em)), (zaI aTp cTp 100 fTp), (zaI eC ceC 100 feC)] s.heap.size = A at hD hQ hE ⊢
  have hA : ∀ q : Nat, s.heap.size ≤ q → A q := fun q h => by rw [← hAe]; exact Or.inr h
  have hS : va_S A s.heap s.heap [] := va_S.rf
  have hl := lv_entry [.ref bl, .int 2] (n := 3) (Nat.le_of_ble_eq_true rfl)
  rw [lg_entry_eq]
  generalize (lg_sl [.ref bl, .int 2] ++ List.replicate (3 - (lg_sl [.ref bl, .int 2]).length) Slot.unset).toArray = ls at hl ⊢
  generalize hag : ([.ref bl, .int 2] : List Value).toArray = args at hts hQ ⊢
  have hl : lv_has ls 3 [(0, .ref bl), (1, .int 2)] := hl
  obtain ⟨H, hH⟩ : ∃ H : Heap, H = s.heap := ⟨_, rfl⟩
  rw [← hH] at hP
  rw [← hH]
  have hS : va_S A s.heap H [] := by rw [hH]; exact hS
  obtain ⟨locs, hlo⟩ : ∃ L : List Loc, L = [] := ⟨_, rfl⟩
  rw [← hlo] at hS
  rw [← hlo]
  clear hH hlo
  refine lv_aload_n hx hb dX5_readPlain_0 rfl (lv_at hl 0 rfl) ?_
  have hPc := hP.sub (ws' := [(zo7iirrrririii bl esg (nI ecl) eW eA eE eC (nI ecd) aTp (nI ez) (nI ep) (nI em)), (zaI aTp cTp 100 fTp)]) [0, 1] rfl
  have hKc := hK.sub (tys' := [(cTp, .int)]) [0] rfl
  refine vp_callSi (va_runV (As := []) (rest := []) ⟨hx, hb, hml, hown, hts⟩ (c_xSign l dC dI bl aTp eW eA eE eC ecl ecd esg cTp fTp ez ep em ss (hez) (by omega) (gX)) (cwV 0 hts gX5_readPlain_X5_sign rfl rfl rfl hd_yX5_sign ⟨Nat.le_of_ble_eq_true rfl, Nat.le_of_ble_eq_true rfl⟩) ⟨fun a U g mk q => by obtain ⟨q0, qP, qK⟩ := q; exact ⟨q0, qP, va_K.moved (u := U) (U := U.calling g mk a) (Vm.Alike.refl U.vm) qK⟩, va_recv hK hP (ci := 7) (q := (RX5, TX5, 11)) (q0 := 0) rfl rfl, fun U hU hW => ⟨rfl, by rw [hU]; exact hPc, va_K.moved hW.alike hKc⟩⟩ rfl rfl hl.1 rfl (lv_room (Nat.le_of_ble_eq_true rfl)) dX5_readPlain_1 ⟨Nat.le_of_ble_eq_true rfl, Nat.le_of_ble_eq_true rfl⟩).run (fun r_1 hw_2 => ?_)
  obtain rfl := hw_2
  have hs8 := gX.2.2 (ep)
  refine lv_istore_n (lv' := [(2, .int (nI (ss ep))), (0, .ref bl), (1, .int 2)]) hx hb dX5_readPlain_4 rfl hl (by decide) rfl (fun ls hl => ?_)
  refine lv_iload_n hx hb dX5_readPlain_5 rfl (lv_at hl 0 rfl) ?_
  refine lv_bipush (v := 33) hx hb dX5_readPlain_6 (by decide) ?_
  refine lv_icmp_eq (tgt := 22) hx hb dX5_readPlain_8 (by decide) (fun c_3 => ?_) (fun c_3 => ?_)
  · skip
    have c_3 : (ss ep) = 33 := (nI_eq (a := (ss ep)) (b := 33) (by omega) (by omega)).mp c_3
    have hc : ss ep = 33 := c_3
    have hlt : ep < ez := Nat.lt_of_not_le (fun z => by have := gX.2.1 ep z; omega)
    refine lv_iload_n hx hb dX5_readPlain_22 rfl (lv_at hl 2 rfl) ?_
    refine lv_iconst (v := 5) hx hb dX5_readPlain_23 (by decide) ?_
    refine lv_icmp_lt (tgt := 29) hx hb dX5_readPlain_24 (by decide) (fun _ => ?_) (fun c_4 => absurd c_4 (by decide))
    refine lv_aload_n hx hb dX5_readPlain_29 rfl (lv_at hl 1 rfl) ?_
    refine lv_dup hx hb dX5_readPlain_30 rfl ?_
    refine va_get (D := (dC, dI)) (ci := 7) (v := .int (nI ep)) (C := RX5) (T := TX5) (N := 11) hx hb hts kc_xPlain2_0 hown hK hP 0 rfl rfl 9 (by decide) (hts (.fieldLink RX5 34 "MistHeaps$Hill" "at" "I") kc_xPlain2_1) (fun _ h9 => h9) rfl dX5_readPlain_31 ?_
    refine lv_iconst (v := 1) hx hb dX5_readPlain_34 (by decide) ?_
    refine lv_iadd hx hb dX5_readPlain_35 ?_
    refine qi_as (y := nI (ep + 1)) (nI_add ep 1) ?_
    refine va_put (D := (dC, dI)) (ci := 7) (v := .int (nI (ep + 1))) (ty := .int) (C := RX5) (T := TX5) (N := 11) hx hb hts kc_xPlain2_0 tyX5 tyX5_ok nmX5 hown hK hP hD hS 0 rfl rfl 9 (by decide) (hts (.fieldLink RX5 34 "MistHeaps$Hill" "at" "I") kc_xPlain2_1) (fun _ h9 => h9) rfl (by decide +kernel) rfl rfl (Nat.le_of_ble_eq_true rfl) dX5_readPlain_36 (fun H locs hP hD hS => ?_)
    have hP : va_P (dC, dI) vwCl [(zo7iirrrririii bl esg (nI ecl) eW eA eE eC (nI ecd) aTp (nI ez) (nI (ep + 1)) (nI em)), (zaI aTp cTp 100 fTp), (zaI eC ceC 100 feC)] H := hP
    have hD : va_D A [(zo7iirrrririii bl esg (nI ecl) eW eA eE eC (nI ecd) aTp (nI ez) (nI (ep + 1)) (nI em)), (zaI aTp cTp 100 fTp), (zaI eC ceC 100 feC)] := hD
    refine lv_iload_n hx hb dX5_readPlain_39 rfl (lv_at hl 0 rfl) ?_
    refine lv_bipush (v := 40) hx hb dX5_readPlain_40 (by decide) ?_
    refine lv_icmp_ne (tgt := 70) hx hb dX5_readPlain_42 (by decide) (fun c_5 => ?_) (fun c_5 => absurd c_5 (fun z9 => absurd ((nI_eq (a := ss ep) (b := 40) (by omega) (by omega)).mp z9) (by omega)))
    have c_5 : ¬ (ss ep) = 40 := fun q => c_5 ((nI_eq (a := (ss ep)) (b := 40) (by omega) (by omega)).mpr q)
    refine lv_aload_n hx hb dX5_readPlain_70 rfl (lv_at hl 1 rfl) ?_
    refine lv_iload_n hx hb dX5_readPlain_71 rfl (lv_at hl 2 rfl) ?_
    refine lv_iconst (v := 1) hx hb dX5_readPlain_72 (by decide) ?_
    refine lv_iadd hx hb dX5_readPlain_73 ?_
    refine qi_as (y := 3) (by decide) ?_
    have hPc := hP.sub (ws' := [(zo7iirrrririii bl esg (nI ecl) eW eA eE eC (nI ecd) aTp (nI ez) (nI (ep + 1)) (nI em)), (zaI aTp cTp 100 fTp), (zaI eC ceC 100 feC)]) [0, 1, 2] rfl
    have hDc := hD.sub (ws' := [(zo7iirrrririii bl esg (nI ecl) eW eA eE eC (nI ecd) aTp (nI ez) (nI (ep + 1)) (nI em)), (zaI aTp cTp 100 fTp), (zaI eC ceC 100 feC)]) [0, 1, 2] (by decide) rfl
    have hKc := hK.sub (tys' := [(cTp, .int), (ceC, .int)]) [0, 1] rfl
    have hFc := va_free (wc := [(zo7iirrrririii bl esg (nI ecl) eW eA eE eC (nI ecd) aTp (nI ez) (nI (ep + 1)) (nI em)), (zaI aTp cTp 100 fTp), (zaI eC ceC 100 feC)]) hD hS hA [0, 1, 2] rfl
    refine va_calli (va_runV (As := [.int 3]) (rest := []) ⟨hx, hb, hml, hown, hts⟩ (c_xPlain3 l dC dI sK sV bl aTp eW eA eE eC ecl ecd esg cTp ceC fTp feC ez (ep + 1) em ss kt H.size (hez) (by omega) (by omega) ((hXT).mono (by omega)) (zeC) (gX)) (cwV 1 hts gX5_readPlain_X5_readPlain rfl rfl rfl hd_yX5_readPlain ⟨Nat.le_of_ble_eq_true rfl, Nat.le_of_ble_eq_true rfl⟩) ⟨fun a U g mk q => by obtain ⟨q0, q1, qP, qK, qD, qhE⟩ := q; exact ⟨q0, q1, qP, va_K.moved (u := U) (U := U.calling g mk a) (Vm.Alike.refl U.vm) qK, qD, qhE.same rfl rfl⟩, va_recv hK hP (ci := 7) (q := (RX5, TX5, 11)) (q0 := 0) rfl rfl, fun U hU hW => ⟨rfl, by rw [hU], by rw [hU]; exact hPc, va_K.moved hW.alike hKc, hDc.weaken (fun _ _ _ _ => trivial), hE.call hS hU hW (fun q h => hFc q h)⟩⟩ rfl rfl hl.1 rfl (lv_room (Nat.le_of_ble_eq_true rfl)) dX5_readPlain_74 ⟨Nat.le_of_ble_eq_true rfl, Nat.le_of_ble_eq_true rfl⟩) hS (fun q _ h => hFc q h) hFc (fun r_6 u tC H1 locs htC hvm hw_7 hB hz1 hk1 hS => ?_)
    obtain ⟨ecd9_8, ep9_9, em9_10, feC9_11⟩ := u
    try dsimp only at hw_7 hB
    obtain ⟨hP1, hK1, hD1⟩ := hB
    rw [htC] at hP1
    have hK1 := va_K.moved hvm.symm hK1
    obtain ⟨hP, hD⟩ := va_join (wr := []) (w1 := [(zo7iirrrririii bl esg (nI ecl) eW eA eE eC (nI ecd9_8) aTp (nI ez) (nI ep9_9) (nI em9_10)), (zaI aTp cTp 100 fTp), (zaI eC ceC 100 feC9_11)]) hP hD [0, 1, 2] [] rfl rfl (by decide) (by decide) hk1 hFc hP1 hD1
    have hK := (hK.sub (tys' := []) [] rfl).app hK1
    generalize H1 = H at hP hS ⊢
    have hP : va_P (dC, dI) vwCl [(zo7iirrrririii bl esg (nI ecl) eW eA eE eC (nI ecd9_8) aTp (nI ez) (nI ep9_9) (nI em9_10)), (zaI aTp cTp 100 fTp), (zaI eC ceC 100 feC9_11)] H := hP
    have hD : va_D A [(zo7iirrrririii bl esg (nI ecl) eW eA eE eC (nI ecd9_8) aTp (nI ez) (nI ep9_9) (nI em9_10)), (zaI aTp cTp 100 fTp), (zaI eC ceC 100 feC9_11)] := hD
    have hK : va_K (dC, dI) vwCl [(cTp, .int), (ceC, .int)] s := hK
    rcases hw_7 with ⟨rfl, L_12, eP_13, h_14, h_15, h_16, h_17, hX_19, hC_18⟩ | ⟨rfl, eP_13, h_14, h_15, h_16, hC_18⟩
    · skip
      refine lv_if_ne (tgt := 82) hx hb dX5_readPlain_77 (by decide) (fun _ => ?_) (fun c_20 => absurd c_20 (by decide))
      refine lv_aload_n hx hb dX5_readPlain_82 rfl (lv_at hl 1 rfl) ?_
      refine lv_iconst (v := (-1)) hx hb dX5_readPlain_83 (by decide) ?_
      have hPc := hP.sub (ws' := [(zo7iirrrririii bl esg (nI ecl) eW eA eE eC (nI ecd9_8) aTp (nI ez) (nI ep9_9) (nI em9_10)), (zaI eC ceC 100 feC9_11)]) [0, 2] rfl
      have hDc := hD.sub (ws' := [(zo7iirrrririii bl esg (nI ecl) eW eA eE eC (nI ecd9_8) aTp (nI ez) (nI ep9_9) (nI em9_10)), (zaI eC ceC 100 feC9_11)]) [0, 2] (by decide) rfl
      have hKc := hK.sub (tys' := [(ceC, .int)]) [1] rfl
      have hFc := va_free (wc := [(zo7iirrrririii bl esg (nI ecl) eW eA eE eC (nI ecd9_8) aTp (nI ez) (nI ep9_9) (nI em9_10)), (zaI eC ceC 100 feC9_11)]) hD hS hA [0, 2] rfl
      refine va_callv (va_runV (As := [.int (-1)]) (rest := []) ⟨hx, hb, hml, hown, hts⟩ (c_xCode l dC dI bl aTp eW eA eE eC ecl ecd9_8 (-1) esg ceC feC9_11 ez ep9_9 em9_10 (kt ++ L_12) 1801 H.size ((hX_19).mono (by omega)) (by have h6 := (hX_19).1; have h7 := (hX_19).2.1; have h8 := hXT.1; have h9 := hXT.2.1; (try simp only [List.length_append] at h6); omega) (hC_18) (Or.inl rfl) (by decide)) (cwV 1 hts gX5_readPlain_X5_code rfl rfl rfl hd_yX5_code ⟨Nat.le_of_ble_eq_true rfl, Nat.le_of_ble_eq_true rfl⟩) ⟨fun a U g mk q => by obtain ⟨q0, q1, qP, qK, qD⟩ := q; exact ⟨q0, q1, qP, va_K.moved (u := U) (U := U.calling g mk a) (Vm.Alike.refl U.vm) qK, qD⟩, va_recv hK hP (ci := 7) (q := (RX5, TX5, 11)) (q0 := 0) rfl rfl, fun U hU hW => ⟨rfl, by rw [hU], by rw [hU]; exact hPc, va_K.moved hW.alike hKc, hDc.weaken (fun _ _ _ _ => trivial)⟩⟩ rfl rfl hl.1 rfl (lv_room (Nat.le_of_ble_eq_true rfl)) dX5_readPlain_84 ⟨Nat.le_of_ble_eq_true rfl, Nat.le_of_ble_eq_true rfl⟩) hS (fun q _ h => hFc q h) hFc (fun u tC H1 locs htC hvm hw_22 hB hz1 hk1 hS => ?_)
      obtain ⟨ecd9_23, feC9_24⟩ := u
      try dsimp only at hw_22 hB
      obtain ⟨hP1, hK1, hD1⟩ := hB
      rw [htC] at hP1
      have hK1 := va_K.moved hvm.symm hK1
      obtain ⟨hP, hD⟩ := va_join (wr := [(zaI aTp cTp 100 fTp)]) (w1 := [(zo7iirrrririii bl esg (nI ecl) eW eA eE eC (nI ecd9_23) aTp (nI ez) (nI ep9_9) (nI em9_10)), (zaI eC ceC 100 feC9_24)]) hP hD [0, 2] [1] rfl rfl (by decide) (by decide) hk1 hFc hP1 hD1
      have hK := (hK.sub (tys' := [(cTp, .int)]) [0] rfl).app hK1
      generalize H1 = H at hP hS ⊢
      have hP : va_P (dC, dI) vwCl [(zaI aTp cTp 100 fTp), (zo7iirrrririii bl esg (nI ecl) eW eA eE eC (nI ecd9_23) aTp (nI ez) (nI ep9_9) (nI em9_10)), (zaI eC ceC 100 feC9_24)] H := hP
      have hD : va_D A [(zaI aTp cTp 100 fTp), (zo7iirrrririii bl esg (nI ecl) eW eA eE eC (nI ecd9_23) aTp (nI ez) (nI ep9_9) (nI em9_10)), (zaI eC ceC 100 feC9_24)] := hD
      have hK : va_K (dC, dI) vwCl [(cTp, .int), (ceC, .int)] s := hK
      obtain ⟨e_25, hC_26, h_27⟩ := hw_22
      obtain rfl := (e_25).symm
      have hX_28 : XT feC9_24 (ecd9_8 + 1) ((kt ++ L_12) ++ [1801]) (ep9_9) := ⟨by rw [List.length_append, (hX_19).1]; rfl, by have h6 := (hX_19).1; have h7 := (hX_19).2.1; have h8 := hXT.1; have h9 := hXT.2.1; (try simp only [List.length_append] at h6); omega, h_27⟩
      refine lv_iconst (v := 1) hx hb dX5_readPlain_87 (by decide) ?_
      rw [hQ]
      have hP9 := hP.sub (ws' := [(zo7iirrrririii bl esg (nI ecl) eW eA eE eC (nI (ecd9_8 + 1)) aTp (nI ez) (nI ep9_9) (nI em9_10)), (zaI aTp cTp 100 fTp), (zaI eC ceC 100 feC9_24)]) [1, 0, 2] rfl
      have hD9 := hD.sub (ws' := [(zo7iirrrririii bl esg (nI ecl) eW eA eE eC (nI (ecd9_8 + 1)) aTp (nI ez) (nI ep9_9) (nI em9_10)), (zaI aTp cTp 100 fTp), (zaI eC ceC 100 feC9_24)]) [1, 0, 2] (by decide) rfl
      have hK9 := hK.sub (tys' := [(cTp, .int), (ceC, .int)]) [0, 1] rfl
      exact W.zret (v := 1) hx hb hr rfl (fun tQ htQ hWQ => ⟨⟨1, ((ecd9_8 + 1), ep9_9, em9_10, feC9_24), rfl, Or.inl ⟨rfl, (L_12 ++ [1801]), pf_n1 (l := 2) hc eP_13, by omega, by omega, by omega, by (try simp only [List.length_append, List.length_cons, List.length_nil]); omega, XT.as ((hX_28).mono (by omega)), hC_26⟩, by rw [htQ]; exact hP9, va_K.moved hWQ.alike hK9, hD9⟩, hS.F htQ⟩) hS.2.2 dX5_readPlain_88
    · skip
      refine lv_if_ne (tgt := 82) hx hb dX5_readPlain_77 (by decide) (fun c_29 => absurd c_29 (by decide)) (fun _ => ?_)
      refine lv_iconst (v := 0) hx hb dX5_readPlain_80 (by decide) ?_
      rw [hQ]
      have hP9 := hP.sub (ws' := [(zo7iirrrririii bl esg (nI ecl) eW eA eE eC (nI ecd9_8) aTp (nI ez) (nI ep9_9) (nI em9_10)), (zaI aTp cTp 100 fTp), (zaI eC ceC 100 feC9_11)]) [0, 1, 2] rfl
      have hD9 := hD.sub (ws' := [(zo7iirrrririii bl esg (nI ecl) eW eA eE eC (nI ecd9_8) aTp (nI ez) (nI ep9_9) (nI em9_10)), (zaI aTp cTp 100 fTp), (zaI eC ceC 100 feC9_11)]) [0, 1, 2] (by decide) rfl
      have hK9 := hK.sub (tys' := [(cTp, .int), (ceC, .int)]) [0, 1] rfl
      exact W.zret (v := 0) hx hb hr rfl (fun tQ htQ hWQ => ⟨⟨0, (ecd9_8, ep9_9, em9_10, feC9_11), rfl, Or.inr ⟨rfl, pf_n0 (l := 2) hc eP_13, by omega, by omega, by first | omega | (have := (hXT).2.1; omega), hC_18⟩, by rw [htQ]; exact hP9, va_K.moved hWQ.alike hK9, hD9⟩, hS.F htQ⟩) hS.2.2 dX5_readPlain_81
  · skip
    have c_3 : ¬ (ss ep) = 33 := fun q => c_3 ((nI_eq (a := (ss ep)) (b := 33) (by omega) (by omega)).mpr q)
    have hn33 : ¬ ss ep = 33 := c_3
    refine lv_iload_n hx hb dX5_readPlain_11 rfl (lv_at hl 0 rfl) ?_
    refine lv_bipush (v := 40) hx hb dX5_readPlain_12 (by decide) ?_
    refine lv_icmp_eq (tgt := 22) hx hb dX5_readPlain_14 (by decide) (fun c_30 => ?_) (fun c_30 => ?_)
    · skip
      have c_30 : (ss ep) = 40 := (nI_eq (a := (ss ep)) (b := 40) (by omega) (by omega)).mp c_30
      have hc : ss ep = 40 := c_30
      have hlt : ep < ez := Nat.lt_of_not_le (fun z => by have := gX.2.1 ep z; omega)
      refine lv_iload_n hx hb dX5_readPlain_22 rfl (lv_at hl 2 rfl) ?_
      refine lv_iconst (v := 5) hx hb dX5_readPlain_23 (by decide) ?_
      refine lv_icmp_lt (tgt := 29) hx hb dX5_readPlain_24 (by decide) (fun _ => ?_) (fun c_31 => absurd c_31 (by decide))
      refine lv_aload_n hx hb dX5_readPlain_29 rfl (lv_at hl 1 rfl) ?_
      refine lv_dup hx hb dX5_readPlain_30 rfl ?_
      refine va_get (D := (dC, dI)) (ci := 7) (v := .int (nI ep)) (C := RX5) (T := TX5) (N := 11) hx hb hts kc_xPlain2_0 hown hK hP 0 rfl rfl 9 (by decide) (hts (.fieldLink RX5 34 "MistHeaps$Hill" "at" "I") kc_xPlain2_1) (fun _ h9 => h9) rfl dX5_readPlain_31 ?_
      refine lv_iconst (v := 1) hx hb dX5_readPlain_34 (by decide) ?_
      refine lv_iadd hx hb dX5_readPlain_35 ?_
      refine qi_as (y := nI (ep + 1)) (nI_add ep 1) ?_
      refine va_put (D := (dC, dI)) (ci := 7) (v := .int (nI (ep + 1))) (ty := .int) (C := RX5) (T := TX5) (N := 11) hx hb hts kc_xPlain2_0 tyX5 tyX5_ok nmX5 hown hK hP hD hS 0 rfl rfl 9 (by decide) (hts (.fieldLink RX5 34 "MistHeaps$Hill" "at" "I") kc_xPlain2_1) (fun _ h9 => h9) rfl (by decide +kernel) rfl rfl (Nat.le_of_ble_eq_true rfl) dX5_readPlain_36 (fun H locs hP hD hS => ?_)
      have hP : va_P (dC, dI) vwCl [(zo7iirrrririii bl esg (nI ecl) eW eA eE eC (nI ecd) aTp (nI ez) (nI (ep + 1)) (nI em)), (zaI aTp cTp 100 fTp), (zaI eC ceC 100 feC)] H := hP
      have hD : va_D A [(zo7iirrrririii bl esg (nI ecl) eW eA eE eC (nI ecd) aTp (nI ez) (nI (ep + 1)) (nI em)), (zaI aTp cTp 100 fTp), (zaI eC ceC 100 feC)] := hD
      refine lv_iload_n hx hb dX5_readPlain_39 rfl (lv_at hl 0 rfl) ?_
      refine lv_bipush (v := 40) hx hb dX5_readPlain_40 (by decide) ?_
      refine lv_icmp_ne (tgt := 70) hx hb dX5_readPlain_42 (by decide) (fun c_32 => absurd c_32 (fun z9 => z9 ((nI_eq (a := ss ep) (b := 40) (by omega) (by omega)).mpr hc))) (fun c_32 => ?_)
      have c_32 : (ss ep) = 40 := (nI_eq (a := (ss ep)) (b := 40) (by omega) (by omega)).mp c_32
      refine lv_aload_n hx hb dX5_readPlain_45 rfl (lv_at hl 1 rfl) ?_
      refine lv_iload_n hx hb dX5_readPlain_46 rfl (lv_at hl 2 rfl) ?_
      refine lv_iconst (v := 1) hx hb dX5_readPlain_47 (by decide) ?_
      refine lv_iadd hx hb dX5_readPlain_48 ?_
      refine qi_as (y := 3) (by decide) ?_
      have hPc := hP.sub (ws' := [(zo7iirrrririii bl esg (nI ecl) eW eA eE eC (nI ecd) aTp (nI ez) (nI (ep + 1)) (nI em)), (zaI aTp cTp 100 fTp), (zaI eC ceC 100 feC)]) [0, 1, 2] rfl
      have hDc := hD.sub (ws' := [(zo7iirrrririii bl esg (nI ecl) eW eA eE eC (nI ecd) aTp (nI ez) (nI (ep + 1)) (nI em)), (zaI aTp cTp 100 fTp), (zaI eC ceC 100 feC)]) [0, 1, 2] (by decide) rfl
      have hKc := hK.sub (tys' := [(cTp, .int), (ceC, .int)]) [0, 1] rfl
      have hFc := va_free (wc := [(zo7iirrrririii bl esg (nI ecl) eW eA eE eC (nI ecd) aTp (nI ez) (nI (ep + 1)) (nI em)), (zaI aTp cTp 100 fTp), (zaI eC ceC 100 feC)]) hD hS hA [0, 1, 2] rfl
      refine va_calli (va_runV (As := [.int 3]) (rest := []) ⟨hx, hb, hml, hown, hts⟩ (c_xEither3 l dC dI sK sV bl aTp eW eA eE eC ecl ecd esg cTp ceC fTp feC ez (ep + 1) em ss kt H.size (hez) (by omega) (by omega) ((hXT).mono (by omega)) (zeC) (gX)) (cwV 1 hts gX5_readPlain_X5_readEither rfl rfl rfl hd_yX5_readEither ⟨Nat.le_of_ble_eq_true rfl, Nat.le_of_ble_eq_true rfl⟩) ⟨fun a U g mk q => by obtain ⟨q0, q1, qP, qK, qD, qhE⟩ := q; exact ⟨q0, q1, qP, va_K.moved (u := U) (U := U.calling g mk a) (Vm.Alike.refl U.vm) qK, qD, qhE.same rfl rfl⟩, va_recv hK hP (ci := 7) (q := (RX5, TX5, 11)) (q0 := 0) rfl rfl, fun U hU hW => ⟨rfl, by rw [hU], by rw [hU]; exact hPc, va_K.moved hW.alike hKc, hDc.weaken (fun _ _ _ _ => trivial), hE.call hS hU hW (fun q h => hFc q h)⟩⟩ rfl rfl hl.1 rfl (lv_room (Nat.le_of_ble_eq_true rfl)) dX5_readPlain_49 ⟨Nat.le_of_ble_eq_true rfl, Nat.le_of_ble_eq_true rfl⟩) hS (fun q _ h => hFc q h) hFc (fun r_33 u tC H1 locs htC hvm hw_34 hB hz1 hk1 hS => ?_)
      obtain ⟨ecd9_35, ep9_36, em9_37, feC9_38⟩ := u
      try dsimp only at hw_34 hB
      obtain ⟨hP1, hK1, hD1⟩ := hB
      rw [htC] at hP1
      have hK1 := va_K.moved hvm.symm hK1
      obtain ⟨hP, hD⟩ := va_join (wr := []) (w1 := [(zo7iirrrririii bl esg (nI ecl) eW eA eE eC (nI ecd9_35) aTp (nI ez) (nI ep9_36) (nI em9_37)), (zaI aTp cTp 100 fTp), (zaI eC ceC 100 feC9_38)]) hP hD [0, 1, 2] [] rfl rfl (by decide) (by decide) hk1 hFc hP1 hD1
      have hK := (hK.sub (tys' := []) [] rfl).app hK1
      generalize H1 = H at hP hS ⊢
      have hP : va_P (dC, dI) vwCl [(zo7iirrrririii bl esg (nI ecl) eW eA eE eC (nI ecd9_35) aTp (nI ez) (nI ep9_36) (nI em9_37)), (zaI aTp cTp 100 fTp), (zaI eC ceC 100 feC9_38)] H := hP
      have hD : va_D A [(zo7iirrrririii bl esg (nI ecl) eW eA eE eC (nI ecd9_35) aTp (nI ez) (nI ep9_36) (nI em9_37)), (zaI aTp cTp 100 fTp), (zaI eC ceC 100 feC9_38)] := hD
      have hK : va_K (dC, dI) vwCl [(cTp, .int), (ceC, .int)] s := hK
      rcases hw_34 with ⟨rfl, L_39, eP_40, h_41, h_42, h_43, h_44, hX_46, hC_45⟩ | ⟨rfl, eP_40, h_41, h_42, h_43, hC_45⟩
      · skip
        refine lv_if_eq (tgt := 68) hx hb dX5_readPlain_52 (by decide) (fun c_47 => absurd c_47 (by decide)) (fun _ => ?_)
        refine lv_aload_n hx hb dX5_readPlain_55 rfl (lv_at hl 1 rfl) ?_
        refine lv_bipush (v := 41) hx hb dX5_readPlain_56 (by decide) ?_
        have hPc := hP.sub (ws' := [(zo7iirrrririii bl esg (nI ecl) eW eA eE eC (nI ecd9_35) aTp (nI ez) (nI ep9_36) (nI em9_37)), (zaI aTp cTp 100 fTp)]) [0, 1] rfl
        have hDc := hD.sub (ws' := [(zo7iirrrririii bl esg (nI ecl) eW eA eE eC (nI ecd9_35) aTp (nI ez) (nI ep9_36) (nI em9_37)), (zaI aTp cTp 100 fTp)]) [0, 1] (by decide) rfl
        have hKc := hK.sub (tys' := [(cTp, .int)]) [0] rfl
        have hFc := va_free (wc := [(zo7iirrrririii bl esg (nI ecl) eW eA eE eC (nI ecd9_35) aTp (nI ez) (nI ep9_36) (nI em9_37)), (zaI aTp cTp 100 fTp)]) hD hS hA [0, 1] rfl
        refine va_calli (va_runV (As := [.int 41]) (rest := []) ⟨hx, hb, hml, hown, hts⟩ (c_xReadSign l dC dI bl aTp eW eA eE eC 41 ecl ecd9_35 esg cTp fTp ez ep9_36 em9_37 ss H.size (hez) (by omega) (by decide) (by decide) (gX)) (cwV 1 hts gX5_readPlain_X5_readSign rfl rfl rfl hd_yX5_readSign ⟨Nat.le_of_ble_eq_true rfl, Nat.le_of_ble_eq_true rfl⟩) ⟨fun a U g mk q => by obtain ⟨q0, q1, qP, qK, qD⟩ := q; exact ⟨q0, q1, qP, va_K.moved (u := U) (U := U.calling g mk a) (Vm.Alike.refl U.vm) qK, qD⟩, va_recv hK hP (ci := 7) (q := (RX5, TX5, 11)) (q0 := 0) rfl rfl, fun U hU hW => ⟨rfl, by rw [hU], by rw [hU]; exact hPc, va_K.moved hW.alike hKc, hDc.weaken (fun _ _ _ _ => trivial)⟩⟩ rfl rfl hl.1 rfl (lv_room (Nat.le_of_ble_eq_true rfl)) dX5_readPlain_58 ⟨Nat.le_of_ble_eq_true rfl, Nat.le_of_ble_eq_true rfl⟩) hS (fun q _ h => hFc q h) hFc (fun r_48 u tC H1 locs htC hvm hw_49 hB hz1 hk1 hS => ?_)
        obtain ⟨ep9_50, rfl⟩ : ∃ z, z = u := ⟨_, rfl⟩
        try dsimp only at hw_49 hB
        obtain ⟨hP1, hK1, hD1⟩ := hB
        rw [htC] at hP1
        have hK1 := va_K.moved hvm.symm hK1
        obtain ⟨hP, hD⟩ := va_join (wr := [(zaI eC ceC 100 feC9_38)]) (w1 := [(zo7iirrrririii bl esg (nI ecl) eW eA eE eC (nI ecd9_35) aTp (nI ez) (nI ep9_50) (nI em9_37)), (zaI aTp cTp 100 fTp)]) hP hD [0, 1] [2] rfl rfl (by decide) (by decide) hk1 hFc hP1 hD1
        have hK := (hK.sub (tys' := [(ceC, .int)]) [1] rfl).app hK1
        generalize H1 = H at hP hS ⊢
        have hP : va_P (dC, dI) vwCl [(zaI eC ceC 100 feC9_38), (zo7iirrrririii bl esg (nI ecl) eW eA eE eC (nI ecd9_35) aTp (nI ez) (nI ep9_50) (nI em9_37)), (zaI aTp cTp 100 fTp)] H := hP
        have hD : va_D A [(zaI eC ceC 100 feC9_38), (zo7iirrrririii bl esg (nI ecl) eW eA eE eC (nI ecd9_35) aTp (nI ez) (nI ep9_50) (nI em9_37)), (zaI aTp cTp 100 fTp)] := hD
        have hK : va_K (dC, dI) vwCl [(ceC, .int), (cTp, .int)] s := hK
        rcases hw_49 with ⟨rfl, hy41, h_51, e_52⟩ | ⟨rfl, hn41, e_52⟩
        · skip
          obtain rfl := (e_52).symm
          refine lv_if_eq (tgt := 68) hx hb dX5_readPlain_61 (by decide) (fun c_53 => absurd c_53 (by decide)) (fun _ => ?_)
          refine lv_iconst (v := 1) hx hb dX5_readPlain_64 (by decide) ?_
          refine lv_goto (tgt := 69) hx hb dX5_readPlain_65 (by decide) ?_
          rw [hQ]
          have hP9 := hP.sub (ws' := [(zo7iirrrririii bl esg (nI ecl) eW eA eE eC (nI ecd9_35) aTp (nI ez) (nI (ep9_36 + 1)) (nI em9_37)), (zaI aTp cTp 100 fTp), (zaI eC ceC 100 feC9_38)]) [1, 2, 0] rfl
          have hD9 := hD.sub (ws' := [(zo7iirrrririii bl esg (nI ecl) eW eA eE eC (nI ecd9_35) aTp (nI ez) (nI (ep9_36 + 1)) (nI em9_37)), (zaI aTp cTp 100 fTp), (zaI eC ceC 100 feC9_38)]) [1, 2, 0] (by decide) rfl
          have hK9 := hK.sub (tys' := [(cTp, .int), (ceC, .int)]) [1, 0] rfl
          exact W.zret (v := 1) hx hb hr rfl (fun tQ htQ hWQ => ⟨⟨1, (ecd9_35, (ep9_36 + 1), em9_37, feC9_38), rfl, Or.inl ⟨rfl, L_39, pf_b2 (l := 2) hc eP_40 hy41, by omega, by omega, by omega, by (try simp only [List.length_append, List.length_cons, List.length_nil]); omega, (hX_46).mono (by omega), hC_45⟩, by rw [htQ]; exact hP9, va_K.moved hWQ.alike hK9, hD9⟩, hS.F htQ⟩) hS.2.2 dX5_readPlain_69
        · skip
          obtain rfl := (e_52).symm
          refine lv_if_eq (tgt := 68) hx hb dX5_readPlain_61 (by decide) (fun _ => ?_) (fun c_54 => absurd c_54 (by decide))
          refine lv_iconst (v := 0) hx hb dX5_readPlain_68 (by decide) ?_
          rw [hQ]
          have hP9 := hP.sub (ws' := [(zo7iirrrririii bl esg (nI ecl) eW eA eE eC (nI ecd9_35) aTp (nI ez) (nI ep9_36) (nI em9_37)), (zaI aTp cTp 100 fTp), (zaI eC ceC 100 feC9_38)]) [1, 2, 0] rfl
          have hD9 := hD.sub (ws' := [(zo7iirrrririii bl esg (nI ecl) eW eA eE eC (nI ecd9_35) aTp (nI ez) (nI ep9_36) (nI em9_37)), (zaI aTp cTp 100 fTp), (zaI eC ceC 100 feC9_38)]) [1, 2, 0] (by decide) rfl
          have hK9 := hK.sub (tys' := [(cTp, .int), (ceC, .int)]) [1, 0] rfl
          exact W.zret (v := 0) hx hb hr rfl (fun tQ htQ hWQ => ⟨⟨0, (ecd9_35, ep9_36, em9_37, feC9_38), rfl, Or.inr ⟨rfl, pf_b1 (l := 2) hc eP_40 hn41, by omega, by omega, by first | omega | (have := (hX_46).2.1; omega), hC_45⟩, by rw [htQ]; exact hP9, va_K.moved hWQ.alike hK9, hD9⟩, hS.F htQ⟩) hS.2.2 dX5_readPlain_69
      · skip
        refine lv_if_eq (tgt := 68) hx hb dX5_readPlain_52 (by decide) (fun _ => ?_) (fun c_55 => absurd c_55 (by decide))
        refine lv_iconst (v := 0) hx hb dX5_readPlain_68 (by decide) ?_
        rw [hQ]
        have hP9 := hP.sub (ws' := [(zo7iirrrririii bl esg (nI ecl) eW eA eE eC (nI ecd9_35) aTp (nI ez) (nI ep9_36) (nI em9_37)), (zaI aTp cTp 100 fTp), (zaI eC ceC 100 feC9_38)]) [0, 1, 2] rfl
        have hD9 := hD.sub (ws' := [(zo7iirrrririii bl esg (nI ecl) eW eA eE eC (nI ecd9_35) aTp (nI ez) (nI ep9_36) (nI em9_37)), (zaI aTp cTp 100 fTp), (zaI eC ceC 100 feC9_38)]) [0, 1, 2] (by decide) rfl
        have hK9 := hK.sub (tys' := [(cTp, .int), (ceC, .int)]) [0, 1] rfl
        exact W.zret (v := 0) hx hb hr rfl (fun tQ htQ hWQ => ⟨⟨0, (ecd9_35, ep9_36, em9_37, feC9_38), rfl, Or.inr ⟨rfl, pf_b0 (l := 2) hc eP_40, by omega, by omega, by first | omega | (have := (hXT).2.1; omega), hC_45⟩, by rw [htQ]; exact hP9, va_K.moved hWQ.alike hK9, hD9⟩, hS.F htQ⟩) hS.2.2 dX5_readPlain_69
    · skip
      have c_30 : ¬ (ss ep) = 40 := fun q => c_30 ((nI_eq (a := (ss ep)) (b := 40) (by omega) (by omega)).mpr q)
      have hn40 : ¬ ss ep = 40 := c_30
      refine lv_aload_n hx hb dX5_readPlain_17 rfl (lv_at hl 1 rfl) ?_
      have hPc := hP.sub (ws' := [(zo7iirrrririii bl esg (nI ecl) eW eA eE eC (nI ecd) aTp (nI ez) (nI ep) (nI em)), (zaI aTp cTp 100 fTp), (zaI eC ceC 100 feC)]) [0, 1, 2] rfl
      have hDc := hD.sub (ws' := [(zo7iirrrririii bl esg (nI ecl) eW eA eE eC (nI ecd) aTp (nI ez) (nI ep) (nI em)), (zaI aTp cTp 100 fTp), (zaI eC ceC 100 feC)]) [0, 1, 2] (by decide) rfl
      have hKc := hK.sub (tys' := [(cTp, .int), (ceC, .int)]) [0, 1] rfl
      have hFc := va_free (wc := [(zo7iirrrririii bl esg (nI ecl) eW eA eE eC (nI ecd) aTp (nI ez) (nI ep) (nI em)), (zaI aTp cTp 100 fTp), (zaI eC ceC 100 feC)]) hD hS hA [0, 1, 2] rfl
      refine va_calli (va_runV (As := []) (rest := []) ⟨hx, hb, hml, hown, hts⟩ (c_readTest l dC dI sK sV bl aTp eW eA eE eC ecl ecd esg cTp ceC fTp feC ez ep em ss kt H.size (hez) (by omega) (by omega) ((hXT).mono (by omega)) (zeC) (gX)) (cwV 0 hts gX5_readPlain_X5_readTest rfl rfl rfl hd_yX5_readTest ⟨Nat.le_of_ble_eq_true rfl, Nat.le_of_ble_eq_true rfl⟩) ⟨fun a U g mk q => by obtain ⟨q0, q1, qP, qK, qD, qhE⟩ := q; exact ⟨q0, q1, qP, va_K.moved (u := U) (U := U.calling g mk a) (Vm.Alike.refl U.vm) qK, qD, qhE.same rfl rfl⟩, va_recv hK hP (ci := 7) (q := (RX5, TX5, 11)) (q0 := 0) rfl rfl, fun U hU hW => ⟨rfl, by rw [hU], by rw [hU]; exact hPc, va_K.moved hW.alike hKc, hDc.weaken (fun _ _ _ _ => trivial), hE.call hS hU hW (fun q h => hFc q h)⟩⟩ rfl rfl hl.1 rfl (lv_room (Nat.le_of_ble_eq_true rfl)) dX5_readPlain_18 ⟨Nat.le_of_ble_eq_true rfl, Nat.le_of_ble_eq_true rfl⟩) hS (fun q _ h => hFc q h) hFc (fun r_56 u tC H1 locs htC hvm hw_57 hB hz1 hk1 hS => ?_)
      obtain ⟨ecd9_58, ep9_59, em9_60, feC9_61⟩ := u
      try dsimp only at hw_57 hB
      obtain ⟨hP1, hK1, hD1⟩ := hB
      rw [htC] at hP1
      have hK1 := va_K.moved hvm.symm hK1
      obtain ⟨hP, hD⟩ := va_join (wr := []) (w1 := [(zo7iirrrririii bl esg (nI ecl) eW eA eE eC (nI ecd9_58) aTp (nI ez) (nI ep9_59) (nI em9_60)), (zaI aTp cTp 100 fTp), (zaI eC ceC 100 feC9_61)]) hP hD [0, 1, 2] [] rfl rfl (by decide) (by decide) hk1 hFc hP1 hD1
      have hK := (hK.sub (tys' := []) [] rfl).app hK1
      generalize H1 = H at hP hS ⊢
      have hP : va_P (dC, dI) vwCl [(zo7iirrrririii bl esg (nI ecl) eW eA eE eC (nI ecd9_58) aTp (nI ez) (nI ep9_59) (nI em9_60)), (zaI aTp cTp 100 fTp), (zaI eC ceC 100 feC9_61)] H := hP
      have hD : va_D A [(zo7iirrrririii bl esg (nI ecl) eW eA eE eC (nI ecd9_58) aTp (nI ez) (nI ep9_59) (nI em9_60)), (zaI aTp cTp 100 fTp), (zaI eC ceC 100 feC9_61)] := hD
      have hK : va_K (dC, dI) vwCl [(cTp, .int), (ceC, .int)] s := hK
      rw [hQ]
      have hP9 := hP.sub (ws' := [(zo7iirrrririii bl esg (nI ecl) eW eA eE eC (nI ecd9_58) aTp (nI ez) (nI ep9_59) (nI em9_60)), (zaI aTp cTp 100 fTp), (zaI eC ceC 100 feC9_61)]) [0, 1, 2] rfl
      have hD9 := hD.sub (ws' := [(zo7iirrrririii bl esg (nI ecl) eW eA eE eC (nI ecd9_58) aTp (nI ez) (nI ep9_59) (nI em9_60)), (zaI aTp cTp 100 fTp), (zaI eC ceC 100 feC9_61)]) [0, 1, 2] (by decide) rfl
      have hK9 := hK.sub (tys' := [(cTp, .int), (ceC, .int)]) [0, 1] rfl
      exact W.zret (v := r_56) hx hb hr (by first | rfl | (rcases hw_57 with ⟨e9, _⟩ | ⟨e9, _⟩ <;> rw [e9] <;> rfl)) (fun tQ htQ hWQ => ⟨⟨r_56, (ecd9_58, ep9_59, em9_60, feC9_61), rfl, by rw [show pFac ss 3 ep = pTest ss ep from pf_t hn33 hn40]; exact hw_57, by rw [htQ]; exact hP9, va_K.moved hWQ.alike hK9, hD9⟩, hS.F htQ⟩) hS.2.2 dX5_readPlain_21

theorem kc_xBoth2_0 : ∀ w ∈ wsX50, w ∈ wsX5_readBoth := fun w h => List.mem_cons_of_mem _ (gin_wsX50 w h)
theorem kc_xBoth2_1 : (.fieldLink RX5 31 "MistHeaps$Hill" "size" "I" : Cond) ∈ wsX5_readBoth := kc_of 123 rfl rfl rfl
set_option maxHeartbeats 4000000 in
set_option maxRecDepth 100000 in
theorem c_xBoth2 (l : Launch) (dC : Nat → ClassId) (dI : Nat → Nat → Nat) (sK sV : Nat → Nat) (bl : Nat) (aTp : Nat) (eW : Nat) (eA : Nat) (eE : Nat) (eC : Nat) (ecl : Nat) (ecd : Nat) (esg : Int32) (cTp : ClassId) (ceC : ClassId) (fTp : Nat → Int32) (feC : Nat → Int32) (ez : Nat) (ep : Nat) (em : Nat) (ss : Nat → Nat) (kt : List Nat) (sz : Nat) (hez : ez ≤ 100) (hep : ep ≤ ez) (hem : em ≤ 99) (hXT : XT feC ecd kt ep) (zeC : ∀ k0, k0 < 100 → okC (feC k0)) (gX : TX fTp ez ss) : Met l yX5_readBoth wsX5_readBoth ({ frames := 15, cells := 0, slots := 0, locals := 333 } : Room) (va_Pc [.ref bl, .int 2] (fun U => U.heap.size = sz ∧ va_P (dC, dI) vwCl [(zo7iirrrririii bl esg (nI ecl) eW eA eE eC (nI ecd) aTp (nI ez) (nI ep) (nI em)), (zaI aTp cTp 100 fTp), (zaI eC ceC 100 feC)] U.heap ∧ va_K (dC, dI) vwCl [(cTp, .int), (ceC, .int)] U ∧ va_D (fun _ => True) [(zo7iirrrririii bl esg (nI ecl) eW eA eE eC (nI ecd) aTp (nI ez) (nI ep) (nI em)), (zaI aTp cTp 100 fTp), (zaI eC ceC 100 feC)] ∧ Gs sK sV (va_A [(zo7iirrrririii bl esg (nI ecl) eW eA eE eC (nI ecd) aTp (nI ez) (nI ep) (nI em)), (zaI aTp cTp 100 fTp), (zaI eC ceC 100 feC)] sz) U)) (va_Qi (fun (r : Int32) (u : (Nat) × (Nat) × (Nat) × (Nat → Int32)) => match u with | (ecd9, ep9, em9, feC9) => (r = 1 ∧ ∃ L0 : List Nat, pEv ss (pFac ss 3) ep = (some L0, ep9) ∧ ep + 3 ≤ ep9 ∧ ep9 ≤ ez ∧ em9 ≤ 99 ∧ L0.length + ep ≤ ep9 ∧ XT feC9 ecd9 (kt ++ L0) ep9 ∧ ∀ k0, k0 < 100 → okC (feC9 k0)) ∨ (r = 0 ∧ pEv ss (pFac ss 3) ep = (none, ep9) ∧ ep9 ≤ ez + 2 ∧ em9 ≤ 99 ∧ ecd9 ≤ 100 ∧ ∀ k0, k0 < 100 → okC (feC9 k0))) (fun (u : (Nat) × (Nat) × (Nat) × (Nat → Int32)) (t : State) => match u with | (ecd9, ep9, em9, feC9) => va_P (dC, dI) vwCl [(zo7iirrrririii bl esg (nI ecl) eW eA eE eC (nI ecd9) aTp (nI ez) (nI ep9) (nI em9)), (zaI aTp cTp 100 fTp), (zaI eC ceC 100 feC9)] t.heap ∧ va_K (dC, dI) vwCl [(cTp, .int), (ceC, .int)] t ∧ va_D (va_A [(zo7iirrrririii bl esg (nI ecl) eW eA eE eC (nI ecd) aTp (nI ez) (nI ep) (nI em)), (zaI aTp cTp 100 fTp), (zaI eC ceC 100 feC)] sz) [(zo7iirrrririii bl esg (nI ecl) eW eA eE eC (nI ecd9) aTp (nI ez) (nI ep9) (nI em9)), (zaI aTp cTp 100 fTp), (zaI eC ceC 100 feC9)]) (va_A [(zo7iirrrririii bl esg (nI ecl) eW eA eE eC (nI ecd) aTp (nI ez) (nI ep) (nI em)), (zaI aTp cTp 100 fTp), (zaI eC ceC 100 feC)] sz)) 0 0 (va_A [(zo7iirrrririii bl esg (nI ecl) eW eA eE eC (nI ecd) aTp (nI ez) (nI ep) (nI em)), (zaI aTp cTp 100 fTp), (zaI eC ceC 100 feC)] sz) := by
  refine met_ofQ (cc := cX5_readBoth) (maxL := 3) (ret := (some .boolean)) (by decide) rfl ?_
  intro p e s m args below meth c s₁ Q B hml hv hQ
  obtain ⟨rfl, hsz, hP, hK, hD0, hE⟩ := hv
  have hx := B.exec
  have hb := B.bytes
  have hr := B.returns
  have hts := atoms_spec (ws := wsX5_readBoth) B.pre
  have hown : s.vm.findClass RX5 = some m.cls := findClass_of_methodNamed B.named
  have hlocks := B.notSynchronized
  subst hsz
  have hD := hD0.self (sz := s.heap.size)
  generalize hAe : va_A [(zo7iirrrririii bl esg (nI ecl) eW eA eE eC (nI ecd) aTp (nI ez) (nI ep) (nI em)), (zaI aTp cTp 100 fTp), (zaI eC ceC 100 feC)] s.heap.size = A at hD hQ hE ⊢
  have hA : ∀ q : Nat, s.heap.size ≤ q → A q := fun q h => by rw [← hAe]; exact Or.inr h
  have hS : va_S A s.heap s.heap [] := va_S.rf
  have hl := lv_entry [.ref bl, .int 2] (n := 3) (Nat.le_of_ble_eq_true rfl)
  rw [lg_entry_eq]
  generalize (lg_sl [.ref bl, .int 2] ++ List.replicate (3 - (lg_sl [.ref bl, .int 2]).length) Slot.unset).toArray = ls at hl ⊢
  generalize hag : ([.ref bl, .int 2] : List Value).toArray = args at hts hQ ⊢
  have hl : lv_has ls 3 [(0, .ref bl), (1, .int 2)] := hl
  obtain ⟨H, hH⟩ : ∃ H : Heap, H = s.heap := ⟨_, rfl⟩
  rw [← hH] at hP
  rw [← hH]
  have hS : va_S A s.heap H [] := by rw [hH]; exact hS
  obtain ⟨locs, hlo⟩ : ∃ L : List Loc, L = [] := ⟨_, rfl⟩
  rw [← hlo] at hS
  rw [← hlo]
  clear hH hlo
  refine lv_aload_n hx hb dX5_readBoth_0 rfl (lv_at hl 0 rfl) ?_
  refine lv_iload_n hx hb dX5_readBoth_1 rfl (lv_at hl 1 rfl) ?_
  have hPc := hP.sub (ws' := [(zo7iirrrririii bl esg (nI ecl) eW eA eE eC (nI ecd) aTp (nI ez) (nI ep) (nI em)), (zaI aTp cTp 100 fTp), (zaI eC ceC 100 feC)]) [0, 1, 2] rfl
  have hDc := hD.sub (ws' := [(zo7iirrrririii bl esg (nI ecl) eW eA eE eC (nI ecd) aTp (nI ez) (nI ep) (nI em)), (zaI aTp cTp 100 fTp), (zaI eC ceC 100 feC)]) [0, 1, 2] (by decide) rfl
  have hKc := hK.sub (tys' := [(cTp, .int), (ceC, .int)]) [0, 1] rfl
  have hFc := va_free (wc := [(zo7iirrrririii bl esg (nI ecl) eW eA eE eC (nI ecd) aTp (nI ez) (nI ep) (nI em)), (zaI aTp cTp 100 fTp), (zaI eC ceC 100 feC)]) hD hS hA [0, 1, 2] rfl
  refine va_calli (va_runV (As := [.int 2]) (rest := []) ⟨hx, hb, hml, hown, hts⟩ (c_xPlain2 l dC dI sK sV bl aTp eW eA eE eC ecl ecd esg cTp ceC fTp feC ez ep em ss kt H.size (hez) (by omega) (by omega) ((hXT).mono (by omega)) (zeC) (gX)) (cwV 1 hts gX5_readBoth_X5_readPlain rfl rfl rfl hd_yX5_readPlain ⟨Nat.le_of_ble_eq_true rfl, Nat.le_of_ble_eq_true rfl⟩) ⟨fun a U g mk q => by obtain ⟨q0, q1, qP, qK, qD, qhE⟩ := q; exact ⟨q0, q1, qP, va_K.moved (u := U) (U := U.calling g mk a) (Vm.Alike.refl U.vm) qK, qD, qhE.same rfl rfl⟩, va_recv hK hP (ci := 7) (q := (RX5, TX5, 11)) (q0 := 0) rfl rfl, fun U hU hW => ⟨rfl, by rw [hU], by rw [hU]; exact hPc, va_K.moved hW.alike hKc, hDc.weaken (fun _ _ _ _ => trivial), hE.call hS hU hW (fun q h => hFc q h)⟩⟩ rfl rfl hl.1 rfl (lv_room (Nat.le_of_ble_eq_true rfl)) dX5_readBoth_2 ⟨Nat.le_of_ble_eq_true rfl, Nat.le_of_ble_eq_true rfl⟩) hS (fun q _ h => hFc q h) hFc (fun r_1 u tC H1 locs htC hvm hw_2 hB hz1 hk1 hS => ?_)
  obtain ⟨ecd9_3, ep9_4, em9_5, feC9_6⟩ := u
  try dsimp only at hw_2 hB
  obtain ⟨hP1, hK1, hD1⟩ := hB
  rw [htC] at hP1
  have hK1 := va_K.moved hvm.symm hK1
  obtain ⟨hP, hD⟩ := va_join (wr := []) (w1 := [(zo7iirrrririii bl esg (nI ecl) eW eA eE eC (nI ecd9_3) aTp (nI ez) (nI ep9_4) (nI em9_5)), (zaI aTp cTp 100 fTp), (zaI eC ceC 100 feC9_6)]) hP hD [0, 1, 2] [] rfl rfl (by decide) (by decide) hk1 hFc hP1 hD1
  have hK := (hK.sub (tys' := []) [] rfl).app hK1
  generalize H1 = H at hP hS ⊢
  have hP : va_P (dC, dI) vwCl [(zo7iirrrririii bl esg (nI ecl) eW eA eE eC (nI ecd9_3) aTp (nI ez) (nI ep9_4) (nI em9_5)), (zaI aTp cTp 100 fTp), (zaI eC ceC 100 feC9_6)] H := hP
  have hD : va_D A [(zo7iirrrririii bl esg (nI ecl) eW eA eE eC (nI ecd9_3) aTp (nI ez) (nI ep9_4) (nI em9_5)), (zaI aTp cTp 100 fTp), (zaI eC ceC 100 feC9_6)] := hD
  have hK : va_K (dC, dI) vwCl [(cTp, .int), (ceC, .int)] s := hK
  rcases hw_2 with ⟨rfl, L_7, eP_8, h_9, h_10, h_11, h_12, hX_14, hC_13⟩ | ⟨rfl, eP_8, h_9, h_10, h_11, hC_13⟩
  · skip
    refine lv_if_ne (tgt := 10) hx hb dX5_readBoth_5 (by decide) (fun _ => ?_) (fun c_15 => absurd c_15 (by decide))
    refine lv_iconst (v := 0) hx hb dX5_readBoth_10 (by decide) ?_
    refine lv_istore_n (lv' := [(2, .int 0), (0, .ref bl), (1, .int 2)]) hx hb dX5_readBoth_11 rfl hl (by decide) rfl (fun ls hl => ?_)
    have L12 : ∀ (nF : Nat) (i : Nat) (ecd2 : Nat) (ep2 : Nat) (em2 : Nat) (feC2 : Nat → Int32) (L1 : List Nat) (m1 : Nat), ez - i < nF → (i ≤ ez) → (pEv ss (pFac ss 3) ep = pSep ss 38 1802 (pFac ss 3) m1 (some L1, ep2) ∧ 101 ≤ m1 + ep2) → (ep + 3 + 2 * i ≤ ep2 ∧ ep2 ≤ ez ∧ em2 ≤ 99) → (L1.length + ep ≤ ep2) → (XT feC2 ecd2 (kt ++ L1) ep2) → (∀ k0, k0 < 100 → okC (feC2 k0)) → ∀ (H : Heap) (locs : List Loc), va_K (dC, dI) vwCl [(cTp, .int), (ceC, .int)] s → va_P (dC, dI) vwCl [(zo7iirrrririii bl esg (nI ecl) eW eA eE eC (nI ecd2) aTp (nI ez) (nI ep2) (nI em2)), (zaI aTp cTp 100 fTp), (zaI eC ceC 100 feC2)] H → va_D A [(zo7iirrrririii bl esg (nI ecl) eW eA eE eC (nI ecd2) aTp (nI ez) (nI ep2) (nI em2)), (zaI aTp cTp 100 fTp), (zaI eC ceC 100 feC2)] → va_S A s.heap H locs → ∀ (ls : Array Slot), lv_has ls 3 [(0, .ref bl), (1, .int 2), (2, .int (nI i))] → W p l e ({ frames := 15, cells := 0, slots := 0, locals := 333 } : Room) s m args below meth c H locs 0 0 Q (F0 m 12 ls []) := by
      intro nF
      induction nF with
      | zero => intro i ecd2 ep2 em2 feC2 L1 m1 hm; exact absurd hm (Nat.not_lt_zero _)
      | succ nF ih12 =>
        intro i ecd2 ep2 em2 feC2 L1 m1 hm hii hE9 hp2 hL2 hX2 zC2 H locs hK hP hD hS ls hl
        obtain ⟨hE9, hm9⟩ := hE9
        obtain ⟨hp2a, hp2b, hp2c⟩ := hp2
        refine lv_iload_n hx hb dX5_readBoth_12 rfl (lv_at hl 2 rfl) ?_
        refine lv_aload_n hx hb dX5_readBoth_13 rfl (lv_at hl 0 rfl) ?_
        refine va_get (D := (dC, dI)) (ci := 7) (v := .int (nI ez)) (C := RX5) (T := TX5) (N := 11) hx hb hts kc_xBoth2_0 hown hK hP 0 rfl rfl 8 (by decide) (hts (.fieldLink RX5 31 "MistHeaps$Hill" "size" "I") kc_xBoth2_1) (fun _ h9 => h9) rfl dX5_readBoth_14 ?_
        refine lv_icmp_ge (tgt := 51) hx hb dX5_readBoth_17 (by decide) (fun c_16 => ?_) (fun c_16 => ?_)
        · skip
          have c_16 : ez ≤ i := (nI_leI (a := ez) (b := i) (by omega) (by omega)).mp c_16
          refine lv_iconst (v := 1) hx hb dX5_readBoth_51 (by decide) ?_
          rw [hQ]
          have hP9 := hP.sub (ws' := [(zo7iirrrririii bl esg (nI ecl) eW eA eE eC (nI ecd2) aTp (nI ez) (nI ep2) (nI em2)), (zaI aTp cTp 100 fTp), (zaI eC ceC 100 feC2)]) [0, 1, 2] rfl
          have hD9 := hD.sub (ws' := [(zo7iirrrririii bl esg (nI ecl) eW eA eE eC (nI ecd2) aTp (nI ez) (nI ep2) (nI em2)), (zaI aTp cTp 100 fTp), (zaI eC ceC 100 feC2)]) [0, 1, 2] (by decide) rfl
          have hK9 := hK.sub (tys' := [(cTp, .int), (ceC, .int)]) [0, 1] rfl
          exact W.zret (v := 1) hx hb hr rfl (fun tQ htQ hWQ => ⟨⟨1, (ecd2, ep2, em2, feC2), rfl, Or.inl ⟨rfl, L1, hE9.trans (ps_end (fun z => by have := gX.2.1 ep2 (by omega); omega)), by omega, by omega, by omega, by (try simp only [List.length_append, List.length_cons, List.length_nil]); omega, hX2, zC2⟩, by rw [htQ]; exact hP9, va_K.moved hWQ.alike hK9, hD9⟩, hS.F htQ⟩) hS.2.2 dX5_readBoth_52
        · skip
          have c_16 : ¬ ez ≤ i := fun q => c_16 ((nI_leI (a := ez) (b := i) (by omega) (by omega)).mpr q)
          refine lv_aload_n hx hb dX5_readBoth_20 rfl (lv_at hl 0 rfl) ?_
          refine lv_bipush (v := 38) hx hb dX5_readBoth_21 (by decide) ?_
          have hPc := hP.sub (ws' := [(zo7iirrrririii bl esg (nI ecl) eW eA eE eC (nI ecd2) aTp (nI ez) (nI ep2) (nI em2)), (zaI aTp cTp 100 fTp)]) [0, 1] rfl
          have hDc := hD.sub (ws' := [(zo7iirrrririii bl esg (nI ecl) eW eA eE eC (nI ecd2) aTp (nI ez) (nI ep2) (nI em2)), (zaI aTp cTp 100 fTp)]) [0, 1] (by decide) rfl
          have hKc := hK.sub (tys' := [(cTp, .int)]) [0] rfl
          have hFc := va_free (wc := [(zo7iirrrririii bl esg (nI ecl) eW eA eE eC (nI ecd2) aTp (nI ez) (nI ep2) (nI em2)), (zaI aTp cTp 100 fTp)]) hD hS hA [0, 1] rfl
          refine va_calli (va_runV (As := [.int 38]) (rest := []) ⟨hx, hb, hml, hown, hts⟩ (c_xReadSign l dC dI bl aTp eW eA eE eC 38 ecl ecd2 esg cTp fTp ez ep2 em2 ss H.size (hez) (by omega) (by decide) (by decide) (gX)) (cwV 1 hts gX5_readBoth_X5_readSign rfl rfl rfl hd_yX5_readSign ⟨Nat.le_of_ble_eq_true rfl, Nat.le_of_ble_eq_true rfl⟩) ⟨fun a U g mk q => by obtain ⟨q0, q1, qP, qK, qD⟩ := q; exact ⟨q0, q1, qP, va_K.moved (u := U) (U := U.calling g mk a) (Vm.Alike.refl U.vm) qK, qD⟩, va_recv hK hP (ci := 7) (q := (RX5, TX5, 11)) (q0 := 0) rfl rfl, fun U hU hW => ⟨rfl, by rw [hU], by rw [hU]; exact hPc, va_K.moved hW.alike hKc, hDc.weaken (fun _ _ _ _ => trivial)⟩⟩ rfl rfl hl.1 rfl (lv_room (Nat.le_of_ble_eq_true rfl)) dX5_readBoth_23 ⟨Nat.le_of_ble_eq_true rfl, Nat.le_of_ble_eq_true rfl⟩) hS (fun q _ h => hFc q h) hFc (fun r_17 u tC H1 locs htC hvm hw_18 hB hz1 hk1 hS => ?_)
          obtain ⟨ep9_19, rfl⟩ : ∃ z, z = u := ⟨_, rfl⟩
          try dsimp only at hw_18 hB
          obtain ⟨hP1, hK1, hD1⟩ := hB
          rw [htC] at hP1
          have hK1 := va_K.moved hvm.symm hK1
          obtain ⟨hP, hD⟩ := va_join (wr := [(zaI eC ceC 100 feC2)]) (w1 := [(zo7iirrrririii bl esg (nI ecl) eW eA eE eC (nI ecd2) aTp (nI ez) (nI ep9_19) (nI em2)), (zaI aTp cTp 100 fTp)]) hP hD [0, 1] [2] rfl rfl (by decide) (by decide) hk1 hFc hP1 hD1
          have hK := (hK.sub (tys' := [(ceC, .int)]) [1] rfl).app hK1
          generalize H1 = H at hP hS ⊢
          have hP : va_P (dC, dI) vwCl [(zaI eC ceC 100 feC2), (zo7iirrrririii bl esg (nI ecl) eW eA eE eC (nI ecd2) aTp (nI ez) (nI ep9_19) (nI em2)), (zaI aTp cTp 100 fTp)] H := hP
          have hD : va_D A [(zaI eC ceC 100 feC2), (zo7iirrrririii bl esg (nI ecl) eW eA eE eC (nI ecd2) aTp (nI ez) (nI ep9_19) (nI em2)), (zaI aTp cTp 100 fTp)] := hD
          have hK : va_K (dC, dI) vwCl [(ceC, .int), (cTp, .int)] s := hK
          rcases hw_18 with ⟨rfl, hy9, h_20, e_21⟩ | ⟨rfl, hn9, e_21⟩
          · skip
            obtain rfl := (e_21).symm
            obtain ⟨m2, rfl⟩ : ∃ q : Nat, m1 = q + 1 := ⟨m1 - 1, by omega⟩
            refine lv_if_eq (tgt := 51) hx hb dX5_readBoth_26 (by decide) (fun c_22 => absurd c_22 (by decide)) (fun _ => ?_)
            refine lv_aload_n hx hb dX5_readBoth_29 rfl (lv_at hl 0 rfl) ?_
            refine lv_iload_n hx hb dX5_readBoth_30 rfl (lv_at hl 1 rfl) ?_
            have hPc := hP.sub (ws' := [(zo7iirrrririii bl esg (nI ecl) eW eA eE eC (nI ecd2) aTp (nI ez) (nI (ep2 + 1)) (nI em2)), (zaI aTp cTp 100 fTp), (zaI eC ceC 100 feC2)]) [1, 2, 0] rfl
            have hDc := hD.sub (ws' := [(zo7iirrrririii bl esg (nI ecl) eW eA eE eC (nI ecd2) aTp (nI ez) (nI (ep2 + 1)) (nI em2)), (zaI aTp cTp 100 fTp), (zaI eC ceC 100 feC2)]) [1, 2, 0] (by decide) rfl
            have hKc := hK.sub (tys' := [(cTp, .int), (ceC, .int)]) [1, 0] rfl
            have hFc := va_free (wc := [(zo7iirrrririii bl esg (nI ecl) eW eA eE eC (nI ecd2) aTp (nI ez) (nI (ep2 + 1)) (nI em2)), (zaI aTp cTp 100 fTp), (zaI eC ceC 100 feC2)]) hD hS hA [1, 2, 0] rfl
            refine va_calli (va_runV (As := [.int 2]) (rest := []) ⟨hx, hb, hml, hown, hts⟩ (c_xPlain2 l dC dI sK sV bl aTp eW eA eE eC ecl ecd2 esg cTp ceC fTp feC2 ez (ep2 + 1) em2 ss (kt ++ L1) H.size (hez) (by omega) (by omega) ((hX2).mono (by omega)) (zC2) (gX)) (cwV 1 hts gX5_readBoth_X5_readPlain rfl rfl rfl hd_yX5_readPlain ⟨Nat.le_of_ble_eq_true rfl, Nat.le_of_ble_eq_true rfl⟩) ⟨fun a U g mk q => by obtain ⟨q0, q1, qP, qK, qD, qhE⟩ := q; exact ⟨q0, q1, qP, va_K.moved (u := U) (U := U.calling g mk a) (Vm.Alike.refl U.vm) qK, qD, qhE.same rfl rfl⟩, va_recv hK hP (ci := 7) (q := (RX5, TX5, 11)) (q0 := 1) rfl rfl, fun U hU hW => ⟨rfl, by rw [hU], by rw [hU]; exact hPc, va_K.moved hW.alike hKc, hDc.weaken (fun _ _ _ _ => trivial), hE.call hS hU hW (fun q h => hFc q h)⟩⟩ rfl rfl hl.1 rfl (lv_room (Nat.le_of_ble_eq_true rfl)) dX5_readBoth_31 ⟨Nat.le_of_ble_eq_true rfl, Nat.le_of_ble_eq_true rfl⟩) hS (fun q _ h => hFc q h) hFc (fun r_23 u tC H1 locs htC hvm hw_24 hB hz1 hk1 hS => ?_)
            obtain ⟨ecd9_25, ep9_26, em9_27, feC9_28⟩ := u
            try dsimp only at hw_24 hB
            obtain ⟨hP1, hK1, hD1⟩ := hB
            rw [htC] at hP1
            have hK1 := va_K.moved hvm.symm hK1
            obtain ⟨hP, hD⟩ := va_join (wr := []) (w1 := [(zo7iirrrririii bl esg (nI ecl) eW eA eE eC (nI ecd9_25) aTp (nI ez) (nI ep9_26) (nI em9_27)), (zaI aTp cTp 100 fTp), (zaI eC ceC 100 feC9_28)]) hP hD [1, 2, 0] [] rfl rfl (by decide) (by decide) hk1 hFc hP1 hD1
            have hK := (hK.sub (tys' := []) [] rfl).app hK1
            generalize H1 = H at hP hS ⊢
            have hP : va_P (dC, dI) vwCl [(zo7iirrrririii bl esg (nI ecl) eW eA eE eC (nI ecd9_25) aTp (nI ez) (nI ep9_26) (nI em9_27)), (zaI aTp cTp 100 fTp), (zaI eC ceC 100 feC9_28)] H := hP
            have hD : va_D A [(zo7iirrrririii bl esg (nI ecl) eW eA eE eC (nI ecd9_25) aTp (nI ez) (nI ep9_26) (nI em9_27)), (zaI aTp cTp 100 fTp), (zaI eC ceC 100 feC9_28)] := hD
            have hK : va_K (dC, dI) vwCl [(cTp, .int), (ceC, .int)] s := hK
            rcases hw_24 with ⟨rfl, L_29, eP_30, h_31, h_32, h_33, h_34, hX_36, hC_35⟩ | ⟨rfl, eP_30, h_31, h_32, h_33, hC_35⟩
            · skip
              refine lv_if_ne (tgt := 39) hx hb dX5_readBoth_34 (by decide) (fun _ => ?_) (fun c_37 => absurd c_37 (by decide))
              refine lv_aload_n hx hb dX5_readBoth_39 rfl (lv_at hl 0 rfl) ?_
              refine lv_bipush (v := (-2)) hx hb dX5_readBoth_40 (by decide) ?_
              have hPc := hP.sub (ws' := [(zo7iirrrririii bl esg (nI ecl) eW eA eE eC (nI ecd9_25) aTp (nI ez) (nI ep9_26) (nI em9_27)), (zaI eC ceC 100 feC9_28)]) [0, 2] rfl
              have hDc := hD.sub (ws' := [(zo7iirrrririii bl esg (nI ecl) eW eA eE eC (nI ecd9_25) aTp (nI ez) (nI ep9_26) (nI em9_27)), (zaI eC ceC 100 feC9_28)]) [0, 2] (by decide) rfl
              have hKc := hK.sub (tys' := [(ceC, .int)]) [1] rfl
              have hFc := va_free (wc := [(zo7iirrrririii bl esg (nI ecl) eW eA eE eC (nI ecd9_25) aTp (nI ez) (nI ep9_26) (nI em9_27)), (zaI eC ceC 100 feC9_28)]) hD hS hA [0, 2] rfl
              refine va_callv (va_runV (As := [.int (-2)]) (rest := []) ⟨hx, hb, hml, hown, hts⟩ (c_xCode l dC dI bl aTp eW eA eE eC ecl ecd9_25 (-2) esg ceC feC9_28 ez ep9_26 em9_27 ((kt ++ L1) ++ L_29) 1802 H.size ((hX_36).mono (by omega)) (by have h6 := (hX_36).1; have h7 := (hX_36).2.1; have h8 := hXT.1; have h9 := hXT.2.1; (try simp only [List.length_append] at h6); omega) (hC_35) (Or.inr (Or.inl rfl)) (by decide)) (cwV 1 hts gX5_readBoth_X5_code rfl rfl rfl hd_yX5_code ⟨Nat.le_of_ble_eq_true rfl, Nat.le_of_ble_eq_true rfl⟩) ⟨fun a U g mk q => by obtain ⟨q0, q1, qP, qK, qD⟩ := q; exact ⟨q0, q1, qP, va_K.moved (u := U) (U := U.calling g mk a) (Vm.Alike.refl U.vm) qK, qD⟩, va_recv hK hP (ci := 7) (q := (RX5, TX5, 11)) (q0 := 0) rfl rfl, fun U hU hW => ⟨rfl, by rw [hU], by rw [hU]; exact hPc, va_K.moved hW.alike hKc, hDc.weaken (fun _ _ _ _ => trivial)⟩⟩ rfl rfl hl.1 rfl (lv_room (Nat.le_of_ble_eq_true rfl)) dX5_readBoth_42 ⟨Nat.le_of_ble_eq_true rfl, Nat.le_of_ble_eq_true rfl⟩) hS (fun q _ h => hFc q h) hFc (fun u tC H1 locs htC hvm hw_39 hB hz1 hk1 hS => ?_)
              obtain ⟨ecd9_40, feC9_41⟩ := u
              try dsimp only at hw_39 hB
              obtain ⟨hP1, hK1, hD1⟩ := hB
              rw [htC] at hP1
              have hK1 := va_K.moved hvm.symm hK1
              obtain ⟨hP, hD⟩ := va_join (wr := [(zaI aTp cTp 100 fTp)]) (w1 := [(zo7iirrrririii bl esg (nI ecl) eW eA eE eC (nI ecd9_40) aTp (nI ez) (nI ep9_26) (nI em9_27)), (zaI eC ceC 100 feC9_41)]) hP hD [0, 2] [1] rfl rfl (by decide) (by decide) hk1 hFc hP1 hD1
              have hK := (hK.sub (tys' := [(cTp, .int)]) [0] rfl).app hK1
              generalize H1 = H at hP hS ⊢
              have hP : va_P (dC, dI) vwCl [(zaI aTp cTp 100 fTp), (zo7iirrrririii bl esg (nI ecl) eW eA eE eC (nI ecd9_40) aTp (nI ez) (nI ep9_26) (nI em9_27)), (zaI eC ceC 100 feC9_41)] H := hP
              have hD : va_D A [(zaI aTp cTp 100 fTp), (zo7iirrrririii bl esg (nI ecl) eW eA eE eC (nI ecd9_40) aTp (nI ez) (nI ep9_26) (nI em9_27)), (zaI eC ceC 100 feC9_41)] := hD
              have hK : va_K (dC, dI) vwCl [(cTp, .int), (ceC, .int)] s := hK
              obtain ⟨e_42, hC_43, h_44⟩ := hw_39
              obtain rfl := (e_42).symm
              have hX_45 : XT feC9_41 (ecd9_25 + 1) (((kt ++ L1) ++ L_29) ++ [1802]) (ep9_26) := ⟨by rw [List.length_append, (hX_36).1]; rfl, by have h6 := (hX_36).1; have h7 := (hX_36).2.1; have h8 := hXT.1; have h9 := hXT.2.1; (try simp only [List.length_append] at h6); omega, h_44⟩
              refine lv_iinc (v := nI (i + 1)) (lv' := [(2, .int (nI (i + 1))), (0, .ref bl), (1, .int 2)]) hx hb dX5_readBoth_45 hl (k := 2) rfl (nI_add i 1) (by decide) rfl (fun ls hl => ?_)
              refine lv_goto (tgt := 12) hx hb dX5_readBoth_48 (by decide) ?_
              exact ih12 (i + 1) _ _ _ _ (L1 ++ (L_29 ++ [1802])) (m2) (by omega) (by omega) (⟨hE9.trans (ps_go hy9 eP_30), by omega⟩) (by omega) (by simp only [List.length_append, List.length_cons, List.length_nil]; omega) (XT.as (XT.as (hX_45))) (hC_43) _ _ (hK.sub [0, 1] rfl) (hP.sub [1, 0, 2] rfl) (hD.sub [1, 0, 2] (by decide) rfl) hS ls (lv_sub hl [1, 2, 0] rfl)
            · skip
              refine lv_if_ne (tgt := 39) hx hb dX5_readBoth_34 (by decide) (fun c_46 => absurd c_46 (by decide)) (fun _ => ?_)
              refine lv_iconst (v := 0) hx hb dX5_readBoth_37 (by decide) ?_
              rw [hQ]
              have hP9 := hP.sub (ws' := [(zo7iirrrririii bl esg (nI ecl) eW eA eE eC (nI ecd9_25) aTp (nI ez) (nI ep9_26) (nI em9_27)), (zaI aTp cTp 100 fTp), (zaI eC ceC 100 feC9_28)]) [0, 1, 2] rfl
              have hD9 := hD.sub (ws' := [(zo7iirrrririii bl esg (nI ecl) eW eA eE eC (nI ecd9_25) aTp (nI ez) (nI ep9_26) (nI em9_27)), (zaI aTp cTp 100 fTp), (zaI eC ceC 100 feC9_28)]) [0, 1, 2] (by decide) rfl
              have hK9 := hK.sub (tys' := [(cTp, .int), (ceC, .int)]) [0, 1] rfl
              exact W.zret (v := 0) hx hb hr rfl (fun tQ htQ hWQ => ⟨⟨0, (ecd9_25, ep9_26, em9_27, feC9_28), rfl, Or.inr ⟨rfl, hE9.trans (ps_bad hy9 eP_30), by omega, by omega, by first | omega | (have := (hXT).2.1; omega), hC_35⟩, by rw [htQ]; exact hP9, va_K.moved hWQ.alike hK9, hD9⟩, hS.F htQ⟩) hS.2.2 dX5_readBoth_38
          · skip
            obtain rfl := (e_21).symm
            refine lv_if_eq (tgt := 51) hx hb dX5_readBoth_26 (by decide) (fun _ => ?_) (fun c_47 => absurd c_47 (by decide))
            refine lv_iconst (v := 1) hx hb dX5_readBoth_51 (by decide) ?_
            rw [hQ]
            have hP9 := hP.sub (ws' := [(zo7iirrrririii bl esg (nI ecl) eW eA eE eC (nI ecd2) aTp (nI ez) (nI ep2) (nI em2)), (zaI aTp cTp 100 fTp), (zaI eC ceC 100 feC2)]) [1, 2, 0] rfl
            have hD9 := hD.sub (ws' := [(zo7iirrrririii bl esg (nI ecl) eW eA eE eC (nI ecd2) aTp (nI ez) (nI ep2) (nI em2)), (zaI aTp cTp 100 fTp), (zaI eC ceC 100 feC2)]) [1, 2, 0] (by decide) rfl
            have hK9 := hK.sub (tys' := [(cTp, .int), (ceC, .int)]) [1, 0] rfl
            exact W.zret (v := 1) hx hb hr rfl (fun tQ htQ hWQ => ⟨⟨1, (ecd2, ep2, em2, feC2), rfl, Or.inl ⟨rfl, L1, hE9.trans (ps_end hn9), by omega, by omega, by omega, by (try simp only [List.length_append, List.length_cons, List.length_nil]); omega, hX2, zC2⟩, by rw [htQ]; exact hP9, va_K.moved hWQ.alike hK9, hD9⟩, hS.F htQ⟩) hS.2.2 dX5_readBoth_52
    exact L12 _ (0) _ _ _ _ (L_7) (101) (Nat.lt_succ_self _) (by omega) (⟨pEv_s eP_8, by omega⟩) (by omega) (by omega) (hX_14) (hC_13) _ _ (hK.sub [0, 1] rfl) (hP.sub [0, 1, 2] rfl) (hD.sub [0, 1, 2] (by decide) rfl) hS ls (lv_sub hl [1, 2, 0] rfl)
  · skip
    refine lv_if_ne (tgt := 10) hx hb dX5_readBoth_5 (by decide) (fun c_48 => absurd c_48 (by decide)) (fun _ => ?_)
    refine lv_iconst (v := 0) hx hb dX5_readBoth_8 (by decide) ?_
    rw [hQ]
    have hP9 := hP.sub (ws' := [(zo7iirrrririii bl esg (nI ecl) eW eA eE eC (nI ecd9_3) aTp (nI ez) (nI ep9_4) (nI em9_5)), (zaI aTp cTp 100 fTp), (zaI eC ceC 100 feC9_6)]) [0, 1, 2] rfl
    have hD9 := hD.sub (ws' := [(zo7iirrrririii bl esg (nI ecl) eW eA eE eC (nI ecd9_3) aTp (nI ez) (nI ep9_4) (nI em9_5)), (zaI aTp cTp 100 fTp), (zaI eC ceC 100 feC9_6)]) [0, 1, 2] (by decide) rfl
    have hK9 := hK.sub (tys' := [(cTp, .int), (ceC, .int)]) [0, 1] rfl
    exact W.zret (v := 0) hx hb hr rfl (fun tQ htQ hWQ => ⟨⟨0, (ecd9_3, ep9_4, em9_5, feC9_6), rfl, Or.inr ⟨rfl, pEv_n eP_8, by omega, by omega, by first | omega | (have := (hXT).2.1; omega), hC_13⟩, by rw [htQ]; exact hP9, va_K.moved hWQ.alike hK9, hD9⟩, hS.F htQ⟩) hS.2.2 dX5_readBoth_9

theorem kc_xEither2_0 : ∀ w ∈ wsX50, w ∈ wsX5_readEither := fun w h => List.mem_cons_of_mem _ (gin_wsX50 w h)
theorem kc_xEither2_1 : (.fieldLink RX5 31 "MistHeaps$Hill" "size" "I" : Cond) ∈ wsX5_readEither := kc_of 123 rfl rfl rfl
set_option maxHeartbeats 4000000 in
set_option maxRecDepth 100000 in
theorem c_xEither2 (l : Launch) (dC : Nat → ClassId) (dI : Nat → Nat → Nat) (sK sV : Nat → Nat) (bl : Nat) (aTp : Nat) (eW : Nat) (eA : Nat) (eE : Nat) (eC : Nat) (ecl : Nat) (ecd : Nat) (esg : Int32) (cTp : ClassId) (ceC : ClassId) (fTp : Nat → Int32) (feC : Nat → Int32) (ez : Nat) (ep : Nat) (em : Nat) (ss : Nat → Nat) (kt : List Nat) (sz : Nat) (hez : ez ≤ 100) (hep : ep ≤ ez) (hem : em ≤ 99) (hXT : XT feC ecd kt ep) (zeC : ∀ k0, k0 < 100 → okC (feC k0)) (gX : TX fTp ez ss) : Met l yX5_readEither wsX5_readEither ({ frames := 16, cells := 0, slots := 0, locals := 355 } : Room) (va_Pc [.ref bl, .int 2] (fun U => U.heap.size = sz ∧ va_P (dC, dI) vwCl [(zo7iirrrririii bl esg (nI ecl) eW eA eE eC (nI ecd) aTp (nI ez) (nI ep) (nI em)), (zaI aTp cTp 100 fTp), (zaI eC ceC 100 feC)] U.heap ∧ va_K (dC, dI) vwCl [(cTp, .int), (ceC, .int)] U ∧ va_D (fun _ => True) [(zo7iirrrririii bl esg (nI ecl) eW eA eE eC (nI ecd) aTp (nI ez) (nI ep) (nI em)), (zaI aTp cTp 100 fTp), (zaI eC ceC 100 feC)] ∧ Gs sK sV (va_A [(zo7iirrrririii bl esg (nI ecl) eW eA eE eC (nI ecd) aTp (nI ez) (nI ep) (nI em)), (zaI aTp cTp 100 fTp), (zaI eC ceC 100 feC)] sz) U)) (va_Qi (fun (r : Int32) (u : (Nat) × (Nat) × (Nat) × (Nat → Int32)) => match u with | (ecd9, ep9, em9, feC9) => (r = 1 ∧ ∃ L0 : List Nat, pSm ss (pFac ss 3) ep = (some L0, ep9) ∧ ep + 3 ≤ ep9 ∧ ep9 ≤ ez ∧ em9 ≤ 99 ∧ L0.length + ep ≤ ep9 ∧ XT feC9 ecd9 (kt ++ L0) ep9 ∧ ∀ k0, k0 < 100 → okC (feC9 k0)) ∨ (r = 0 ∧ pSm ss (pFac ss 3) ep = (none, ep9) ∧ ep9 ≤ ez + 2 ∧ em9 ≤ 99 ∧ ecd9 ≤ 100 ∧ ∀ k0, k0 < 100 → okC (feC9 k0))) (fun (u : (Nat) × (Nat) × (Nat) × (Nat → Int32)) (t : State) => match u with | (ecd9, ep9, em9, feC9) => va_P (dC, dI) vwCl [(zo7iirrrririii bl esg (nI ecl) eW eA eE eC (nI ecd9) aTp (nI ez) (nI ep9) (nI em9)), (zaI aTp cTp 100 fTp), (zaI eC ceC 100 feC9)] t.heap ∧ va_K (dC, dI) vwCl [(cTp, .int), (ceC, .int)] t ∧ va_D (va_A [(zo7iirrrririii bl esg (nI ecl) eW eA eE eC (nI ecd) aTp (nI ez) (nI ep) (nI em)), (zaI aTp cTp 100 fTp), (zaI eC ceC 100 feC)] sz) [(zo7iirrrririii bl esg (nI ecl) eW eA eE eC (nI ecd9) aTp (nI ez) (nI ep9) (nI em9)), (zaI aTp cTp 100 fTp), (zaI eC ceC 100 feC9)]) (va_A [(zo7iirrrririii bl esg (nI ecl) eW eA eE eC (nI ecd) aTp (nI ez) (nI ep) (nI em)), (zaI aTp cTp 100 fTp), (zaI eC ceC 100 feC)] sz)) 0 0 (va_A [(zo7iirrrririii bl esg (nI ecl) eW eA eE eC (nI ecd) aTp (nI ez) (nI ep) (nI em)), (zaI aTp cTp 100 fTp), (zaI eC ceC 100 feC)] sz) := by
  refine met_ofQ (cc := cX5_readEither) (maxL := 3) (ret := (some .boolean)) (by decide) rfl ?_
  intro p e s m args below meth c s₁ Q B hml hv hQ
  obtain ⟨rfl, hsz, hP, hK, hD0, hE⟩ := hv
  have hx := B.exec
  have hb := B.bytes
  have hr := B.returns
  have hts := atoms_spec (ws := wsX5_readEither) B.pre
  have hown : s.vm.findClass RX5 = some m.cls := findClass_of_methodNamed B.named
  have hlocks := B.notSynchronized
  subst hsz
  have hD := hD0.self (sz := s.heap.size)
  generalize hAe : va_A [(zo7iirrrririii bl esg (nI ecl) eW eA eE eC (nI ecd) aTp (nI ez) (nI ep) (nI em)), (zaI aTp cTp 100 fTp), (zaI eC ceC 100 feC)] s.heap.size = A at hD hQ hE ⊢
  have hA : ∀ q : Nat, s.heap.size ≤ q → A q := fun q h => by rw [← hAe]; exact Or.inr h
  have hS : va_S A s.heap s.heap [] := va_S.rf
  have hl := lv_entry [.ref bl, .int 2] (n := 3) (Nat.le_of_ble_eq_true rfl)
  rw [lg_entry_eq]
  generalize (lg_sl [.ref bl, .int 2] ++ List.replicate (3 - (lg_sl [.ref bl, .int 2]).length) Slot.unset).toArray = ls at hl ⊢
  generalize hag : ([.ref bl, .int 2] : List Value).toArray = args at hts hQ ⊢
  have hl : lv_has ls 3 [(0, .ref bl), (1, .int 2)] := hl
  obtain ⟨H, hH⟩ : ∃ H : Heap, H = s.heap := ⟨_, rfl⟩
  rw [← hH] at hP
  rw [← hH]
  have hS : va_S A s.heap H [] := by rw [hH]; exact hS
  obtain ⟨locs, hlo⟩ : ∃ L : List Loc, L = [] := ⟨_, rfl⟩
  rw [← hlo] at hS
  rw [← hlo]
  clear hH hlo
  refine lv_aload_n hx hb dX5_readEither_0 rfl (lv_at hl 0 rfl) ?_
  refine lv_iload_n hx hb dX5_readEither_1 rfl (lv_at hl 1 rfl) ?_
  have hPc := hP.sub (ws' := [(zo7iirrrririii bl esg (nI ecl) eW eA eE eC (nI ecd) aTp (nI ez) (nI ep) (nI em)), (zaI aTp cTp 100 fTp), (zaI eC ceC 100 feC)]) [0, 1, 2] rfl
  have hDc := hD.sub (ws' := [(zo7iirrrririii bl esg (nI ecl) eW eA eE eC (nI ecd) aTp (nI ez) (nI ep) (nI em)), (zaI aTp cTp 100 fTp), (zaI eC ceC 100 feC)]) [0, 1, 2] (by decide) rfl
  have hKc := hK.sub (tys' := [(cTp, .int), (ceC, .int)]) [0, 1] rfl
  have hFc := va_free (wc := [(zo7iirrrririii bl esg (nI ecl) eW eA eE eC (nI ecd) aTp (nI ez) (nI ep) (nI em)), (zaI aTp cTp 100 fTp), (zaI eC ceC 100 feC)]) hD hS hA [0, 1, 2] rfl
  refine va_calli (va_runV (As := [.int 2]) (rest := []) ⟨hx, hb, hml, hown, hts⟩ (c_xBoth2 l dC dI sK sV bl aTp eW eA eE eC ecl ecd esg cTp ceC fTp feC ez ep em ss kt H.size (hez) (by omega) (by omega) ((hXT).mono (by omega)) (zeC) (gX)) (cwV 1 hts gX5_readEither_X5_readBoth rfl rfl rfl hd_yX5_readBoth ⟨Nat.le_of_ble_eq_true rfl, Nat.le_of_ble_eq_true rfl⟩) ⟨fun a U g mk q => by obtain ⟨q0, q1, qP, qK, qD, qhE⟩ := q; exact ⟨q0, q1, qP, va_K.moved (u := U) (U := U.calling g mk a) (Vm.Alike.refl U.vm) qK, qD, qhE.same rfl rfl⟩, va_recv hK hP (ci := 7) (q := (RX5, TX5, 11)) (q0 := 0) rfl rfl, fun U hU hW => ⟨rfl, by rw [hU], by rw [hU]; exact hPc, va_K.moved hW.alike hKc, hDc.weaken (fun _ _ _ _ => trivial), hE.call hS hU hW (fun q h => hFc q h)⟩⟩ rfl rfl hl.1 rfl (lv_room (Nat.le_of_ble_eq_true rfl)) dX5_readEither_2 ⟨Nat.le_of_ble_eq_true rfl, Nat.le_of_ble_eq_true rfl⟩) hS (fun q _ h => hFc q h) hFc (fun r_1 u tC H1 locs htC hvm hw_2 hB hz1 hk1 hS => ?_)
  obtain ⟨ecd9_3, ep9_4, em9_5, feC9_6⟩ := u
  try dsimp only at hw_2 hB
  obtain ⟨hP1, hK1, hD1⟩ := hB
  rw [htC] at hP1
  have hK1 := va_K.moved hvm.symm hK1
  obtain ⟨hP, hD⟩ := va_join (wr := []) (w1 := [(zo7iirrrririii bl esg (nI ecl) eW eA eE eC (nI ecd9_3) aTp (nI ez) (nI ep9_4) (nI em9_5)), (zaI aTp cTp 100 fTp), (zaI eC ceC 100 feC9_6)]) hP hD [0, 1, 2] [] rfl rfl (by decide) (by decide) hk1 hFc hP1 hD1
  have hK := (hK.sub (tys' := []) [] rfl).app hK1
  generalize H1 = H at hP hS ⊢
  have hP : va_P (dC, dI) vwCl [(zo7iirrrririii bl esg (nI ecl) eW eA eE eC (nI ecd9_3) aTp (nI ez) (nI ep9_4) (nI em9_5)), (zaI aTp cTp 100 fTp), (zaI eC ceC 100 feC9_6)] H := hP
  have hD : va_D A [(zo7iirrrririii bl esg (nI ecl) eW eA eE eC (nI ecd9_3) aTp (nI ez) (nI ep9_4) (nI em9_5)), (zaI aTp cTp 100 fTp), (zaI eC ceC 100 feC9_6)] := hD
  have hK : va_K (dC, dI) vwCl [(cTp, .int), (ceC, .int)] s := hK
  rcases hw_2 with ⟨rfl, L_7, eP_8, h_9, h_10, h_11, h_12, hX_14, hC_13⟩ | ⟨rfl, eP_8, h_9, h_10, h_11, hC_13⟩
  · skip
    refine lv_if_ne (tgt := 10) hx hb dX5_readEither_5 (by decide) (fun _ => ?_) (fun c_15 => absurd c_15 (by decide))
    refine lv_iconst (v := 0) hx hb dX5_readEither_10 (by decide) ?_
    refine lv_istore_n (lv' := [(2, .int 0), (0, .ref bl), (1, .int 2)]) hx hb dX5_readEither_11 rfl hl (by decide) rfl (fun ls hl => ?_)
    have L12 : ∀ (nF : Nat) (i : Nat) (ecd2 : Nat) (ep2 : Nat) (em2 : Nat) (feC2 : Nat → Int32) (L1 : List Nat) (m1 : Nat), ez - i < nF → (i ≤ ez) → (pSm ss (pFac ss 3) ep = pSep ss 124 1803 (pEv ss (pFac ss 3)) m1 (some L1, ep2) ∧ 101 ≤ m1 + ep2) → (ep + 3 + 2 * i ≤ ep2 ∧ ep2 ≤ ez ∧ em2 ≤ 99) → (L1.length + ep ≤ ep2) → (XT feC2 ecd2 (kt ++ L1) ep2) → (∀ k0, k0 < 100 → okC (feC2 k0)) → ∀ (H : Heap) (locs : List Loc), va_K (dC, dI) vwCl [(cTp, .int), (ceC, .int)] s → va_P (dC, dI) vwCl [(zo7iirrrririii bl esg (nI ecl) eW eA eE eC (nI ecd2) aTp (nI ez) (nI ep2) (nI em2)), (zaI aTp cTp 100 fTp), (zaI eC ceC 100 feC2)] H → va_D A [(zo7iirrrririii bl esg (nI ecl) eW eA eE eC (nI ecd2) aTp (nI ez) (nI ep2) (nI em2)), (zaI aTp cTp 100 fTp), (zaI eC ceC 100 feC2)] → va_S A s.heap H locs → ∀ (ls : Array Slot), lv_has ls 3 [(0, .ref bl), (1, .int 2), (2, .int (nI i))] → W p l e ({ frames := 16, cells := 0, slots := 0, locals := 355 } : Room) s m args below meth c H locs 0 0 Q (F0 m 12 ls []) := by
      intro nF
      induction nF with
      | zero => intro i ecd2 ep2 em2 feC2 L1 m1 hm; exact absurd hm (Nat.not_lt_zero _)
      | succ nF ih12 =>
        intro i ecd2 ep2 em2 feC2 L1 m1 hm hii hE9 hp2 hL2 hX2 zC2 H locs hK hP hD hS ls hl
        obtain ⟨hE9, hm9⟩ := hE9
        obtain ⟨hp2a, hp2b, hp2c⟩ := hp2
        refine lv_iload_n hx hb dX5_readEither_12 rfl (lv_at hl 2 rfl) ?_
        refine lv_aload_n hx hb dX5_readEither_13 rfl (lv_at hl 0 rfl) ?_
        refine va_get (D := (dC, dI)) (ci := 7) (v := .int (nI ez)) (C := RX5) (T := TX5) (N := 11) hx hb hts kc_xEither2_0 hown hK hP 0 rfl rfl 8 (by decide) (hts (.fieldLink RX5 31 "MistHeaps$Hill" "size" "I") kc_xEither2_1) (fun _ h9 => h9) rfl dX5_readEither_14 ?_
        refine lv_icmp_ge (tgt := 51) hx hb dX5_readEither_17 (by decide) (fun c_16 => ?_) (fun c_16 => ?_)
        · skip
          have c_16 : ez ≤ i := (nI_leI (a := ez) (b := i) (by omega) (by omega)).mp c_16
          refine lv_iconst (v := 1) hx hb dX5_readEither_51 (by decide) ?_
          rw [hQ]
          have hP9 := hP.sub (ws' := [(zo7iirrrririii bl esg (nI ecl) eW eA eE eC (nI ecd2) aTp (nI ez) (nI ep2) (nI em2)), (zaI aTp cTp 100 fTp), (zaI eC ceC 100 feC2)]) [0, 1, 2] rfl
          have hD9 := hD.sub (ws' := [(zo7iirrrririii bl esg (nI ecl) eW eA eE eC (nI ecd2) aTp (nI ez) (nI ep2) (nI em2)), (zaI aTp cTp 100 fTp), (zaI eC ceC 100 feC2)]) [0, 1, 2] (by decide) rfl
          have hK9 := hK.sub (tys' := [(cTp, .int), (ceC, .int)]) [0, 1] rfl
          exact W.zret (v := 1) hx hb hr rfl (fun tQ htQ hWQ => ⟨⟨1, (ecd2, ep2, em2, feC2), rfl, Or.inl ⟨rfl, L1, hE9.trans (ps_end (fun z => by have := gX.2.1 ep2 (by omega); omega)), by omega, by omega, by omega, by (try simp only [List.length_append, List.length_cons, List.length_nil]); omega, hX2, zC2⟩, by rw [htQ]; exact hP9, va_K.moved hWQ.alike hK9, hD9⟩, hS.F htQ⟩) hS.2.2 dX5_readEither_52
        · skip
          have c_16 : ¬ ez ≤ i := fun q => c_16 ((nI_leI (a := ez) (b := i) (by omega) (by omega)).mpr q)
          refine lv_aload_n hx hb dX5_readEither_20 rfl (lv_at hl 0 rfl) ?_
          refine lv_bipush (v := 124) hx hb dX5_readEither_21 (by decide) ?_
          have hPc := hP.sub (ws' := [(zo7iirrrririii bl esg (nI ecl) eW eA eE eC (nI ecd2) aTp (nI ez) (nI ep2) (nI em2)), (zaI aTp cTp 100 fTp)]) [0, 1] rfl
          have hDc := hD.sub (ws' := [(zo7iirrrririii bl esg (nI ecl) eW eA eE eC (nI ecd2) aTp (nI ez) (nI ep2) (nI em2)), (zaI aTp cTp 100 fTp)]) [0, 1] (by decide) rfl
          have hKc := hK.sub (tys' := [(cTp, .int)]) [0] rfl
          have hFc := va_free (wc := [(zo7iirrrririii bl esg (nI ecl) eW eA eE eC (nI ecd2) aTp (nI ez) (nI ep2) (nI em2)), (zaI aTp cTp 100 fTp)]) hD hS hA [0, 1] rfl
          refine va_calli (va_runV (As := [.int 124]) (rest := []) ⟨hx, hb, hml, hown, hts⟩ (c_xReadSign l dC dI bl aTp eW eA eE eC 124 ecl ecd2 esg cTp fTp ez ep2 em2 ss H.size (hez) (by omega) (by decide) (by decide) (gX)) (cwV 1 hts gX5_readEither_X5_readSign rfl rfl rfl hd_yX5_readSign ⟨Nat.le_of_ble_eq_true rfl, Nat.le_of_ble_eq_true rfl⟩) ⟨fun a U g mk q => by obtain ⟨q0, q1, qP, qK, qD⟩ := q; exact ⟨q0, q1, qP, va_K.moved (u := U) (U := U.calling g mk a) (Vm.Alike.refl U.vm) qK, qD⟩, va_recv hK hP (ci := 7) (q := (RX5, TX5, 11)) (q0 := 0) rfl rfl, fun U hU hW => ⟨rfl, by rw [hU], by rw [hU]; exact hPc, va_K.moved hW.alike hKc, hDc.weaken (fun _ _ _ _ => trivial)⟩⟩ rfl rfl hl.1 rfl (lv_room (Nat.le_of_ble_eq_true rfl)) dX5_readEither_23 ⟨Nat.le_of_ble_eq_true rfl, Nat.le_of_ble_eq_true rfl⟩) hS (fun q _ h => hFc q h) hFc (fun r_17 u tC H1 locs htC hvm hw_18 hB hz1 hk1 hS => ?_)
          obtain ⟨ep9_19, rfl⟩ : ∃ z, z = u := ⟨_, rfl⟩
          try dsimp only at hw_18 hB
          obtain ⟨hP1, hK1, hD1⟩ := hB
          rw [htC] at hP1
          have hK1 := va_K.moved hvm.symm hK1
          obtain ⟨hP, hD⟩ := va_join (wr := [(zaI eC ceC 100 feC2)]) (w1 := [(zo7iirrrririii bl esg (nI ecl) eW eA eE eC (nI ecd2) aTp (nI ez) (nI ep9_19) (nI em2)), (zaI aTp cTp 100 fTp)]) hP hD [0, 1] [2] rfl rfl (by decide) (by decide) hk1 hFc hP1 hD1
          have hK := (hK.sub (tys' := [(ceC, .int)]) [1] rfl).app hK1
          generalize H1 = H at hP hS ⊢
          have hP : va_P (dC, dI) vwCl [(zaI eC ceC 100 feC2), (zo7iirrrririii bl esg (nI ecl) eW eA eE eC (nI ecd2) aTp (nI ez) (nI ep9_19) (nI em2)), (zaI aTp cTp 100 fTp)] H := hP
          have hD : va_D A [(zaI eC ceC 100 feC2), (zo7iirrrririii bl esg (nI ecl) eW eA eE eC (nI ecd2) aTp (nI ez) (nI ep9_19) (nI em2)), (zaI aTp cTp 100 fTp)] := hD
          have hK : va_K (dC, dI) vwCl [(ceC, .int), (cTp, .int)] s := hK
          rcases hw_18 with ⟨rfl, hy9, h_20, e_21⟩ | ⟨rfl, hn9, e_21⟩
          · skip
            obtain rfl := (e_21).symm
            obtain ⟨m2, rfl⟩ : ∃ q : Nat, m1 = q + 1 := ⟨m1 - 1, by omega⟩
            refine lv_if_eq (tgt := 51) hx hb dX5_readEither_26 (by decide) (fun c_22 => absurd c_22 (by decide)) (fun _ => ?_)
            refine lv_aload_n hx hb dX5_readEither_29 rfl (lv_at hl 0 rfl) ?_
            refine lv_iload_n hx hb dX5_readEither_30 rfl (lv_at hl 1 rfl) ?_
            have hPc := hP.sub (ws' := [(zo7iirrrririii bl esg (nI ecl) eW eA eE eC (nI ecd2) aTp (nI ez) (nI (ep2 + 1)) (nI em2)), (zaI aTp cTp 100 fTp), (zaI eC ceC 100 feC2)]) [1, 2, 0] rfl
            have hDc := hD.sub (ws' := [(zo7iirrrririii bl esg (nI ecl) eW eA eE eC (nI ecd2) aTp (nI ez) (nI (ep2 + 1)) (nI em2)), (zaI aTp cTp 100 fTp), (zaI eC ceC 100 feC2)]) [1, 2, 0] (by decide) rfl
            have hKc := hK.sub (tys' := [(cTp, .int), (ceC, .int)]) [1, 0] rfl
            have hFc := va_free (wc := [(zo7iirrrririii bl esg (nI ecl) eW eA eE eC (nI ecd2) aTp (nI ez) (nI (ep2 + 1)) (nI em2)), (zaI aTp cTp 100 fTp), (zaI eC ceC 100 feC2)]) hD hS hA [1, 2, 0] rfl
            refine va_calli (va_runV (As := [.int 2]) (rest := []) ⟨hx, hb, hml, hown, hts⟩ (c_xBoth2 l dC dI sK sV bl aTp eW eA eE eC ecl ecd2 esg cTp ceC fTp feC2 ez (ep2 + 1) em2 ss (kt ++ L1) H.size (hez) (by omega) (by omega) ((hX2).mono (by omega)) (zC2) (gX)) (cwV 1 hts gX5_readEither_X5_readBoth rfl rfl rfl hd_yX5_readBoth ⟨Nat.le_of_ble_eq_true rfl, Nat.le_of_ble_eq_true rfl⟩) ⟨fun a U g mk q => by obtain ⟨q0, q1, qP, qK, qD, qhE⟩ := q; exact ⟨q0, q1, qP, va_K.moved (u := U) (U := U.calling g mk a) (Vm.Alike.refl U.vm) qK, qD, qhE.same rfl rfl⟩, va_recv hK hP (ci := 7) (q := (RX5, TX5, 11)) (q0 := 1) rfl rfl, fun U hU hW => ⟨rfl, by rw [hU], by rw [hU]; exact hPc, va_K.moved hW.alike hKc, hDc.weaken (fun _ _ _ _ => trivial), hE.call hS hU hW (fun q h => hFc q h)⟩⟩ rfl rfl hl.1 rfl (lv_room (Nat.le_of_ble_eq_true rfl)) dX5_readEither_31 ⟨Nat.le_of_ble_eq_true rfl, Nat.le_of_ble_eq_true rfl⟩) hS (fun q _ h => hFc q h) hFc (fun r_23 u tC H1 locs htC hvm hw_24 hB hz1 hk1 hS => ?_)
            obtain ⟨ecd9_25, ep9_26, em9_27, feC9_28⟩ := u
            try dsimp only at hw_24 hB
            obtain ⟨hP1, hK1, hD1⟩ := hB
            rw [htC] at hP1
            have hK1 := va_K.moved hvm.symm hK1
            obtain ⟨hP, hD⟩ := va_join (wr := []) (w1 := [(zo7iirrrririii bl esg (nI ecl) eW eA eE eC (nI ecd9_25) aTp (nI ez) (nI ep9_26) (nI em9_27)), (zaI aTp cTp 100 fTp), (zaI eC ceC 100 feC9_28)]) hP hD [1, 2, 0] [] rfl rfl (by decide) (by decide) hk1 hFc hP1 hD1
            have hK := (hK.sub (tys' := []) [] rfl).app hK1
            generalize H1 = H at hP hS ⊢
            have hP : va_P (dC, dI) vwCl [(zo7iirrrririii bl esg (nI ecl) eW eA eE eC (nI ecd9_25) aTp (nI ez) (nI ep9_26) (nI em9_27)), (zaI aTp cTp 100 fTp), (zaI eC ceC 100 feC9_28)] H := hP
            have hD : va_D A [(zo7iirrrririii bl esg (nI ecl) eW eA eE eC (nI ecd9_25) aTp (nI ez) (nI ep9_26) (nI em9_27)), (zaI aTp cTp 100 fTp), (zaI eC ceC 100 feC9_28)] := hD
            have hK : va_K (dC, dI) vwCl [(cTp, .int), (ceC, .int)] s := hK
            rcases hw_24 with ⟨rfl, L_29, eP_30, h_31, h_32, h_33, h_34, hX_36, hC_35⟩ | ⟨rfl, eP_30, h_31, h_32, h_33, hC_35⟩
            · skip
              refine lv_if_ne (tgt := 39) hx hb dX5_readEither_34 (by decide) (fun _ => ?_) (fun c_37 => absurd c_37 (by decide))
              refine lv_aload_n hx hb dX5_readEither_39 rfl (lv_at hl 0 rfl) ?_
              refine lv_bipush (v := (-3)) hx hb dX5_readEither_40 (by decide) ?_
              have hPc := hP.sub (ws' := [(zo7iirrrririii bl esg (nI ecl) eW eA eE eC (nI ecd9_25) aTp (nI ez) (nI ep9_26) (nI em9_27)), (zaI eC ceC 100 feC9_28)]) [0, 2] rfl
              have hDc := hD.sub (ws' := [(zo7iirrrririii bl esg (nI ecl) eW eA eE eC (nI ecd9_25) aTp (nI ez) (nI ep9_26) (nI em9_27)), (zaI eC ceC 100 feC9_28)]) [0, 2] (by decide) rfl
              have hKc := hK.sub (tys' := [(ceC, .int)]) [1] rfl
              have hFc := va_free (wc := [(zo7iirrrririii bl esg (nI ecl) eW eA eE eC (nI ecd9_25) aTp (nI ez) (nI ep9_26) (nI em9_27)), (zaI eC ceC 100 feC9_28)]) hD hS hA [0, 2] rfl
              refine va_callv (va_runV (As := [.int (-3)]) (rest := []) ⟨hx, hb, hml, hown, hts⟩ (c_xCode l dC dI bl aTp eW eA eE eC ecl ecd9_25 (-3) esg ceC feC9_28 ez ep9_26 em9_27 ((kt ++ L1) ++ L_29) 1803 H.size ((hX_36).mono (by omega)) (by have h6 := (hX_36).1; have h7 := (hX_36).2.1; have h8 := hXT.1; have h9 := hXT.2.1; (try simp only [List.length_append] at h6); omega) (hC_35) (Or.inr (Or.inr (Or.inl rfl))) (by decide)) (cwV 1 hts gX5_readEither_X5_code rfl rfl rfl hd_yX5_code ⟨Nat.le_of_ble_eq_true rfl, Nat.le_of_ble_eq_true rfl⟩) ⟨fun a U g mk q => by obtain ⟨q0, q1, qP, qK, qD⟩ := q; exact ⟨q0, q1, qP, va_K.moved (u := U) (U := U.calling g mk a) (Vm.Alike.refl U.vm) qK, qD⟩, va_recv hK hP (ci := 7) (q := (RX5, TX5, 11)) (q0 := 0) rfl rfl, fun U hU hW => ⟨rfl, by rw [hU], by rw [hU]; exact hPc, va_K.moved hW.alike hKc, hDc.weaken (fun _ _ _ _ => trivial)⟩⟩ rfl rfl hl.1 rfl (lv_room (Nat.le_of_ble_eq_true rfl)) dX5_readEither_42 ⟨Nat.le_of_ble_eq_true rfl, Nat.le_of_ble_eq_true rfl⟩) hS (fun q _ h => hFc q h) hFc (fun u tC H1 locs htC hvm hw_39 hB hz1 hk1 hS => ?_)
              obtain ⟨ecd9_40, feC9_41⟩ := u
              try dsimp only at hw_39 hB
              obtain ⟨hP1, hK1, hD1⟩ := hB
              rw [htC] at hP1
              have hK1 := va_K.moved hvm.symm hK1
              obtain ⟨hP, hD⟩ := va_join (wr := [(zaI aTp cTp 100 fTp)]) (w1 := [(zo7iirrrririii bl esg (nI ecl) eW eA eE eC (nI ecd9_40) aTp (nI ez) (nI ep9_26) (nI em9_27)), (zaI eC ceC 100 feC9_41)]) hP hD [0, 2] [1] rfl rfl (by decide) (by decide) hk1 hFc hP1 hD1
              have hK := (hK.sub (tys' := [(cTp, .int)]) [0] rfl).app hK1
              generalize H1 = H at hP hS ⊢
              have hP : va_P (dC, dI) vwCl [(zaI aTp cTp 100 fTp), (zo7iirrrririii bl esg (nI ecl) eW eA eE eC (nI ecd9_40) aTp (nI ez) (nI ep9_26) (nI em9_27)), (zaI eC ceC 100 feC9_41)] H := hP
              have hD : va_D A [(zaI aTp cTp 100 fTp), (zo7iirrrririii bl esg (nI ecl) eW eA eE eC (nI ecd9_40) aTp (nI ez) (nI ep9_26) (nI em9_27)), (zaI eC ceC 100 feC9_41)] := hD
              have hK : va_K (dC, dI) vwCl [(cTp, .int), (ceC, .int)] s := hK
              obtain ⟨e_42, hC_43, h_44⟩ := hw_39
              obtain rfl := (e_42).symm
              have hX_45 : XT feC9_41 (ecd9_25 + 1) (((kt ++ L1) ++ L_29) ++ [1803]) (ep9_26) := ⟨by rw [List.length_append, (hX_36).1]; rfl, by have h6 := (hX_36).1; have h7 := (hX_36).2.1; have h8 := hXT.1; have h9 := hXT.2.1; (try simp only [List.length_append] at h6); omega, h_44⟩
              refine lv_iinc (v := nI (i + 1)) (lv' := [(2, .int (nI (i + 1))), (0, .ref bl), (1, .int 2)]) hx hb dX5_readEither_45 hl (k := 2) rfl (nI_add i 1) (by decide) rfl (fun ls hl => ?_)
              refine lv_goto (tgt := 12) hx hb dX5_readEither_48 (by decide) ?_
              exact ih12 (i + 1) _ _ _ _ (L1 ++ (L_29 ++ [1803])) (m2) (by omega) (by omega) (⟨hE9.trans (ps_go hy9 eP_30), by omega⟩) (by omega) (by simp only [List.length_append, List.length_cons, List.length_nil]; omega) (XT.as (XT.as (hX_45))) (hC_43) _ _ (hK.sub [0, 1] rfl) (hP.sub [1, 0, 2] rfl) (hD.sub [1, 0, 2] (by decide) rfl) hS ls (lv_sub hl [1, 2, 0] rfl)
            · skip
              refine lv_if_ne (tgt := 39) hx hb dX5_readEither_34 (by decide) (fun c_46 => absurd c_46 (by decide)) (fun _ => ?_)
              refine lv_iconst (v := 0) hx hb dX5_readEither_37 (by decide) ?_
              rw [hQ]
              have hP9 := hP.sub (ws' := [(zo7iirrrririii bl esg (nI ecl) eW eA eE eC (nI ecd9_25) aTp (nI ez) (nI ep9_26) (nI em9_27)), (zaI aTp cTp 100 fTp), (zaI eC ceC 100 feC9_28)]) [0, 1, 2] rfl
              have hD9 := hD.sub (ws' := [(zo7iirrrririii bl esg (nI ecl) eW eA eE eC (nI ecd9_25) aTp (nI ez) (nI ep9_26) (nI em9_27)), (zaI aTp cTp 100 fTp), (zaI eC ceC 100 feC9_28)]) [0, 1, 2] (by decide) rfl
              have hK9 := hK.sub (tys' := [(cTp, .int), (ceC, .int)]) [0, 1] rfl
              exact W.zret (v := 0) hx hb hr rfl (fun tQ htQ hWQ => ⟨⟨0, (ecd9_25, ep9_26, em9_27, feC9_28), rfl, Or.inr ⟨rfl, hE9.trans (ps_bad hy9 eP_30), by omega, by omega, by first | omega | (have := (hXT).2.1; omega), hC_35⟩, by rw [htQ]; exact hP9, va_K.moved hWQ.alike hK9, hD9⟩, hS.F htQ⟩) hS.2.2 dX5_readEither_38
          · skip
            obtain rfl := (e_21).symm
            refine lv_if_eq (tgt := 51) hx hb dX5_readEither_26 (by decide) (fun _ => ?_) (fun c_47 => absurd c_47 (by decide))
            refine lv_iconst (v := 1) hx hb dX5_readEither_51 (by decide) ?_
            rw [hQ]
            have hP9 := hP.sub (ws' := [(zo7iirrrririii bl esg (nI ecl) eW eA eE eC (nI ecd2) aTp (nI ez) (nI ep2) (nI em2)), (zaI aTp cTp 100 fTp), (zaI eC ceC 100 feC2)]) [1, 2, 0] rfl
            have hD9 := hD.sub (ws' := [(zo7iirrrririii bl esg (nI ecl) eW eA eE eC (nI ecd2) aTp (nI ez) (nI ep2) (nI em2)), (zaI aTp cTp 100 fTp), (zaI eC ceC 100 feC2)]) [1, 2, 0] (by decide) rfl
            have hK9 := hK.sub (tys' := [(cTp, .int), (ceC, .int)]) [1, 0] rfl
            exact W.zret (v := 1) hx hb hr rfl (fun tQ htQ hWQ => ⟨⟨1, (ecd2, ep2, em2, feC2), rfl, Or.inl ⟨rfl, L1, hE9.trans (ps_end hn9), by omega, by omega, by omega, by (try simp only [List.length_append, List.length_cons, List.length_nil]); omega, hX2, zC2⟩, by rw [htQ]; exact hP9, va_K.moved hWQ.alike hK9, hD9⟩, hS.F htQ⟩) hS.2.2 dX5_readEither_52
    exact L12 _ (0) _ _ _ _ (L_7) (101) (Nat.lt_succ_self _) (by omega) (⟨pSm_s eP_8, by omega⟩) (by omega) (by omega) (hX_14) (hC_13) _ _ (hK.sub [0, 1] rfl) (hP.sub [0, 1, 2] rfl) (hD.sub [0, 1, 2] (by decide) rfl) hS ls (lv_sub hl [1, 2, 0] rfl)
  · skip
    refine lv_if_ne (tgt := 10) hx hb dX5_readEither_5 (by decide) (fun c_48 => absurd c_48 (by decide)) (fun _ => ?_)
    refine lv_iconst (v := 0) hx hb dX5_readEither_8 (by decide) ?_
    rw [hQ]
    have hP9 := hP.sub (ws' := [(zo7iirrrririii bl esg (nI ecl) eW eA eE eC (nI ecd9_3) aTp (nI ez) (nI ep9_4) (nI em9_5)), (zaI aTp cTp 100 fTp), (zaI eC ceC 100 feC9_6)]) [0, 1, 2] rfl
    have hD9 := hD.sub (ws' := [(zo7iirrrririii bl esg (nI ecl) eW eA eE eC (nI ecd9_3) aTp (nI ez) (nI ep9_4) (nI em9_5)), (zaI aTp cTp 100 fTp), (zaI eC ceC 100 feC9_6)]) [0, 1, 2] (by decide) rfl
    have hK9 := hK.sub (tys' := [(cTp, .int), (ceC, .int)]) [0, 1] rfl
    exact W.zret (v := 0) hx hb hr rfl (fun tQ htQ hWQ => ⟨⟨0, (ecd9_3, ep9_4, em9_5, feC9_6), rfl, Or.inr ⟨rfl, pSm_n eP_8, by omega, by omega, by first | omega | (have := (hXT).2.1; omega), hC_13⟩, by rw [htQ]; exact hP9, va_K.moved hWQ.alike hK9, hD9⟩, hS.F htQ⟩) hS.2.2 dX5_readEither_9
