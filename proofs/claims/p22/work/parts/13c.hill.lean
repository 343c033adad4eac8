theorem ggX12_clauseHere_X12_here : GoodIn wsX12_clauseHere wsX12_here := gga_of 1229 rfl rfl rfl
theorem gX12_clauseHere_X12_here : GoodIn wsX12_clauseHere (wsV RX12 69 RX12 yX12_here wsX12_here) := goodIn_app (ggh_of [1226, 1228, 22, 72] rfl rfl rfl) ggX12_clauseHere_X12_here
theorem ggX12_clauseHere_X12_much : GoodIn wsX12_clauseHere wsX12_much := gga_of 1242 rfl rfl rfl
theorem gX12_clauseHere_X12_much : GoodIn wsX12_clauseHere (wsV RX12 121 RX12 yX12_much wsX12_much) := goodIn_app (ggh_of [1239, 1241, 25, 72] rfl rfl rfl) ggX12_clauseHere_X12_much
theorem ggX12_clauseHere_X12_clauseOfS : GoodIn wsX12_clauseHere wsX12_clauseOfS := gga_of 1233 rfl rfl rfl
theorem gX12_clauseHere_X12_clauseOfS : GoodIn wsX12_clauseHere (wsV RX12 127 RX12 yX12_clauseOfS wsX12_clauseOfS) := goodIn_app (ggh_of [1230, 1232, 23, 72] rfl rfl rfl) ggX12_clauseHere_X12_clauseOfS
noncomputable def dk13chill_cX12_clauseHere_0 : List (Nat × Instr × Nat) := [(0, .aload_n 0, 1), (1, .invokevirtual 69, 3), (4, .lookupswitch 67 #[(100, 55), (104, 43), (115, 36)], 36), (59, .aload_n 0, 1), (60, .sipush (-400), 3), (63, .ldc 132, 2), (65, .invokevirtual 121, 3), (68, .goto 8, 3), (76, .return_, 1), (47, .aload_n 0, 1), (48, .sipush (-200), 3), (51, .ldc 130, 2), (53, .invokevirtual 121, 3), (56, .goto 20, 3), (40, .aload_n 0, 1), (41, .invokevirtual 127, 3), (44, .goto 32, 3), (71, .aload_n 0, 1), (72, .iconst 1, 1), (73, .putfield 65, 3)]
set_option maxRecDepth 100000 in
theorem dk13chill_cX12_clauseHere_0_a : dkA cX12_clauseHere dk13chill_cX12_clauseHere_0 = true := by decide +kernel
theorem dX12_clauseHere_0 : decode cX12_clauseHere 0 = .ok (.aload_n 0, 1) := dkAt dk13chill_cX12_clauseHere_0_a 0 rfl
theorem dX12_clauseHere_1 : decode cX12_clauseHere 1 = .ok (.invokevirtual 69, 3) := dkAt dk13chill_cX12_clauseHere_0_a 1 rfl
theorem dX12_clauseHere_4 : decode cX12_clauseHere 4 = .ok (.lookupswitch 67 #[(100, 55), (104, 43), (115, 36)], 36) := dkAt dk13chill_cX12_clauseHere_0_a 2 rfl
theorem dX12_clauseHere_59 : decode cX12_clauseHere 59 = .ok (.aload_n 0, 1) := dkAt dk13chill_cX12_clauseHere_0_a 3 rfl
theorem dX12_clauseHere_60 : decode cX12_clauseHere 60 = .ok (.sipush (-400), 3) := dkAt dk13chill_cX12_clauseHere_0_a 4 rfl
theorem dX12_clauseHere_63 : decode cX12_clauseHere 63 = .ok (.ldc 132, 2) := dkAt dk13chill_cX12_clauseHere_0_a 5 rfl
theorem dX12_clauseHere_65 : decode cX12_clauseHere 65 = .ok (.invokevirtual 121, 3) := dkAt dk13chill_cX12_clauseHere_0_a 6 rfl
theorem dX12_clauseHere_68 : decode cX12_clauseHere 68 = .ok (.goto 8, 3) := dkAt dk13chill_cX12_clauseHere_0_a 7 rfl
theorem dX12_clauseHere_76 : decode cX12_clauseHere 76 = .ok (.return_, 1) := dkAt dk13chill_cX12_clauseHere_0_a 8 rfl
theorem dX12_clauseHere_47 : decode cX12_clauseHere 47 = .ok (.aload_n 0, 1) := dkAt dk13chill_cX12_clauseHere_0_a 9 rfl
theorem dX12_clauseHere_48 : decode cX12_clauseHere 48 = .ok (.sipush (-200), 3) := dkAt dk13chill_cX12_clauseHere_0_a 10 rfl
theorem dX12_clauseHere_51 : decode cX12_clauseHere 51 = .ok (.ldc 130, 2) := dkAt dk13chill_cX12_clauseHere_0_a 11 rfl
theorem dX12_clauseHere_53 : decode cX12_clauseHere 53 = .ok (.invokevirtual 121, 3) := dkAt dk13chill_cX12_clauseHere_0_a 12 rfl
theorem dX12_clauseHere_56 : decode cX12_clauseHere 56 = .ok (.goto 20, 3) := dkAt dk13chill_cX12_clauseHere_0_a 13 rfl
theorem dX12_clauseHere_40 : decode cX12_clauseHere 40 = .ok (.aload_n 0, 1) := dkAt dk13chill_cX12_clauseHere_0_a 14 rfl
theorem dX12_clauseHere_41 : decode cX12_clauseHere 41 = .ok (.invokevirtual 127, 3) := dkAt dk13chill_cX12_clauseHere_0_a 15 rfl
theorem dX12_clauseHere_44 : decode cX12_clauseHere 44 = .ok (.goto 32, 3) := dkAt dk13chill_cX12_clauseHere_0_a 16 rfl
theorem dX12_clauseHere_71 : decode cX12_clauseHere 71 = .ok (.aload_n 0, 1) := dkAt dk13chill_cX12_clauseHere_0_a 17 rfl
theorem dX12_clauseHere_72 : decode cX12_clauseHere 72 = .ok (.iconst 1, 1) := dkAt dk13chill_cX12_clauseHere_0_a 18 rfl
theorem dX12_clauseHere_73 : decode cX12_clauseHere 73 = .ok (.putfield 65, 3) := dkAt dk13chill_cX12_clauseHere_0_a 19 rfl
theorem kc_clauseHere_0 : ∀ w ∈ wsX120, w ∈ wsX12_clauseHere := fun w h => List.mem_cons_of_mem _ (gin_wsX120 w h)
theorem kc_clauseHere_1 : (.fieldLink RX12 65 "MistHeapsModel" "isWrong" "Z" : Cond) ∈ wsX12_clauseHere := kc_of 1147 rfl rfl rfl
set_option maxHeartbeats 4000000 in
set_option maxRecDepth 100000 in
theorem c_clauseHere (l : Launch) (dC : Nat → ClassId) (dI : Nat → Nat → Nat) (sK sV : Nat → Nat) (m0 aS aI aB aT aG aO aN aD aY : Nat) (th im ac sp en wg op se dn rn kd nu tv : Int32) (bv : Int64) (cS : ClassId) (fS : Nat → Int32) (a p0 E : Nat) (K : List Nat) (ss : Nat → Nat) (sz : Nat) (ga : a < 5) (gE : E ≤ 100) (gp : p0 ≤ E) (gI : PI fS a K 0 p0 E) (gT : TP fS E ss) : Met l yX12_clauseHere wsX12_clauseHere ({ frames := 25, cells := 0, slots := 0, locals := 535 } : Room) (va_Pc [.ref m0] (fun U => U.heap.size = sz ∧ va_P (dC, dI) vwCl [(zo14irriiiiiirriirrrrlriiii m0 th aS aI im (nI a) (nI p0) (nI E) 0 0 aB aT se dn aG aO aN aD bv aY rn kd nu tv), (zaI aS cS 901 fS)] U.heap ∧ va_K (dC, dI) vwCl [(cS, .int)] U ∧ va_D (fun _ => True) [(zo14irriiiiiirriirrrrlriiii m0 th aS aI im (nI a) (nI p0) (nI E) 0 0 aB aT se dn aG aO aN aD bv aY rn kd nu tv), (zaI aS cS 901 fS)] ∧ Gs sK sV (va_A [(zo14irriiiiiirriirrrrlriiii m0 th aS aI im (nI a) (nI p0) (nI E) 0 0 aB aT se dn aG aO aN aD bv aY rn kd nu tv), (zaI aS cS 901 fS)] sz) U)) (va_Qv (fun (u : (Nat → Int32) × (Int32) × (Int32)) => match u with | (fS9, sp9, wg9) => ∃ p9 : Nat, sp9 = nI p9 ∧ p0 ≤ p9 ∧ p9 ≤ E ∧ PQ a fS fS9 ∧ ((wg9 = 1 ∧ pCl ss p0 = (none, p9)) ∨ (wg9 = 0 ∧ ∃ c9 : pCla, pCl ss p0 = (some c9, p9) ∧ PI fS9 a (K ++ fl1 c9) 0 p9 E ∧ fS9 (191 + a) = if c9.1 = 2 then nI c9.2.1 else fS (191 + a)))) (fun (u : (Nat → Int32) × (Int32) × (Int32)) (t : State) => match u with | (fS9, sp9, wg9) => va_P (dC, dI) vwCl [(zo14irriiiiiirriirrrrlriiii m0 th aS aI im (nI a) sp9 (nI E) wg9 0 aB aT se dn aG aO aN aD bv aY rn kd nu tv), (zaI aS cS 901 fS9)] t.heap ∧ va_K (dC, dI) vwCl [(cS, .int)] t ∧ va_D (va_A [(zo14irriiiiiirriirrrrlriiii m0 th aS aI im (nI a) (nI p0) (nI E) 0 0 aB aT se dn aG aO aN aD bv aY rn kd nu tv), (zaI aS cS 901 fS)] sz) [(zo14irriiiiiirriirrrrlriiii m0 th aS aI im (nI a) sp9 (nI E) wg9 0 aB aT se dn aG aO aN aD bv aY rn kd nu tv), (zaI aS cS 901 fS9)]) (va_A [(zo14irriiiiiirriirrrrlriiii m0 th aS aI im (nI a) (nI p0) (nI E) 0 0 aB aT se dn aG aO aN aD bv aY rn kd nu tv), (zaI aS cS 901 fS)] sz)) 0 0 (va_A [(zo14irriiiiiirriirrrrlriiii m0 th aS aI im (nI a) (nI p0) (nI E) 0 0 aB aT se dn aG aO aN aD bv aY rn kd nu tv), (zaI aS cS 901 fS)] sz) := by
  refine met_ofQ (cc := cX12_clauseHere) (maxL := 1) (ret := none) (by decide) rfl ?_
  intro p e s m args below meth c s₁ Q B hml hv hQ
  obtain ⟨rfl, hsz, hP, hK, hD0, hE⟩ := hv
  have hx := B.exec
  have hb := B.bytes
  have hr := B.returns
  have hts := atoms_spec (ws := wsX12_clauseHere) B.pre
  have hown : s.vm.findClass RX12 = some m.cls := findClass_of_methodNamed B.named
  have hlocks := B.notSynchronized
  subst hsz
  have hD := hD0.self (sz := s.heap.size)
  generalize hAe : va_A [(zo14irriiiiiirriirrrrlriiii m0 th aS aI im (nI a) (nI p0) (nI E) 0 0 aB aT se dn aG aO aN aD bv aY rn kd nu tv), (zaI aS cS 901 fS)] s.heap.size = A at hD hQ hE ⊢
  have hA : ∀ q : Nat, s.heap.size ≤ q → A q := fun q h => by rw [← hAe]; exact Or.inr h
  have hS : va_S A s.heap s.heap [] := va_S.rf
  have hl := lv_entry [.ref m0] (n := 1) (Nat.le_of_ble_eq_true rfl)
  rw [lg_entry_eq]
  generalize (lg_sl [.ref m0] ++ List.replicate (1 - (lg_sl [.ref m0]).length) Slot.unset).toArray = ls at hl ⊢
  generalize hag : ([.ref m0] : List Value).toArray = args at hts hQ ⊢
  have hl : lv_has ls 1 [(0, .ref m0)] := hl
  obtain ⟨H, hH⟩ : ∃ H : Heap, H = s.heap := ⟨_, rfl⟩
  rw [← hH] at hP
  rw [← hH]
  have hS : va_S A s.heap H [] := by rw [hH]; exact hS
  obtain ⟨locs, hlo⟩ : ∃ L : List Loc, L = [] := ⟨_, rfl⟩
  rw [← hlo] at hS
  rw [← hlo]
  clear hH hlo
  have k5 := gI.2.2.2.2.1
  refine lv_aload_n hx hb dX12_clauseHere_0 rfl (lv_at hl 0 rfl) ?_
  have hPc := hP.sub (ws' := [(zo14irriiiiiirriirrrrlriiii m0 th aS aI im (nI a) (nI p0) (nI E) 0 0 aB aT se dn aG aO aN aD bv aY rn kd nu tv), (zaI aS cS 901 fS)]) [0, 1] rfl
  have hKc := hK.sub (tys' := [(cS, .int)]) [0] rfl
  refine vp_callSi (va_runV (As := []) (rest := []) ⟨hx, hb, hml, hown, hts⟩ (c_here l dC dI m0 aS aI aB aT aG aO aN aD aY th im (nI a) (nI p0) (nI E) 0 0 se dn rn kd nu tv bv cS fS a p0 E (by omega) (by omega) (by omega)) (cwV 0 hts gX12_clauseHere_X12_here rfl rfl rfl hd_yX12_here ⟨Nat.le_of_ble_eq_true rfl, Nat.le_of_ble_eq_true rfl⟩) ⟨fun a U g mk q => by obtain ⟨q0, qP, qK⟩ := q; exact ⟨q0, qP, va_K.moved (u := U) (U := U.calling g mk a) (Vm.Alike.refl U.vm) qK⟩, va_recv hK hP (ci := 14) (q := (RX12, TX12, 23)) (q0 := 0) rfl rfl, fun U hU hW => ⟨rfl, by rw [hU]; exact hPc, va_K.moved hW.alike hKc⟩⟩ rfl rfl hl.1 rfl (lv_room (Nat.le_of_ble_eq_true rfl)) dX12_clauseHere_1 ⟨Nat.le_of_ble_eq_true rfl, Nat.le_of_ble_eq_true rfl⟩).run (fun r_1 hw_2 => ?_)
  by_cases c_3_100 : r_1 = 100
  · skip
    refine lv_lookup (tgt := 59) hx hb dX12_clauseHere_4 (by decide) (by rw [c_3_100]; first | done | rfl) (by decide) ?_
    have hs0 : ss p0 = 100 := (gT.eq (c := 100) (by omega) (by omega)).mp (by rw [← hw_2, c_3_100]; rfl)
    refine lv_aload_n hx hb dX12_clauseHere_59 rfl (lv_at hl 0 rfl) ?_
    refine lv_sipush (v := (-400)) hx hb dX12_clauseHere_60 (by decide) ?_
    refine qi_as (y := nI 0 - nI 400) (by decide) ?_
    refine va_ldcS hx hb hown (show vk_R RX12 132 "drift " (sK 11) s from hE.1 11 (by decide)) dX12_clauseHere_63 ?_
    have hPc := hP.sub (ws' := [(zo14irriiiiiirriirrrrlriiii m0 th aS aI im (nI a) (nI p0) (nI E) 0 0 aB aT se dn aG aO aN aD bv aY rn kd nu tv), (zaI aS cS 901 fS)]) [0, 1] rfl
    have hDc := hD.sub (ws' := [(zo14irriiiiiirriirrrrlriiii m0 th aS aI im (nI a) (nI p0) (nI E) 0 0 aB aT se dn aG aO aN aD bv aY rn kd nu tv), (zaI aS cS 901 fS)]) [0, 1] (by decide) rfl
    have hKc := hK.sub (tys' := [(cS, .int)]) [0] rfl
    have hFc := va_free (wc := [(zo14irriiiiiirriirrrrlriiii m0 th aS aI im (nI a) (nI p0) (nI E) 0 0 aB aT se dn aG aO aN aD bv aY rn kd nu tv), (zaI aS cS 901 fS)]) hD hS hA [0, 1] rfl
    refine va_callv (va_runV (As := [.int (nI 0 - nI 400), .ref (sK 11)]) (rest := []) ⟨hx, hb, hml, hown, hts⟩ (c_much l dC dI sK sV m0 aS aI aB aT aG aO aN aD aY th im (nI a) (nI p0) (nI E) 0 0 se dn rn kd nu tv bv cS fS a p0 E K ss 400 11 3 H.size (by omega) (by omega) (by omega) ((gI).mono (by omega) (by omega)) (gT) (by decide) (by decide)) (cwV 2 hts gX12_clauseHere_X12_much rfl rfl rfl hd_yX12_much ⟨Nat.le_of_ble_eq_true rfl, Nat.le_of_ble_eq_true rfl⟩) ⟨fun a U g mk q => by obtain ⟨q0, q1, qP, qK, qD, qhE⟩ := q; exact ⟨q0, q1, qP, va_K.moved (u := U) (U := U.calling g mk a) (Vm.Alike.refl U.vm) qK, qD, qhE.same rfl rfl⟩, va_recv hK hP (ci := 14) (q := (RX12, TX12, 23)) (q0 := 0) rfl rfl, fun U hU hW => ⟨rfl, by rw [hU], by rw [hU]; exact hPc, va_K.moved hW.alike hKc, hDc.weaken (fun _ _ _ _ => trivial), hE.call hS hU hW (fun q h => hFc q h)⟩⟩ rfl rfl hl.1 rfl (lv_room (Nat.le_of_ble_eq_true rfl)) dX12_clauseHere_65 ⟨Nat.le_of_ble_eq_true rfl, Nat.le_of_ble_eq_true rfl⟩) hS (fun q _ h => hFc q h) hFc (fun u tC H1 locs htC hvm hw_5 hB hz1 hk1 hS => ?_)
    obtain ⟨fS9_6, sp9_7, wg9_8⟩ := u
    try dsimp only at hw_5 hB
    obtain ⟨hP1, hK1, hD1⟩ := hB
    rw [htC] at hP1
    have hK1 := va_K.moved hvm.symm hK1
    obtain ⟨hP, hD⟩ := va_join (wr := []) (w1 := [(zo14irriiiiiirriirrrrlriiii m0 th aS aI im (nI a) sp9_7 (nI E) wg9_8 0 aB aT se dn aG aO aN aD bv aY rn kd nu tv), (zaI aS cS 901 fS9_6)]) hP hD [0, 1] [] rfl rfl (by decide) (by decide) hk1 hFc hP1 hD1
    have hK := (hK.sub (tys' := []) [] rfl).app hK1
    generalize H1 = H at hP hS ⊢
    have hP : va_P (dC, dI) vwCl [(zo14irriiiiiirriirrrrlriiii m0 th aS aI im (nI a) sp9_7 (nI E) wg9_8 0 aB aT se dn aG aO aN aD bv aY rn kd nu tv), (zaI aS cS 901 fS9_6)] H := hP
    have hD : va_D A [(zo14irriiiiiirriirrrrlriiii m0 th aS aI im (nI a) sp9_7 (nI E) wg9_8 0 aB aT se dn aG aO aN aD bv aY rn kd nu tv), (zaI aS cS 901 fS9_6)] := hD
    have hK : va_K (dC, dI) vwCl [(cS, .int)] s := hK
    obtain ⟨p_9, rfl, h_12, h_13, hF_14, q9⟩ := hw_5
    rcases q9 with ⟨rfl, eM_16⟩ | ⟨rfl, v_10, L_11, eM_16, hI_15⟩
    · skip
      refine lv_goto (tgt := 76) hx hb dX12_clauseHere_68 (by decide) ?_
      rw [hQ]
      have hP9 := hP.sub (ws' := [(zo14irriiiiiirriirrrrlriiii m0 th aS aI im (nI a) (nI p_9) (nI E) 1 0 aB aT se dn aG aO aN aD bv aY rn kd nu tv), (zaI aS cS 901 fS9_6)]) [0, 1] rfl
      have hD9 := hD.sub (ws' := [(zo14irriiiiiirriirrrrlriiii m0 th aS aI im (nI a) (nI p_9) (nI E) 1 0 aB aT se dn aG aO aN aD bv aY rn kd nu tv), (zaI aS cS 901 fS9_6)]) [0, 1] (by decide) rfl
      have hK9 := hK.sub (tys' := [(cS, .int)]) [0] rfl
      exact W.vret hx hb hr (fun tQ htQ hWQ => ⟨⟨(fS9_6, (nI p_9), 1), rfl, ⟨p_9, rfl, by omega, by omega, ((PF.rf).tr hF_14).q, Or.inl ⟨rfl, (cl_d hs0).trans eM_16⟩⟩, by rw [htQ]; exact hP9, va_K.moved hWQ.alike hK9, hD9⟩, hS.F htQ⟩) hS.2.2 dX12_clauseHere_76
    · skip
      refine lv_goto (tgt := 76) hx hb dX12_clauseHere_68 (by decide) ?_
      rw [hQ]
      have hP9 := hP.sub (ws' := [(zo14irriiiiiirriirrrrlriiii m0 th aS aI im (nI a) (nI p_9) (nI E) 0 0 aB aT se dn aG aO aN aD bv aY rn kd nu tv), (zaI aS cS 901 fS9_6)]) [0, 1] rfl
      have hD9 := hD.sub (ws' := [(zo14irriiiiiirriirrrrlriiii m0 th aS aI im (nI a) (nI p_9) (nI E) 0 0 aB aT se dn aG aO aN aD bv aY rn kd nu tv), (zaI aS cS 901 fS9_6)]) [0, 1] (by decide) rfl
      have hK9 := hK.sub (tys' := [(cS, .int)]) [0] rfl
      exact W.vret hx hb hr (fun tQ htQ hWQ => ⟨⟨(fS9_6, (nI p_9), 0), rfl, ⟨p_9, rfl, by omega, by omega, ((PF.rf).tr hF_14).q, Or.inr ⟨rfl, (3, v_10, L_11), (cl_d hs0).trans eM_16, hI_15, ((PF.rf).tr hF_14) _ (by omega) (by omega)⟩⟩, by rw [htQ]; exact hP9, va_K.moved hWQ.alike hK9, hD9⟩, hS.F htQ⟩) hS.2.2 dX12_clauseHere_76
  by_cases c_3_104 : r_1 = 104
  · skip
    refine lv_lookup (tgt := 47) hx hb dX12_clauseHere_4 (by decide) (by rw [c_3_104]; first | done | rfl) (by decide) ?_
    have hs0 : ss p0 = 104 := (gT.eq (c := 104) (by omega) (by omega)).mp (by rw [← hw_2, c_3_104]; rfl)
    refine lv_aload_n hx hb dX12_clauseHere_47 rfl (lv_at hl 0 rfl) ?_
    refine lv_sipush (v := (-200)) hx hb dX12_clauseHere_48 (by decide) ?_
    refine qi_as (y := nI 0 - nI 200) (by decide) ?_
    refine va_ldcS hx hb hown (show vk_R RX12 130 "hide " (sK 10) s from hE.1 10 (by decide)) dX12_clauseHere_51 ?_
    have hPc := hP.sub (ws' := [(zo14irriiiiiirriirrrrlriiii m0 th aS aI im (nI a) (nI p0) (nI E) 0 0 aB aT se dn aG aO aN aD bv aY rn kd nu tv), (zaI aS cS 901 fS)]) [0, 1] rfl
    have hDc := hD.sub (ws' := [(zo14irriiiiiirriirrrrlriiii m0 th aS aI im (nI a) (nI p0) (nI E) 0 0 aB aT se dn aG aO aN aD bv aY rn kd nu tv), (zaI aS cS 901 fS)]) [0, 1] (by decide) rfl
    have hKc := hK.sub (tys' := [(cS, .int)]) [0] rfl
    have hFc := va_free (wc := [(zo14irriiiiiirriirrrrlriiii m0 th aS aI im (nI a) (nI p0) (nI E) 0 0 aB aT se dn aG aO aN aD bv aY rn kd nu tv), (zaI aS cS 901 fS)]) hD hS hA [0, 1] rfl
    refine va_callv (va_runV (As := [.int (nI 0 - nI 200), .ref (sK 10)]) (rest := []) ⟨hx, hb, hml, hown, hts⟩ (c_much l dC dI sK sV m0 aS aI aB aT aG aO aN aD aY th im (nI a) (nI p0) (nI E) 0 0 se dn rn kd nu tv bv cS fS a p0 E K ss 200 10 1 H.size (by omega) (by omega) (by omega) ((gI).mono (by omega) (by omega)) (gT) (by decide) (by decide)) (cwV 2 hts gX12_clauseHere_X12_much rfl rfl rfl hd_yX12_much ⟨Nat.le_of_ble_eq_true rfl, Nat.le_of_ble_eq_true rfl⟩) ⟨fun a U g mk q => by obtain ⟨q0, q1, qP, qK, qD, qhE⟩ := q; exact ⟨q0, q1, qP, va_K.moved (u := U) (U := U.calling g mk a) (Vm.Alike.refl U.vm) qK, qD, qhE.same rfl rfl⟩, va_recv hK hP (ci := 14) (q := (RX12, TX12, 23)) (q0 := 0) rfl rfl, fun U hU hW => ⟨rfl, by rw [hU], by rw [hU]; exact hPc, va_K.moved hW.alike hKc, hDc.weaken (fun _ _ _ _ => trivial), hE.call hS hU hW (fun q h => hFc q h)⟩⟩ rfl rfl hl.1 rfl (lv_room (Nat.le_of_ble_eq_true rfl)) dX12_clauseHere_53 ⟨Nat.le_of_ble_eq_true rfl, Nat.le_of_ble_eq_true rfl⟩) hS (fun q _ h => hFc q h) hFc (fun u tC H1 locs htC hvm hw_18 hB hz1 hk1 hS => ?_)
    obtain ⟨fS9_19, sp9_20, wg9_21⟩ := u
    try dsimp only at hw_18 hB
    obtain ⟨hP1, hK1, hD1⟩ := hB
    rw [htC] at hP1
    have hK1 := va_K.moved hvm.symm hK1
    obtain ⟨hP, hD⟩ := va_join (wr := []) (w1 := [(zo14irriiiiiirriirrrrlriiii m0 th aS aI im (nI a) sp9_20 (nI E) wg9_21 0 aB aT se dn aG aO aN aD bv aY rn kd nu tv), (zaI aS cS 901 fS9_19)]) hP hD [0, 1] [] rfl rfl (by decide) (by decide) hk1 hFc hP1 hD1
    have hK := (hK.sub (tys' := []) [] rfl).app hK1
    generalize H1 = H at hP hS ⊢
    have hP : va_P (dC, dI) vwCl [(zo14irriiiiiirriirrrrlriiii m0 th aS aI im (nI a) sp9_20 (nI E) wg9_21 0 aB aT se dn aG aO aN aD bv aY rn kd nu tv), (zaI aS cS 901 fS9_19)] H := hP
    have hD : va_D A [(zo14irriiiiiirriirrrrlriiii m0 th aS aI im (nI a) sp9_20 (nI E) wg9_21 0 aB aT se dn aG aO aN aD bv aY rn kd nu tv), (zaI aS cS 901 fS9_19)] := hD
    have hK : va_K (dC, dI) vwCl [(cS, .int)] s := hK
    obtain ⟨p_22, rfl, h_25, h_26, hF_27, q9⟩ := hw_18
    rcases q9 with ⟨rfl, eM_29⟩ | ⟨rfl, v_23, L_24, eM_29, hI_28⟩
    · skip
      refine lv_goto (tgt := 76) hx hb dX12_clauseHere_56 (by decide) ?_
      rw [hQ]
      have hP9 := hP.sub (ws' := [(zo14irriiiiiirriirrrrlriiii m0 th aS aI im (nI a) (nI p_22) (nI E) 1 0 aB aT se dn aG aO aN aD bv aY rn kd nu tv), (zaI aS cS 901 fS9_19)]) [0, 1] rfl
      have hD9 := hD.sub (ws' := [(zo14irriiiiiirriirrrrlriiii m0 th aS aI im (nI a) (nI p_22) (nI E) 1 0 aB aT se dn aG aO aN aD bv aY rn kd nu tv), (zaI aS cS 901 fS9_19)]) [0, 1] (by decide) rfl
      have hK9 := hK.sub (tys' := [(cS, .int)]) [0] rfl
      exact W.vret hx hb hr (fun tQ htQ hWQ => ⟨⟨(fS9_19, (nI p_22), 1), rfl, ⟨p_22, rfl, by omega, by omega, ((PF.rf).tr hF_27).q, Or.inl ⟨rfl, (cl_h hs0).trans eM_29⟩⟩, by rw [htQ]; exact hP9, va_K.moved hWQ.alike hK9, hD9⟩, hS.F htQ⟩) hS.2.2 dX12_clauseHere_76
    · skip
      refine lv_goto (tgt := 76) hx hb dX12_clauseHere_56 (by decide) ?_
      rw [hQ]
      have hP9 := hP.sub (ws' := [(zo14irriiiiiirriirrrrlriiii m0 th aS aI im (nI a) (nI p_22) (nI E) 0 0 aB aT se dn aG aO aN aD bv aY rn kd nu tv), (zaI aS cS 901 fS9_19)]) [0, 1] rfl
      have hD9 := hD.sub (ws' := [(zo14irriiiiiirriirrrrlriiii m0 th aS aI im (nI a) (nI p_22) (nI E) 0 0 aB aT se dn aG aO aN aD bv aY rn kd nu tv), (zaI aS cS 901 fS9_19)]) [0, 1] (by decide) rfl
      have hK9 := hK.sub (tys' := [(cS, .int)]) [0] rfl
      exact W.vret hx hb hr (fun tQ htQ hWQ => ⟨⟨(fS9_19, (nI p_22), 0), rfl, ⟨p_22, rfl, by omega, by omega, ((PF.rf).tr hF_27).q, Or.inr ⟨rfl, (1, v_23, L_24), (cl_h hs0).trans eM_29, hI_28, ((PF.rf).tr hF_27) _ (by omega) (by omega)⟩⟩, by rw [htQ]; exact hP9, va_K.moved hWQ.alike hK9, hD9⟩, hS.F htQ⟩) hS.2.2 dX12_clauseHere_76
  by_cases c_3_115 : r_1 = 115
  · skip
    refine lv_lookup (tgt := 40) hx hb dX12_clauseHere_4 (by decide) (by rw [c_3_115]; first | done | rfl) (by decide) ?_
    have hs0 : ss p0 = 115 := (gT.eq (c := 115) (by omega) (by omega)).mp (by rw [← hw_2, c_3_115]; rfl)
    refine lv_aload_n hx hb dX12_clauseHere_40 rfl (lv_at hl 0 rfl) ?_
    have hPc := hP.sub (ws' := [(zo14irriiiiiirriirrrrlriiii m0 th aS aI im (nI a) (nI p0) (nI E) 0 0 aB aT se dn aG aO aN aD bv aY rn kd nu tv), (zaI aS cS 901 fS)]) [0, 1] rfl
    have hDc := hD.sub (ws' := [(zo14irriiiiiirriirrrrlriiii m0 th aS aI im (nI a) (nI p0) (nI E) 0 0 aB aT se dn aG aO aN aD bv aY rn kd nu tv), (zaI aS cS 901 fS)]) [0, 1] (by decide) rfl
    have hKc := hK.sub (tys' := [(cS, .int)]) [0] rfl
    have hFc := va_free (wc := [(zo14irriiiiiirriirrrrlriiii m0 th aS aI im (nI a) (nI p0) (nI E) 0 0 aB aT se dn aG aO aN aD bv aY rn kd nu tv), (zaI aS cS 901 fS)]) hD hS hA [0, 1] rfl
    refine va_callv (va_runV (As := []) (rest := []) ⟨hx, hb, hml, hown, hts⟩ (c_clauseOfS l dC dI sK sV m0 aS aI aB aT aG aO aN aD aY th im (nI a) (nI p0) (nI E) 0 0 se dn rn kd nu tv bv cS fS a p0 E K ss H.size (by omega) (by omega) (by omega) (gI) (gT) (hs0)) (cwV 0 hts gX12_clauseHere_X12_clauseOfS rfl rfl rfl hd_yX12_clauseOfS ⟨Nat.le_of_ble_eq_true rfl, Nat.le_of_ble_eq_true rfl⟩) ⟨fun a U g mk q => by obtain ⟨q0, q1, qP, qK, qD, qhE⟩ := q; exact ⟨q0, q1, qP, va_K.moved (u := U) (U := U.calling g mk a) (Vm.Alike.refl U.vm) qK, qD, qhE.same rfl rfl⟩, va_recv hK hP (ci := 14) (q := (RX12, TX12, 23)) (q0 := 0) rfl rfl, fun U hU hW => ⟨rfl, by rw [hU], by rw [hU]; exact hPc, va_K.moved hW.alike hKc, hDc.weaken (fun _ _ _ _ => trivial), hE.call hS hU hW (fun q h => hFc q h)⟩⟩ rfl rfl hl.1 rfl (lv_room (Nat.le_of_ble_eq_true rfl)) dX12_clauseHere_41 ⟨Nat.le_of_ble_eq_true rfl, Nat.le_of_ble_eq_true rfl⟩) hS (fun q _ h => hFc q h) hFc (fun u tC H1 locs htC hvm hw_31 hB hz1 hk1 hS => ?_)
    obtain ⟨fS9_32, sp9_33, wg9_34⟩ := u
    try dsimp only at hw_31 hB
    obtain ⟨hP1, hK1, hD1⟩ := hB
    rw [htC] at hP1
    have hK1 := va_K.moved hvm.symm hK1
    obtain ⟨hP, hD⟩ := va_join (wr := []) (w1 := [(zo14irriiiiiirriirrrrlriiii m0 th aS aI im (nI a) sp9_33 (nI E) wg9_34 0 aB aT se dn aG aO aN aD bv aY rn kd nu tv), (zaI aS cS 901 fS9_32)]) hP hD [0, 1] [] rfl rfl (by decide) (by decide) hk1 hFc hP1 hD1
    have hK := (hK.sub (tys' := []) [] rfl).app hK1
    generalize H1 = H at hP hS ⊢
    have hP : va_P (dC, dI) vwCl [(zo14irriiiiiirriirrrrlriiii m0 th aS aI im (nI a) sp9_33 (nI E) wg9_34 0 aB aT se dn aG aO aN aD bv aY rn kd nu tv), (zaI aS cS 901 fS9_32)] H := hP
    have hD : va_D A [(zo14irriiiiiirriirrrrlriiii m0 th aS aI im (nI a) sp9_33 (nI E) wg9_34 0 aB aT se dn aG aO aN aD bv aY rn kd nu tv), (zaI aS cS 901 fS9_32)] := hD
    have hK : va_K (dC, dI) vwCl [(cS, .int)] s := hK
    obtain ⟨p_35, rfl, h_37, h_38, hF_39, q9⟩ := hw_31
    rcases q9 with ⟨rfl, eC_42⟩ | ⟨rfl, c_36, eC_42, hI_40, h_41⟩
    · skip
      refine lv_goto (tgt := 76) hx hb dX12_clauseHere_44 (by decide) ?_
      rw [hQ]
      have hP9 := hP.sub (ws' := [(zo14irriiiiiirriirrrrlriiii m0 th aS aI im (nI a) (nI p_35) (nI E) 1 0 aB aT se dn aG aO aN aD bv aY rn kd nu tv), (zaI aS cS 901 fS9_32)]) [0, 1] rfl
      have hD9 := hD.sub (ws' := [(zo14irriiiiiirriirrrrlriiii m0 th aS aI im (nI a) (nI p_35) (nI E) 1 0 aB aT se dn aG aO aN aD bv aY rn kd nu tv), (zaI aS cS 901 fS9_32)]) [0, 1] (by decide) rfl
      have hK9 := hK.sub (tys' := [(cS, .int)]) [0] rfl
      exact W.vret hx hb hr (fun tQ htQ hWQ => ⟨⟨(fS9_32, (nI p_35), 1), rfl, ⟨p_35, rfl, by omega, by omega, hF_39, Or.inl ⟨rfl, eC_42⟩⟩, by rw [htQ]; exact hP9, va_K.moved hWQ.alike hK9, hD9⟩, hS.F htQ⟩) hS.2.2 dX12_clauseHere_76
    · skip
      refine lv_goto (tgt := 76) hx hb dX12_clauseHere_44 (by decide) ?_
      rw [hQ]
      have hP9 := hP.sub (ws' := [(zo14irriiiiiirriirrrrlriiii m0 th aS aI im (nI a) (nI p_35) (nI E) 0 0 aB aT se dn aG aO aN aD bv aY rn kd nu tv), (zaI aS cS 901 fS9_32)]) [0, 1] rfl
      have hD9 := hD.sub (ws' := [(zo14irriiiiiirriirrrrlriiii m0 th aS aI im (nI a) (nI p_35) (nI E) 0 0 aB aT se dn aG aO aN aD bv aY rn kd nu tv), (zaI aS cS 901 fS9_32)]) [0, 1] (by decide) rfl
      have hK9 := hK.sub (tys' := [(cS, .int)]) [0] rfl
      exact W.vret hx hb hr (fun tQ htQ hWQ => ⟨⟨(fS9_32, (nI p_35), 0), rfl, ⟨p_35, rfl, by omega, by omega, hF_39, Or.inr ⟨rfl, c_36, eC_42, hI_40, h_41⟩⟩, by rw [htQ]; exact hP9, va_K.moved hWQ.alike hK9, hD9⟩, hS.F htQ⟩) hS.2.2 dX12_clauseHere_76
  refine lv_lookup (tgt := 71) hx hb dX12_clauseHere_4 (by decide) (lk_out c_3_100 c_3_104 c_3_115) (by decide) ?_
  refine lv_aload_n hx hb dX12_clauseHere_71 rfl (lv_at hl 0 rfl) ?_
  refine lv_iconst (v := 1) hx hb dX12_clauseHere_72 (by decide) ?_
  refine va_put (D := (dC, dI)) (ci := 14) (v := .int 1) (ty := .boolean) (C := RX12) (T := TX12) (N := 23) hx hb hts kc_clauseHere_0 tyX12 tyX12_ok nmX12 hown hK hP hD hS 0 rfl rfl 7 (by decide) (hts (.fieldLink RX12 65 "MistHeapsModel" "isWrong" "Z") kc_clauseHere_1) (fun _ h9 => h9) rfl (by decide +kernel) rfl rfl (Nat.le_of_ble_eq_true rfl) dX12_clauseHere_73 (fun H locs hP hD hS => ?_)
  have hP : va_P (dC, dI) vwCl [(zo14irriiiiiirriirrrrlriiii m0 th aS aI im (nI a) (nI p0) (nI E) 1 0 aB aT se dn aG aO aN aD bv aY rn kd nu tv), (zaI aS cS 901 fS)] H := hP
  have hD : va_D A [(zo14irriiiiiirriirrrrlriiii m0 th aS aI im (nI a) (nI p0) (nI E) 1 0 aB aT se dn aG aO aN aD bv aY rn kd nu tv), (zaI aS cS 901 fS)] := hD
  rw [hQ]
  have hP9 := hP.sub (ws' := [(zo14irriiiiiirriirrrrlriiii m0 th aS aI im (nI a) (nI p0) (nI E) 1 0 aB aT se dn aG aO aN aD bv aY rn kd nu tv), (zaI aS cS 901 fS)]) [0, 1] rfl
  have hD9 := hD.sub (ws' := [(zo14irriiiiiirriirrrrlriiii m0 th aS aI im (nI a) (nI p0) (nI E) 1 0 aB aT se dn aG aO aN aD bv aY rn kd nu tv), (zaI aS cS 901 fS)]) [0, 1] (by decide) rfl
  have hK9 := hK.sub (tys' := [(cS, .int)]) [0] rfl
  exact W.vret hx hb hr (fun tQ htQ hWQ => ⟨⟨(fS, (nI p0), 1), rfl, ⟨p0, rfl, by omega, by omega, PQ.rf, Or.inl ⟨rfl, cl_n (fun z => c_3_115 (hw_2.trans ((gT.eq (c := 115) (by omega) (by omega)).mpr z))) (fun z => c_3_104 (hw_2.trans ((gT.eq (c := 104) (by omega) (by omega)).mpr z))) (fun z => c_3_100 (hw_2.trans ((gT.eq (c := 100) (by omega) (by omega)).mpr z)))⟩⟩, by rw [htQ]; exact hP9, va_K.moved hWQ.alike hK9, hD9⟩, hS.F htQ⟩) hS.2.2 dX12_clauseHere_76
