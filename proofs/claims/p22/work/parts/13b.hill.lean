theorem ggX12_clauseOfS_X12_must : GoodIn wsX12_clauseOfS wsX12_must := gga_of 1237 rfl rfl rfl
theorem gX12_clauseOfS_X12_must : GoodIn wsX12_clauseOfS (wsV RX12 82 RX12 yX12_must wsX12_must) := goodIn_app (ggh_of [1234, 1236, 24, 72] rfl rfl rfl) ggX12_clauseOfS_X12_must
theorem ggX12_clauseOfS_X12_here : GoodIn wsX12_clauseOfS wsX12_here := gga_of 1229 rfl rfl rfl
theorem gX12_clauseOfS_X12_here : GoodIn wsX12_clauseOfS (wsV RX12 69 RX12 yX12_here wsX12_here) := goodIn_app (ggh_of [1226, 1228, 22, 72] rfl rfl rfl) ggX12_clauseOfS_X12_here
theorem ggX12_clauseOfS_X12_spells : GoodIn wsX12_clauseOfS wsX12_spells := gga_of 1246 rfl rfl rfl
theorem gX12_clauseOfS_X12_spells : GoodIn wsX12_clauseOfS (wsV RX12 115 RX12 yX12_spells wsX12_spells) := goodIn_app (ggh_of [1243, 1245, 26, 72] rfl rfl rfl) ggX12_clauseOfS_X12_spells
theorem ggX12_clauseOfS_X12_figures : GoodIn wsX12_clauseOfS wsX12_figures := gga_of 1252 rfl rfl rfl
theorem gX12_clauseOfS_X12_figures : GoodIn wsX12_clauseOfS (wsV RX12 109 RX12 yX12_figures wsX12_figures) := goodIn_app (ggh_of [1249, 1251, 27, 72] rfl rfl rfl) ggX12_clauseOfS_X12_figures
theorem ggX12_clauseOfS_X12_much : GoodIn wsX12_clauseOfS wsX12_much := gga_of 1242 rfl rfl rfl
theorem gX12_clauseOfS_X12_much : GoodIn wsX12_clauseOfS (wsV RX12 121 RX12 yX12_much wsX12_much) := goodIn_app (ggh_of [1239, 1241, 25, 72] rfl rfl rfl) ggX12_clauseOfS_X12_much
noncomputable def dk13bhill_cX12_clauseOfS_0 : List (Nat × Instr × Nat) := [(0, .aload_n 0, 1), (1, .bipush 115, 2), (3, .invokevirtual 82, 3), (6, .aload_n 0, 1), (7, .invokevirtual 69, 3), (10, .bipush 101, 2), (12, .if_icmp .ne 12, 3), (24, .aload_n 0, 1), (25, .ldc 125, 2), (27, .invokevirtual 115, 3), (30, .aload_n 0, 1), (31, .invokevirtual 109, 3), (34, .istore_n 1, 1), (35, .aload_n 0, 1), (36, .getfield 65, 3), (39, .ifCond .ne 17, 3), (56, .return_, 1), (42, .aload_n 0, 1), (43, .getfield 9, 3), (46, .sipush 191, 3), (49, .aload_n 0, 1), (50, .getfield 86, 3), (53, .iadd, 1), (54, .iload_n 1, 1), (55, .iastore, 1), (15, .aload_n 0, 1), (16, .bipush (-10), 2), (18, .ldc 119, 2), (20, .invokevirtual 121, 3), (23, .return_, 1)]
set_option maxRecDepth 100000 in
theorem dk13bhill_cX12_clauseOfS_0_a : dkA cX12_clauseOfS dk13bhill_cX12_clauseOfS_0 = true := by decide +kernel
theorem dX12_clauseOfS_0 : decode cX12_clauseOfS 0 = .ok (.aload_n 0, 1) := dkAt dk13bhill_cX12_clauseOfS_0_a 0 rfl
theorem dX12_clauseOfS_1 : decode cX12_clauseOfS 1 = .ok (.bipush 115, 2) := dkAt dk13bhill_cX12_clauseOfS_0_a 1 rfl
theorem dX12_clauseOfS_3 : decode cX12_clauseOfS 3 = .ok (.invokevirtual 82, 3) := dkAt dk13bhill_cX12_clauseOfS_0_a 2 rfl
theorem dX12_clauseOfS_6 : decode cX12_clauseOfS 6 = .ok (.aload_n 0, 1) := dkAt dk13bhill_cX12_clauseOfS_0_a 3 rfl
theorem dX12_clauseOfS_7 : decode cX12_clauseOfS 7 = .ok (.invokevirtual 69, 3) := dkAt dk13bhill_cX12_clauseOfS_0_a 4 rfl
theorem dX12_clauseOfS_10 : decode cX12_clauseOfS 10 = .ok (.bipush 101, 2) := dkAt dk13bhill_cX12_clauseOfS_0_a 5 rfl
theorem dX12_clauseOfS_12 : decode cX12_clauseOfS 12 = .ok (.if_icmp .ne 12, 3) := dkAt dk13bhill_cX12_clauseOfS_0_a 6 rfl
theorem dX12_clauseOfS_24 : decode cX12_clauseOfS 24 = .ok (.aload_n 0, 1) := dkAt dk13bhill_cX12_clauseOfS_0_a 7 rfl
theorem dX12_clauseOfS_25 : decode cX12_clauseOfS 25 = .ok (.ldc 125, 2) := dkAt dk13bhill_cX12_clauseOfS_0_a 8 rfl
theorem dX12_clauseOfS_27 : decode cX12_clauseOfS 27 = .ok (.invokevirtual 115, 3) := dkAt dk13bhill_cX12_clauseOfS_0_a 9 rfl
theorem dX12_clauseOfS_30 : decode cX12_clauseOfS 30 = .ok (.aload_n 0, 1) := dkAt dk13bhill_cX12_clauseOfS_0_a 10 rfl
theorem dX12_clauseOfS_31 : decode cX12_clauseOfS 31 = .ok (.invokevirtual 109, 3) := dkAt dk13bhill_cX12_clauseOfS_0_a 11 rfl
theorem dX12_clauseOfS_34 : decode cX12_clauseOfS 34 = .ok (.istore_n 1, 1) := dkAt dk13bhill_cX12_clauseOfS_0_a 12 rfl
theorem dX12_clauseOfS_35 : decode cX12_clauseOfS 35 = .ok (.aload_n 0, 1) := dkAt dk13bhill_cX12_clauseOfS_0_a 13 rfl
theorem dX12_clauseOfS_36 : decode cX12_clauseOfS 36 = .ok (.getfield 65, 3) := dkAt dk13bhill_cX12_clauseOfS_0_a 14 rfl
theorem dX12_clauseOfS_39 : decode cX12_clauseOfS 39 = .ok (.ifCond .ne 17, 3) := dkAt dk13bhill_cX12_clauseOfS_0_a 15 rfl
theorem dX12_clauseOfS_56 : decode cX12_clauseOfS 56 = .ok (.return_, 1) := dkAt dk13bhill_cX12_clauseOfS_0_a 16 rfl
theorem dX12_clauseOfS_42 : decode cX12_clauseOfS 42 = .ok (.aload_n 0, 1) := dkAt dk13bhill_cX12_clauseOfS_0_a 17 rfl
theorem dX12_clauseOfS_43 : decode cX12_clauseOfS 43 = .ok (.getfield 9, 3) := dkAt dk13bhill_cX12_clauseOfS_0_a 18 rfl
theorem dX12_clauseOfS_46 : decode cX12_clauseOfS 46 = .ok (.sipush 191, 3) := dkAt dk13bhill_cX12_clauseOfS_0_a 19 rfl
theorem dX12_clauseOfS_49 : decode cX12_clauseOfS 49 = .ok (.aload_n 0, 1) := dkAt dk13bhill_cX12_clauseOfS_0_a 20 rfl
theorem dX12_clauseOfS_50 : decode cX12_clauseOfS 50 = .ok (.getfield 86, 3) := dkAt dk13bhill_cX12_clauseOfS_0_a 21 rfl
theorem dX12_clauseOfS_53 : decode cX12_clauseOfS 53 = .ok (.iadd, 1) := dkAt dk13bhill_cX12_clauseOfS_0_a 22 rfl
theorem dX12_clauseOfS_54 : decode cX12_clauseOfS 54 = .ok (.iload_n 1, 1) := dkAt dk13bhill_cX12_clauseOfS_0_a 23 rfl
theorem dX12_clauseOfS_55 : decode cX12_clauseOfS 55 = .ok (.iastore, 1) := dkAt dk13bhill_cX12_clauseOfS_0_a 24 rfl
theorem dX12_clauseOfS_15 : decode cX12_clauseOfS 15 = .ok (.aload_n 0, 1) := dkAt dk13bhill_cX12_clauseOfS_0_a 25 rfl
theorem dX12_clauseOfS_16 : decode cX12_clauseOfS 16 = .ok (.bipush (-10), 2) := dkAt dk13bhill_cX12_clauseOfS_0_a 26 rfl
theorem dX12_clauseOfS_18 : decode cX12_clauseOfS 18 = .ok (.ldc 119, 2) := dkAt dk13bhill_cX12_clauseOfS_0_a 27 rfl
theorem dX12_clauseOfS_20 : decode cX12_clauseOfS 20 = .ok (.invokevirtual 121, 3) := dkAt dk13bhill_cX12_clauseOfS_0_a 28 rfl
theorem dX12_clauseOfS_23 : decode cX12_clauseOfS 23 = .ok (.return_, 1) := dkAt dk13bhill_cX12_clauseOfS_0_a 29 rfl
theorem kc_clauseOfS_0 : ∀ w ∈ wsX120, w ∈ wsX12_clauseOfS := fun w h => List.mem_cons_of_mem _ (gin_wsX120 w h)
theorem kc_clauseOfS_1 : (.fieldLink RX12 65 "MistHeapsModel" "isWrong" "Z" : Cond) ∈ wsX12_clauseOfS := kc_of 1147 rfl rfl rfl
theorem kc_clauseOfS_2 : (.fieldLink RX12 9 "MistHeapsModel" "s" "[I" : Cond) ∈ wsX12_clauseOfS := kc_of 1141 rfl rfl rfl
theorem kc_clauseOfS_3 : (.fieldLink RX12 86 "MistHeapsModel" "act" "I" : Cond) ∈ wsX12_clauseOfS := kc_of 1144 rfl rfl rfl
set_option maxHeartbeats 4000000 in
set_option maxRecDepth 100000 in
theorem c_clauseOfS (l : Launch) (dC : Nat → ClassId) (dI : Nat → Nat → Nat) (sK sV : Nat → Nat) (m0 aS aI aB aT aG aO aN aD aY : Nat) (th im ac sp en wg op se dn rn kd nu tv : Int32) (bv : Int64) (cS : ClassId) (fS : Nat → Int32) (a p0 E : Nat) (K : List Nat) (ss : Nat → Nat) (sz : Nat) (ga : a < 5) (gE : E ≤ 100) (gp : p0 ≤ E) (gI : PI fS a K 0 p0 E) (gT : TP fS E ss) (g115 : ss p0 = 115) : Met l yX12_clauseOfS wsX12_clauseOfS ({ frames := 24, cells := 0, slots := 0, locals := 514 } : Room) (va_Pc [.ref m0] (fun U => U.heap.size = sz ∧ va_P (dC, dI) vwCl [(zo14irriiiiiirriirrrrlriiii m0 th aS aI im (nI a) (nI p0) (nI E) 0 0 aB aT se dn aG aO aN aD bv aY rn kd nu tv), (zaI aS cS 901 fS)] U.heap ∧ va_K (dC, dI) vwCl [(cS, .int)] U ∧ va_D (fun _ => True) [(zo14irriiiiiirriirrrrlriiii m0 th aS aI im (nI a) (nI p0) (nI E) 0 0 aB aT se dn aG aO aN aD bv aY rn kd nu tv), (zaI aS cS 901 fS)] ∧ Gs sK sV (va_A [(zo14irriiiiiirriirrrrlriiii m0 th aS aI im (nI a) (nI p0) (nI E) 0 0 aB aT se dn aG aO aN aD bv aY rn kd nu tv), (zaI aS cS 901 fS)] sz) U)) (va_Qv (fun (u : (Nat → Int32) × (Int32) × (Int32)) => match u with | (fS9, sp9, wg9) => ∃ p9 : Nat, sp9 = nI p9 ∧ p0 ≤ p9 ∧ p9 ≤ E ∧ PQ a fS fS9 ∧ ((wg9 = 1 ∧ pCl ss p0 = (none, p9)) ∨ (wg9 = 0 ∧ ∃ c9 : pCla, pCl ss p0 = (some c9, p9) ∧ PI fS9 a (K ++ fl1 c9) 0 p9 E ∧ fS9 (191 + a) = if c9.1 = 2 then nI c9.2.1 else fS (191 + a)))) (fun (u : (Nat → Int32) × (Int32) × (Int32)) (t : State) => match u with | (fS9, sp9, wg9) => va_P (dC, dI) vwCl [(zo14irriiiiiirriirrrrlriiii m0 th aS aI im (nI a) sp9 (nI E) wg9 0 aB aT se dn aG aO aN aD bv aY rn kd nu tv), (zaI aS cS 901 fS9)] t.heap ∧ va_K (dC, dI) vwCl [(cS, .int)] t ∧ va_D (va_A [(zo14irriiiiiirriirrrrlriiii m0 th aS aI im (nI a) (nI p0) (nI E) 0 0 aB aT se dn aG aO aN aD bv aY rn kd nu tv), (zaI aS cS 901 fS)] sz) [(zo14irriiiiiirriirrrrlriiii m0 th aS aI im (nI a) sp9 (nI E) wg9 0 aB aT se dn aG aO aN aD bv aY rn kd nu tv), (zaI aS cS 901 fS9)]) (va_A [(zo14irriiiiiirriirrrrlriiii m0 th aS aI im (nI a) (nI p0) (nI E) 0 0 aB aT se dn aG aO aN aD bv aY rn kd nu tv), (zaI aS cS 901 fS)] sz)) 0 0 (va_A [(zo14irriiiiiirriirrrrlriiii m0 th aS aI im (nI a) (nI p0) (nI E) 0 0 aB aT se dn aG aO aN aD bv aY rn kd nu tv), (zaI aS cS 901 fS)] sz) := by
  refine met_ofQ (cc := cX12_clauseOfS) (maxL := 2) (ret := none) (by decide) rfl ?_
  intro p e s m args below meth c s₁ Q B hml hv hQ
  obtain ⟨rfl, hsz, hP, hK, hD0, hE⟩ := hv
  have hx := B.exec
  have hb := B.bytes
  have hr := B.returns
  have hts := atoms_spec (ws := wsX12_clauseOfS) B.pre
  have hown : s.vm.findClass RX12 = some m.cls := findClass_of_methodNamed B.named
  have hlocks := B.notSynchronized
  subst hsz
  have hD := hD0.self (sz := s.heap.size)
  generalize hAe : va_A [(zo14irriiiiiirriirrrrlriiii m0 th aS aI im (nI a) (nI p0) (nI E) 0 0 aB aT se dn aG aO aN aD bv aY rn kd nu tv), (zaI aS cS 901 fS)] s.heap.size = A at hD hQ hE ⊢
  have hA : ∀ q : Nat, s.heap.size ≤ q → A q := fun q h => by rw [← hAe]; exact Or.inr h
  have hS : va_S A s.heap s.heap [] := va_S.rf
  have hl := lv_entry [.ref m0] (n := 2) (Nat.le_of_ble_eq_true rfl)
  rw [lg_entry_eq]
  generalize (lg_sl [.ref m0] ++ List.replicate (2 - (lg_sl [.ref m0]).length) Slot.unset).toArray = ls at hl ⊢
  generalize hag : ([.ref m0] : List Value).toArray = args at hts hQ ⊢
  have hl : lv_has ls 2 [(0, .ref m0)] := hl
  obtain ⟨H, hH⟩ : ∃ H : Heap, H = s.heap := ⟨_, rfl⟩
  rw [← hH] at hP
  rw [← hH]
  have hS : va_S A s.heap H [] := by rw [hH]; exact hS
  obtain ⟨locs, hlo⟩ : ∃ L : List Loc, L = [] := ⟨_, rfl⟩
  rw [← hlo] at hS
  rw [← hlo]
  clear hH hlo
  have k5 := gI.2.2.2.2.1
  refine lv_aload_n hx hb dX12_clauseOfS_0 rfl (lv_at hl 0 rfl) ?_
  refine lv_bipush (v := 115) hx hb dX12_clauseOfS_1 (by decide) ?_
  have hPc := hP.sub (ws' := [(zo14irriiiiiirriirrrrlriiii m0 th aS aI im (nI a) (nI p0) (nI E) 0 0 aB aT se dn aG aO aN aD bv aY rn kd nu tv), (zaI aS cS 901 fS)]) [0, 1] rfl
  have hDc := hD.sub (ws' := [(zo14irriiiiiirriirrrrlriiii m0 th aS aI im (nI a) (nI p0) (nI E) 0 0 aB aT se dn aG aO aN aD bv aY rn kd nu tv), (zaI aS cS 901 fS)]) [0, 1] (by decide) rfl
  have hKc := hK.sub (tys' := [(cS, .int)]) [0] rfl
  have hFc := va_free (wc := [(zo14irriiiiiirriirrrrlriiii m0 th aS aI im (nI a) (nI p0) (nI E) 0 0 aB aT se dn aG aO aN aD bv aY rn kd nu tv), (zaI aS cS 901 fS)]) hD hS hA [0, 1] rfl
  refine va_callv (va_runV (As := [.int 115]) (rest := []) ⟨hx, hb, hml, hown, hts⟩ (c_must l dC dI m0 aS aI aB aT aG aO aN aD aY th im (nI a) (nI p0) (nI E) 0 0 se dn rn kd nu tv bv cS fS a p0 E 115 H.size (by omega) (by omega) (by omega) (Or.inl rfl) (by decide)) (cwV 1 hts gX12_clauseOfS_X12_must rfl rfl rfl hd_yX12_must ⟨Nat.le_of_ble_eq_true rfl, Nat.le_of_ble_eq_true rfl⟩) ⟨fun a U g mk q => by obtain ⟨q0, q1, qP, qK, qD⟩ := q; exact ⟨q0, q1, qP, va_K.moved (u := U) (U := U.calling g mk a) (Vm.Alike.refl U.vm) qK, qD⟩, va_recv hK hP (ci := 14) (q := (RX12, TX12, 23)) (q0 := 0) rfl rfl, fun U hU hW => ⟨rfl, by rw [hU], by rw [hU]; exact hPc, va_K.moved hW.alike hKc, hDc.weaken (fun _ _ _ _ => trivial)⟩⟩ rfl rfl hl.1 rfl (lv_room (Nat.le_of_ble_eq_true rfl)) dX12_clauseOfS_3 ⟨Nat.le_of_ble_eq_true rfl, Nat.le_of_ble_eq_true rfl⟩) hS (fun q _ h => hFc q h) hFc (fun u tC H1 locs htC hvm hw_2 hB hz1 hk1 hS => ?_)
  obtain ⟨sp9_3, wg9_4⟩ := u
  try dsimp only at hw_2 hB
  obtain ⟨hP1, hK1, hD1⟩ := hB
  rw [htC] at hP1
  have hK1 := va_K.moved hvm.symm hK1
  obtain ⟨hP, hD⟩ := va_join (wr := []) (w1 := [(zo14irriiiiiirriirrrrlriiii m0 th aS aI im (nI a) sp9_3 (nI E) wg9_4 0 aB aT se dn aG aO aN aD bv aY rn kd nu tv), (zaI aS cS 901 fS)]) hP hD [0, 1] [] rfl rfl (by decide) (by decide) hk1 hFc hP1 hD1
  have hK := (hK.sub (tys' := []) [] rfl).app hK1
  generalize H1 = H at hP hS ⊢
  have hP : va_P (dC, dI) vwCl [(zo14irriiiiiirriirrrrlriiii m0 th aS aI im (nI a) sp9_3 (nI E) wg9_4 0 aB aT se dn aG aO aN aD bv aY rn kd nu tv), (zaI aS cS 901 fS)] H := hP
  have hD : va_D A [(zo14irriiiiiirriirrrrlriiii m0 th aS aI im (nI a) sp9_3 (nI E) wg9_4 0 aB aT se dn aG aO aN aD bv aY rn kd nu tv), (zaI aS cS 901 fS)] := hD
  have hK : va_K (dC, dI) vwCl [(cS, .int)] s := hK
  obtain ⟨rfl, h_6, rfl⟩ : _ ∧ _ ∧ _ := by rcases hw_2 with ⟨_, _, q⟩ | ⟨q1, _, _, q2, q3⟩; exact absurd ((gT.eq (c := 115) (by omega) (by omega)).mpr g115) (q rfl); exact ⟨q1, q2, q3⟩
  refine lv_aload_n hx hb dX12_clauseOfS_6 rfl (lv_at hl 0 rfl) ?_
  have hPc := hP.sub (ws' := [(zo14irriiiiiirriirrrrlriiii m0 th aS aI im (nI a) (nI (p0 + 1)) (nI E) 0 0 aB aT se dn aG aO aN aD bv aY rn kd nu tv), (zaI aS cS 901 fS)]) [0, 1] rfl
  have hKc := hK.sub (tys' := [(cS, .int)]) [0] rfl
  refine vp_callSi (va_runV (As := []) (rest := []) ⟨hx, hb, hml, hown, hts⟩ (c_here l dC dI m0 aS aI aB aT aG aO aN aD aY th im (nI a) (nI (p0 + 1)) (nI E) 0 0 se dn rn kd nu tv bv cS fS a (p0 + 1) E (by omega) (by omega) (by omega)) (cwV 0 hts gX12_clauseOfS_X12_here rfl rfl rfl hd_yX12_here ⟨Nat.le_of_ble_eq_true rfl, Nat.le_of_ble_eq_true rfl⟩) ⟨fun a U g mk q => by obtain ⟨q0, qP, qK⟩ := q; exact ⟨q0, qP, va_K.moved (u := U) (U := U.calling g mk a) (Vm.Alike.refl U.vm) qK⟩, va_recv hK hP (ci := 14) (q := (RX12, TX12, 23)) (q0 := 0) rfl rfl, fun U hU hW => ⟨rfl, by rw [hU]; exact hPc, va_K.moved hW.alike hKc⟩⟩ rfl rfl hl.1 rfl (lv_room (Nat.le_of_ble_eq_true rfl)) dX12_clauseOfS_7 ⟨Nat.le_of_ble_eq_true rfl, Nat.le_of_ble_eq_true rfl⟩).run (fun r_7 hw_8 => ?_)
  refine lv_bipush (v := 101) hx hb dX12_clauseOfS_10 (by decide) ?_
  refine lv_icmp_ne (tgt := 24) hx hb dX12_clauseOfS_12 (by decide) (fun c_9 => ?_) (fun c_9 => ?_)
  · skip
    have hs1 : ¬ ss (p0 + 1) = 101 := fun z => c_9 (by rw [hw_8]; exact (gT.eq (c := 101) (by omega) (by omega)).mpr z)
    refine lv_aload_n hx hb dX12_clauseOfS_24 rfl (lv_at hl 0 rfl) ?_
    refine va_ldcS hx hb hown (show vk_R RX12 125 "ight " (sK 9) s from hE.1 9 (by decide)) dX12_clauseOfS_25 ?_
    have hPc := hP.sub (ws' := [(zo14irriiiiiirriirrrrlriiii m0 th aS aI im (nI a) (nI (p0 + 1)) (nI E) 0 0 aB aT se dn aG aO aN aD bv aY rn kd nu tv), (zaI aS cS 901 fS)]) [0, 1] rfl
    have hDc := hD.sub (ws' := [(zo14irriiiiiirriirrrrlriiii m0 th aS aI im (nI a) (nI (p0 + 1)) (nI E) 0 0 aB aT se dn aG aO aN aD bv aY rn kd nu tv), (zaI aS cS 901 fS)]) [0, 1] (by decide) rfl
    have hKc := hK.sub (tys' := [(cS, .int)]) [0] rfl
    have hFc := va_free (wc := [(zo14irriiiiiirriirrrrlriiii m0 th aS aI im (nI a) (nI (p0 + 1)) (nI E) 0 0 aB aT se dn aG aO aN aD bv aY rn kd nu tv), (zaI aS cS 901 fS)]) hD hS hA [0, 1] rfl
    refine va_callv (va_runV (As := [.ref (sK 9)]) (rest := []) ⟨hx, hb, hml, hown, hts⟩ (c_spells l dC dI sK sV m0 aS aI aB aT aG aO aN aD aY th im (nI a) (nI (p0 + 1)) (nI E) 0 0 se dn rn kd nu tv bv cS fS a (p0 + 1) E 9 ss H.size (by omega) (by omega) (by omega) (by first | assumption | decide) (gT)) (cwV 1 hts gX12_clauseOfS_X12_spells rfl rfl rfl hd_yX12_spells ⟨Nat.le_of_ble_eq_true rfl, Nat.le_of_ble_eq_true rfl⟩) ⟨fun a U g mk q => by obtain ⟨q0, q1, qP, qK, qD, qhE⟩ := q; exact ⟨q0, q1, qP, va_K.moved (u := U) (U := U.calling g mk a) (Vm.Alike.refl U.vm) qK, qD, qhE.same rfl rfl⟩, va_recv hK hP (ci := 14) (q := (RX12, TX12, 23)) (q0 := 0) rfl rfl, fun U hU hW => ⟨rfl, by rw [hU], by rw [hU]; exact hPc, va_K.moved hW.alike hKc, hDc.weaken (fun _ _ _ _ => trivial), hE.call hS hU hW (fun q h => hFc q h)⟩⟩ rfl rfl hl.1 rfl (lv_room (Nat.le_of_ble_eq_true rfl)) dX12_clauseOfS_27 ⟨Nat.le_of_ble_eq_true rfl, Nat.le_of_ble_eq_true rfl⟩) hS (fun q _ h => hFc q h) hFc (fun u tC H1 locs htC hvm hw_11 hB hz1 hk1 hS => ?_)
    obtain ⟨sp9_12, wg9_13⟩ := u
    try dsimp only at hw_11 hB
    obtain ⟨hP1, hK1, hD1⟩ := hB
    rw [htC] at hP1
    have hK1 := va_K.moved hvm.symm hK1
    obtain ⟨hP, hD⟩ := va_join (wr := []) (w1 := [(zo14irriiiiiirriirrrrlriiii m0 th aS aI im (nI a) sp9_12 (nI E) wg9_13 0 aB aT se dn aG aO aN aD bv aY rn kd nu tv), (zaI aS cS 901 fS)]) hP hD [0, 1] [] rfl rfl (by decide) (by decide) hk1 hFc hP1 hD1
    have hK := (hK.sub (tys' := []) [] rfl).app hK1
    generalize H1 = H at hP hS ⊢
    have hP : va_P (dC, dI) vwCl [(zo14irriiiiiirriirrrrlriiii m0 th aS aI im (nI a) sp9_12 (nI E) wg9_13 0 aB aT se dn aG aO aN aD bv aY rn kd nu tv), (zaI aS cS 901 fS)] H := hP
    have hD : va_D A [(zo14irriiiiiirriirrrrlriiii m0 th aS aI im (nI a) sp9_12 (nI E) wg9_13 0 aB aT se dn aG aO aN aD bv aY rn kd nu tv), (zaI aS cS 901 fS)] := hD
    have hK : va_K (dC, dI) vwCl [(cS, .int)] s := hK
    obtain ⟨h_14, rfl, q9⟩ := hw_11
    rcases q9 with ⟨rfl, hm_15⟩ | ⟨rfl, hm_15⟩
    · skip
      rw [hm_15] at hP hD
      rw [hm_15] at h_14
      have hP : va_P (dC, dI) vwCl [(zo14irriiiiiirriirrrrlriiii m0 th aS aI im (nI a) (nI (p0 + 1 + sLen 9)) (nI E) 0 0 aB aT se dn aG aO aN aD bv aY rn kd nu tv), (zaI aS cS 901 fS)] H := hP
      have hD : va_D A [(zo14irriiiiiirriirrrrlriiii m0 th aS aI im (nI a) (nI (p0 + 1 + sLen 9)) (nI E) 0 0 aB aT se dn aG aO aN aD bv aY rn kd nu tv), (zaI aS cS 901 fS)] := hD
      refine lv_aload_n hx hb dX12_clauseOfS_30 rfl (lv_at hl 0 rfl) ?_
      have hPc := hP.sub (ws' := [(zo14irriiiiiirriirrrrlriiii m0 th aS aI im (nI a) (nI (p0 + 1 + sLen 9)) (nI E) 0 0 aB aT se dn aG aO aN aD bv aY rn kd nu tv), (zaI aS cS 901 fS)]) [0, 1] rfl
      have hDc := hD.sub (ws' := [(zo14irriiiiiirriirrrrlriiii m0 th aS aI im (nI a) (nI (p0 + 1 + sLen 9)) (nI E) 0 0 aB aT se dn aG aO aN aD bv aY rn kd nu tv), (zaI aS cS 901 fS)]) [0, 1] (by decide) rfl
      have hKc := hK.sub (tys' := [(cS, .int)]) [0] rfl
      have hFc := va_free (wc := [(zo14irriiiiiirriirrrrlriiii m0 th aS aI im (nI a) (nI (p0 + 1 + sLen 9)) (nI E) 0 0 aB aT se dn aG aO aN aD bv aY rn kd nu tv), (zaI aS cS 901 fS)]) hD hS hA [0, 1] rfl
      refine va_calli (va_runV (As := []) (rest := []) ⟨hx, hb, hml, hown, hts⟩ (c_figures l dC dI m0 aS aI aB aT aG aO aN aD aY th im (nI a) (nI (p0 + 1 + sLen 9)) (nI E) 0 0 se dn rn kd nu tv bv cS fS a (p0 + 1 + sLen 9) E ss H.size (by omega) (by omega) (by omega) (Or.inl rfl) (gT)) (cwV 0 hts gX12_clauseOfS_X12_figures rfl rfl rfl hd_yX12_figures ⟨Nat.le_of_ble_eq_true rfl, Nat.le_of_ble_eq_true rfl⟩) ⟨fun a U g mk q => by obtain ⟨q0, q1, qP, qK, qD⟩ := q; exact ⟨q0, q1, qP, va_K.moved (u := U) (U := U.calling g mk a) (Vm.Alike.refl U.vm) qK, qD⟩, va_recv hK hP (ci := 14) (q := (RX12, TX12, 23)) (q0 := 0) rfl rfl, fun U hU hW => ⟨rfl, by rw [hU], by rw [hU]; exact hPc, va_K.moved hW.alike hKc, hDc.weaken (fun _ _ _ _ => trivial)⟩⟩ rfl rfl hl.1 rfl (lv_room (Nat.le_of_ble_eq_true rfl)) dX12_clauseOfS_31 ⟨Nat.le_of_ble_eq_true rfl, Nat.le_of_ble_eq_true rfl⟩) hS (fun q _ h => hFc q h) hFc (fun r_16 u tC H1 locs htC hvm hw_17 hB hz1 hk1 hS => ?_)
      obtain ⟨sp9_18, wg9_19⟩ := u
      try dsimp only at hw_17 hB
      obtain ⟨hP1, hK1, hD1⟩ := hB
      rw [htC] at hP1
      have hK1 := va_K.moved hvm.symm hK1
      obtain ⟨hP, hD⟩ := va_join (wr := []) (w1 := [(zo14irriiiiiirriirrrrlriiii m0 th aS aI im (nI a) sp9_18 (nI E) wg9_19 0 aB aT se dn aG aO aN aD bv aY rn kd nu tv), (zaI aS cS 901 fS)]) hP hD [0, 1] [] rfl rfl (by decide) (by decide) hk1 hFc hP1 hD1
      have hK := (hK.sub (tys' := []) [] rfl).app hK1
      generalize H1 = H at hP hS ⊢
      have hP : va_P (dC, dI) vwCl [(zo14irriiiiiirriirrrrlriiii m0 th aS aI im (nI a) sp9_18 (nI E) wg9_19 0 aB aT se dn aG aO aN aD bv aY rn kd nu tv), (zaI aS cS 901 fS)] H := hP
      have hD : va_D A [(zo14irriiiiiirriirrrrlriiii m0 th aS aI im (nI a) sp9_18 (nI E) wg9_19 0 aB aT se dn aG aO aN aD bv aY rn kd nu tv), (zaI aS cS 901 fS)] := hD
      have hK : va_K (dC, dI) vwCl [(cS, .int)] s := hK
      rcases hw_17 with ⟨rfl, rfl, hN_27, v_20, h_22, rfl⟩ | ⟨rfl, h_26, v_20, p_21, h_22, h_23, h_24, rfl, rfl, hN_27⟩
      · skip
        have hN := hN_27 rfl
        refine lv_istore_n (lv' := [(1, .int (nI v_20)), (0, .ref m0)]) hx hb dX12_clauseOfS_34 rfl hl (by decide) rfl (fun ls hl => ?_)
        refine lv_aload_n hx hb dX12_clauseOfS_35 rfl (lv_at hl 1 rfl) ?_
        refine va_get (D := (dC, dI)) (ci := 14) (v := .int 1) (C := RX12) (T := TX12) (N := 23) hx hb hts kc_clauseOfS_0 hown hK hP 0 rfl rfl 7 (by decide) (hts (.fieldLink RX12 65 "MistHeapsModel" "isWrong" "Z") kc_clauseOfS_1) (fun _ h9 => h9) rfl dX12_clauseOfS_36 ?_
        refine lv_if_ne (tgt := 56) hx hb dX12_clauseOfS_39 (by decide) (fun _ => ?_) (fun c_28 => absurd c_28 (by decide))
        rw [hQ]
        have hP9 := hP.sub (ws' := [(zo14irriiiiiirriirrrrlriiii m0 th aS aI im (nI a) (nI (p0 + 1 + sLen 9)) (nI E) 1 0 aB aT se dn aG aO aN aD bv aY rn kd nu tv), (zaI aS cS 901 fS)]) [0, 1] rfl
        have hD9 := hD.sub (ws' := [(zo14irriiiiiirriirrrrlriiii m0 th aS aI im (nI a) (nI (p0 + 1 + sLen 9)) (nI E) 1 0 aB aT se dn aG aO aN aD bv aY rn kd nu tv), (zaI aS cS 901 fS)]) [0, 1] (by decide) rfl
        have hK9 := hK.sub (tys' := [(cS, .int)]) [0] rfl
        exact W.vret hx hb hr (fun tQ htQ hWQ => ⟨⟨(fS, (nI (p0 + 1 + sLen 9)), 1), rfl, ⟨p0 + 1 + sLen 9, rfl, by omega, by omega, PQ.rf, Or.inl ⟨rfl, (cl_s2 g115 hs1).trans (sg_2 hm_15 hN)⟩⟩, by rw [htQ]; exact hP9, va_K.moved hWQ.alike hK9, hD9⟩, hS.F htQ⟩) hS.2.2 dX12_clauseOfS_56
      · skip
        have hN := hN_27
        refine lv_istore_n (lv' := [(1, .int (nI v_20)), (0, .ref m0)]) hx hb dX12_clauseOfS_34 rfl hl (by decide) rfl (fun ls hl => ?_)
        refine lv_aload_n hx hb dX12_clauseOfS_35 rfl (lv_at hl 1 rfl) ?_
        refine va_get (D := (dC, dI)) (ci := 14) (v := .int 0) (C := RX12) (T := TX12) (N := 23) hx hb hts kc_clauseOfS_0 hown hK hP 0 rfl rfl 7 (by decide) (hts (.fieldLink RX12 65 "MistHeapsModel" "isWrong" "Z") kc_clauseOfS_1) (fun _ h9 => h9) rfl dX12_clauseOfS_36 ?_
        refine lv_if_ne (tgt := 56) hx hb dX12_clauseOfS_39 (by decide) (fun c_29 => absurd c_29 (by decide)) (fun _ => ?_)
        refine lv_aload_n hx hb dX12_clauseOfS_42 rfl (lv_at hl 1 rfl) ?_
        refine va_get (D := (dC, dI)) (ci := 14) (v := .ref aS) (C := RX12) (T := TX12) (N := 23) hx hb hts kc_clauseOfS_0 hown hK hP 0 rfl rfl 1 (by decide) (hts (.fieldLink RX12 9 "MistHeapsModel" "s" "[I") kc_clauseOfS_2) (fun _ h9 => h9) rfl dX12_clauseOfS_43 ?_
        refine lv_sipush (v := 191) hx hb dX12_clauseOfS_46 (by decide) ?_
        refine lv_aload_n hx hb dX12_clauseOfS_49 rfl (lv_at hl 1 rfl) ?_
        refine va_get (D := (dC, dI)) (ci := 14) (v := .int (nI a)) (C := RX12) (T := TX12) (N := 23) hx hb hts kc_clauseOfS_0 hown hK hP 0 rfl rfl 4 (by decide) (hts (.fieldLink RX12 86 "MistHeapsModel" "act" "I") kc_clauseOfS_3) (fun _ h9 => h9) rfl dX12_clauseOfS_50 ?_
        refine lv_iadd hx hb dX12_clauseOfS_53 ?_
        refine qi_as (y := nI (191 + a)) (nI_add 191 a) ?_
        refine lv_iload_n hx hb dX12_clauseOfS_54 rfl (lv_at hl 0 rfl) ?_
        refine va_iast hx hb hK hP hD hS 1 0 rfl rfl (vp_in_nI (n := 191 + a) (N := 901) (by omega) (by omega)) dX12_clauseOfS_55 (fun H locs hP hD hS => ?_)
        rw [nI_clamp (n := 191 + a) (by omega)] at hP hD
        have hP : va_P (dC, dI) vwCl [(zo14irriiiiiirriirrrrlriiii m0 th aS aI im (nI a) (nI p_21) (nI E) 0 0 aB aT se dn aG aO aN aD bv aY rn kd nu tv), (zaI aS cS 901 (upd fS (191 + a) (nI v_20)))] H := hP
        have hD : va_D A [(zo14irriiiiiirriirrrrlriiii m0 th aS aI im (nI a) (nI p_21) (nI E) 0 0 aB aT se dn aG aO aN aD bv aY rn kd nu tv), (zaI aS cS 901 (upd fS (191 + a) (nI v_20)))] := hD
        have hI_30 := PI.up191 (x := nI v_20) ((gI).mono (q := p_21) (by omega) (by omega))
        rw [show upd fS (191 + a) (nI v_20) = upd fS (191 + a) (nI v_20) from rfl] at hP hD
        have hP : va_P (dC, dI) vwCl [(zo14irriiiiiirriirrrrlriiii m0 th aS aI im (nI a) (nI p_21) (nI E) 0 0 aB aT se dn aG aO aN aD bv aY rn kd nu tv), (zaI aS cS 901 (upd fS (191 + a) (nI v_20)))] H := hP
        have hD : va_D A [(zo14irriiiiiirriirrrrlriiii m0 th aS aI im (nI a) (nI p_21) (nI E) 0 0 aB aT se dn aG aO aN aD bv aY rn kd nu tv), (zaI aS cS 901 (upd fS (191 + a) (nI v_20)))] := hD
        rw [hQ]
        have hP9 := hP.sub (ws' := [(zo14irriiiiiirriirrrrlriiii m0 th aS aI im (nI a) (nI p_21) (nI E) 0 0 aB aT se dn aG aO aN aD bv aY rn kd nu tv), (zaI aS cS 901 (upd fS (191 + a) (nI v_20)))]) [0, 1] rfl
        have hD9 := hD.sub (ws' := [(zo14irriiiiiirriirrrrlriiii m0 th aS aI im (nI a) (nI p_21) (nI E) 0 0 aB aT se dn aG aO aN aD bv aY rn kd nu tv), (zaI aS cS 901 (upd fS (191 + a) (nI v_20)))]) [0, 1] (by decide) rfl
        have hK9 := hK.sub (tys' := [(cS, .int)]) [0] rfl
        exact W.vret hx hb hr (fun tQ htQ hWQ => ⟨⟨((upd fS (191 + a) (nI v_20)), (nI p_21), 0), rfl, ⟨p_21, rfl, by omega, by omega, PQ_191, Or.inr ⟨rfl, (2, v_20, []), (cl_s2 g115 hs1).trans (sg_3 hm_15 hN), (by have h9 := hI_30; rw [show K ++ fl1 (2, v_20, []) = K from List.append_nil K]; exact h9), pk_us⟩⟩, by rw [htQ]; exact hP9, va_K.moved hWQ.alike hK9, hD9⟩, hS.F htQ⟩) hS.2.2 dX12_clauseOfS_56
    · skip
      refine lv_aload_n hx hb dX12_clauseOfS_30 rfl (lv_at hl 0 rfl) ?_
      have hPc := hP.sub (ws' := [(zo14irriiiiiirriirrrrlriiii m0 th aS aI im (nI a) (nI (p0 + 1 + mlen ss (p0 + 1) (sTx 9))) (nI E) 1 0 aB aT se dn aG aO aN aD bv aY rn kd nu tv), (zaI aS cS 901 fS)]) [0, 1] rfl
      have hDc := hD.sub (ws' := [(zo14irriiiiiirriirrrrlriiii m0 th aS aI im (nI a) (nI (p0 + 1 + mlen ss (p0 + 1) (sTx 9))) (nI E) 1 0 aB aT se dn aG aO aN aD bv aY rn kd nu tv), (zaI aS cS 901 fS)]) [0, 1] (by decide) rfl
      have hKc := hK.sub (tys' := [(cS, .int)]) [0] rfl
      have hFc := va_free (wc := [(zo14irriiiiiirriirrrrlriiii m0 th aS aI im (nI a) (nI (p0 + 1 + mlen ss (p0 + 1) (sTx 9))) (nI E) 1 0 aB aT se dn aG aO aN aD bv aY rn kd nu tv), (zaI aS cS 901 fS)]) hD hS hA [0, 1] rfl
      refine va_calli (va_runV (As := []) (rest := []) ⟨hx, hb, hml, hown, hts⟩ (c_figures l dC dI m0 aS aI aB aT aG aO aN aD aY th im (nI a) (nI (p0 + 1 + mlen ss (p0 + 1) (sTx 9))) (nI E) 1 0 se dn rn kd nu tv bv cS fS a (p0 + 1 + mlen ss (p0 + 1) (sTx 9)) E ss H.size (by omega) (by omega) (by omega) (Or.inr rfl) (gT)) (cwV 0 hts gX12_clauseOfS_X12_figures rfl rfl rfl hd_yX12_figures ⟨Nat.le_of_ble_eq_true rfl, Nat.le_of_ble_eq_true rfl⟩) ⟨fun a U g mk q => by obtain ⟨q0, q1, qP, qK, qD⟩ := q; exact ⟨q0, q1, qP, va_K.moved (u := U) (U := U.calling g mk a) (Vm.Alike.refl U.vm) qK, qD⟩, va_recv hK hP (ci := 14) (q := (RX12, TX12, 23)) (q0 := 0) rfl rfl, fun U hU hW => ⟨rfl, by rw [hU], by rw [hU]; exact hPc, va_K.moved hW.alike hKc, hDc.weaken (fun _ _ _ _ => trivial)⟩⟩ rfl rfl hl.1 rfl (lv_room (Nat.le_of_ble_eq_true rfl)) dX12_clauseOfS_31 ⟨Nat.le_of_ble_eq_true rfl, Nat.le_of_ble_eq_true rfl⟩) hS (fun q _ h => hFc q h) hFc (fun r_31 u tC H1 locs htC hvm hw_32 hB hz1 hk1 hS => ?_)
      obtain ⟨sp9_33, wg9_34⟩ := u
      try dsimp only at hw_32 hB
      obtain ⟨hP1, hK1, hD1⟩ := hB
      rw [htC] at hP1
      have hK1 := va_K.moved hvm.symm hK1
      obtain ⟨hP, hD⟩ := va_join (wr := []) (w1 := [(zo14irriiiiiirriirrrrlriiii m0 th aS aI im (nI a) sp9_33 (nI E) wg9_34 0 aB aT se dn aG aO aN aD bv aY rn kd nu tv), (zaI aS cS 901 fS)]) hP hD [0, 1] [] rfl rfl (by decide) (by decide) hk1 hFc hP1 hD1
      have hK := (hK.sub (tys' := []) [] rfl).app hK1
      generalize H1 = H at hP hS ⊢
      have hP : va_P (dC, dI) vwCl [(zo14irriiiiiirriirrrrlriiii m0 th aS aI im (nI a) sp9_33 (nI E) wg9_34 0 aB aT se dn aG aO aN aD bv aY rn kd nu tv), (zaI aS cS 901 fS)] H := hP
      have hD : va_D A [(zo14irriiiiiirriirrrrlriiii m0 th aS aI im (nI a) sp9_33 (nI E) wg9_34 0 aB aT se dn aG aO aN aD bv aY rn kd nu tv), (zaI aS cS 901 fS)] := hD
      have hK : va_K (dC, dI) vwCl [(cS, .int)] s := hK
      rcases hw_32 with ⟨rfl, rfl, hN_42, v_35, h_37, rfl⟩ | ⟨rfl, h_41, v_35, p_36, h_37, h_38, h_39, rfl, rfl, hN_42⟩
      · skip
        refine lv_istore_n (lv' := [(1, .int (nI v_35)), (0, .ref m0)]) hx hb dX12_clauseOfS_34 rfl hl (by decide) rfl (fun ls hl => ?_)
        refine lv_aload_n hx hb dX12_clauseOfS_35 rfl (lv_at hl 1 rfl) ?_
        refine va_get (D := (dC, dI)) (ci := 14) (v := .int 1) (C := RX12) (T := TX12) (N := 23) hx hb hts kc_clauseOfS_0 hown hK hP 0 rfl rfl 7 (by decide) (hts (.fieldLink RX12 65 "MistHeapsModel" "isWrong" "Z") kc_clauseOfS_1) (fun _ h9 => h9) rfl dX12_clauseOfS_36 ?_
        refine lv_if_ne (tgt := 56) hx hb dX12_clauseOfS_39 (by decide) (fun _ => ?_) (fun c_43 => absurd c_43 (by decide))
        rw [hQ]
        have hP9 := hP.sub (ws' := [(zo14irriiiiiirriirrrrlriiii m0 th aS aI im (nI a) (nI (p0 + 1 + mlen ss (p0 + 1) (sTx 9))) (nI E) 1 0 aB aT se dn aG aO aN aD bv aY rn kd nu tv), (zaI aS cS 901 fS)]) [0, 1] rfl
        have hD9 := hD.sub (ws' := [(zo14irriiiiiirriirrrrlriiii m0 th aS aI im (nI a) (nI (p0 + 1 + mlen ss (p0 + 1) (sTx 9))) (nI E) 1 0 aB aT se dn aG aO aN aD bv aY rn kd nu tv), (zaI aS cS 901 fS)]) [0, 1] (by decide) rfl
        have hK9 := hK.sub (tys' := [(cS, .int)]) [0] rfl
        exact W.vret hx hb hr (fun tQ htQ hWQ => ⟨⟨(fS, (nI (p0 + 1 + mlen ss (p0 + 1) (sTx 9))), 1), rfl, ⟨p0 + 1 + mlen ss (p0 + 1) (sTx 9), rfl, by omega, by omega, PQ.rf, Or.inl ⟨rfl, (cl_s2 g115 hs1).trans (sg_1 (fun z => by have := (show mlen ss (p0 + 1) (sTx 9) < 5 from hm_15); exact absurd z (Nat.ne_of_lt this)))⟩⟩, by rw [htQ]; exact hP9, va_K.moved hWQ.alike hK9, hD9⟩, hS.F htQ⟩) hS.2.2 dX12_clauseOfS_56
      · skip
        exact absurd h_41 (by decide)
  · skip
    have hs1 : ss (p0 + 1) = 101 := (gT.eq (c := 101) (by omega) (by omega)).mp (by rw [← hw_8, c_9]; rfl)
    refine lv_aload_n hx hb dX12_clauseOfS_15 rfl (lv_at hl 0 rfl) ?_
    refine lv_bipush (v := (-10)) hx hb dX12_clauseOfS_16 (by decide) ?_
    refine qi_as (y := nI 0 - nI 10) (by decide) ?_
    refine va_ldcS hx hb hown (show vk_R RX12 119 "ee " (sK 8) s from hE.1 8 (by decide)) dX12_clauseOfS_18 ?_
    have hPc := hP.sub (ws' := [(zo14irriiiiiirriirrrrlriiii m0 th aS aI im (nI a) (nI (p0 + 1)) (nI E) 0 0 aB aT se dn aG aO aN aD bv aY rn kd nu tv), (zaI aS cS 901 fS)]) [0, 1] rfl
    have hDc := hD.sub (ws' := [(zo14irriiiiiirriirrrrlriiii m0 th aS aI im (nI a) (nI (p0 + 1)) (nI E) 0 0 aB aT se dn aG aO aN aD bv aY rn kd nu tv), (zaI aS cS 901 fS)]) [0, 1] (by decide) rfl
    have hKc := hK.sub (tys' := [(cS, .int)]) [0] rfl
    have hFc := va_free (wc := [(zo14irriiiiiirriirrrrlriiii m0 th aS aI im (nI a) (nI (p0 + 1)) (nI E) 0 0 aB aT se dn aG aO aN aD bv aY rn kd nu tv), (zaI aS cS 901 fS)]) hD hS hA [0, 1] rfl
    refine va_callv (va_runV (As := [.int (nI 0 - nI 10), .ref (sK 8)]) (rest := []) ⟨hx, hb, hml, hown, hts⟩ (c_much l dC dI sK sV m0 aS aI aB aT aG aO aN aD aY th im (nI a) (nI (p0 + 1)) (nI E) 0 0 se dn rn kd nu tv bv cS fS a (p0 + 1) E K ss 10 8 0 H.size (by omega) (by omega) (by omega) ((gI).mono (by omega) (by omega)) (gT) (by decide) (by decide)) (cwV 2 hts gX12_clauseOfS_X12_much rfl rfl rfl hd_yX12_much ⟨Nat.le_of_ble_eq_true rfl, Nat.le_of_ble_eq_true rfl⟩) ⟨fun a U g mk q => by obtain ⟨q0, q1, qP, qK, qD, qhE⟩ := q; exact ⟨q0, q1, qP, va_K.moved (u := U) (U := U.calling g mk a) (Vm.Alike.refl U.vm) qK, qD, qhE.same rfl rfl⟩, va_recv hK hP (ci := 14) (q := (RX12, TX12, 23)) (q0 := 0) rfl rfl, fun U hU hW => ⟨rfl, by rw [hU], by rw [hU]; exact hPc, va_K.moved hW.alike hKc, hDc.weaken (fun _ _ _ _ => trivial), hE.call hS hU hW (fun q h => hFc q h)⟩⟩ rfl rfl hl.1 rfl (lv_room (Nat.le_of_ble_eq_true rfl)) dX12_clauseOfS_20 ⟨Nat.le_of_ble_eq_true rfl, Nat.le_of_ble_eq_true rfl⟩) hS (fun q _ h => hFc q h) hFc (fun u tC H1 locs htC hvm hw_45 hB hz1 hk1 hS => ?_)
    obtain ⟨fS9_46, sp9_47, wg9_48⟩ := u
    try dsimp only at hw_45 hB
    obtain ⟨hP1, hK1, hD1⟩ := hB
    rw [htC] at hP1
    have hK1 := va_K.moved hvm.symm hK1
    obtain ⟨hP, hD⟩ := va_join (wr := []) (w1 := [(zo14irriiiiiirriirrrrlriiii m0 th aS aI im (nI a) sp9_47 (nI E) wg9_48 0 aB aT se dn aG aO aN aD bv aY rn kd nu tv), (zaI aS cS 901 fS9_46)]) hP hD [0, 1] [] rfl rfl (by decide) (by decide) hk1 hFc hP1 hD1
    have hK := (hK.sub (tys' := []) [] rfl).app hK1
    generalize H1 = H at hP hS ⊢
    have hP : va_P (dC, dI) vwCl [(zo14irriiiiiirriirrrrlriiii m0 th aS aI im (nI a) sp9_47 (nI E) wg9_48 0 aB aT se dn aG aO aN aD bv aY rn kd nu tv), (zaI aS cS 901 fS9_46)] H := hP
    have hD : va_D A [(zo14irriiiiiirriirrrrlriiii m0 th aS aI im (nI a) sp9_47 (nI E) wg9_48 0 aB aT se dn aG aO aN aD bv aY rn kd nu tv), (zaI aS cS 901 fS9_46)] := hD
    have hK : va_K (dC, dI) vwCl [(cS, .int)] s := hK
    obtain ⟨p_49, rfl, h_52, h_53, hF_54, q9⟩ := hw_45
    rcases q9 with ⟨rfl, eM_56⟩ | ⟨rfl, v_50, L_51, eM_56, hI_55⟩
    · skip
      rw [hQ]
      have hP9 := hP.sub (ws' := [(zo14irriiiiiirriirrrrlriiii m0 th aS aI im (nI a) (nI p_49) (nI E) 1 0 aB aT se dn aG aO aN aD bv aY rn kd nu tv), (zaI aS cS 901 fS9_46)]) [0, 1] rfl
      have hD9 := hD.sub (ws' := [(zo14irriiiiiirriirrrrlriiii m0 th aS aI im (nI a) (nI p_49) (nI E) 1 0 aB aT se dn aG aO aN aD bv aY rn kd nu tv), (zaI aS cS 901 fS9_46)]) [0, 1] (by decide) rfl
      have hK9 := hK.sub (tys' := [(cS, .int)]) [0] rfl
      exact W.vret hx hb hr (fun tQ htQ hWQ => ⟨⟨(fS9_46, (nI p_49), 1), rfl, ⟨p_49, rfl, by omega, by omega, ((PF.rf).tr hF_54).q, Or.inl ⟨rfl, (cl_s1 g115 hs1).trans eM_56⟩⟩, by rw [htQ]; exact hP9, va_K.moved hWQ.alike hK9, hD9⟩, hS.F htQ⟩) hS.2.2 dX12_clauseOfS_23
    · skip
      rw [hQ]
      have hP9 := hP.sub (ws' := [(zo14irriiiiiirriirrrrlriiii m0 th aS aI im (nI a) (nI p_49) (nI E) 0 0 aB aT se dn aG aO aN aD bv aY rn kd nu tv), (zaI aS cS 901 fS9_46)]) [0, 1] rfl
      have hD9 := hD.sub (ws' := [(zo14irriiiiiirriirrrrlriiii m0 th aS aI im (nI a) (nI p_49) (nI E) 0 0 aB aT se dn aG aO aN aD bv aY rn kd nu tv), (zaI aS cS 901 fS9_46)]) [0, 1] (by decide) rfl
      have hK9 := hK.sub (tys' := [(cS, .int)]) [0] rfl
      exact W.vret hx hb hr (fun tQ htQ hWQ => ⟨⟨(fS9_46, (nI p_49), 0), rfl, ⟨p_49, rfl, by omega, by omega, ((PF.rf).tr hF_54).q, Or.inr ⟨rfl, (0, v_50, L_51), (cl_s1 g115 hs1).trans eM_56, hI_55, ((PF.rf).tr hF_54) _ (by omega) (by omega)⟩⟩, by rw [htQ]; exact hP9, va_K.moved hWQ.alike hK9, hD9⟩, hS.F htQ⟩) hS.2.2 dX12_clauseOfS_23
