theorem ggX12_much_X12_spells : GoodIn wsX12_much wsX12_spells := gga_of 1246 rfl rfl rfl
theorem gX12_much_X12_spells : GoodIn wsX12_much (wsV RX12 115 RX12 yX12_spells wsX12_spells) := goodIn_app (ggh_of [1243, 1245, 26, 72] rfl rfl rfl) ggX12_much_X12_spells
theorem ggX12_much_X12_figures : GoodIn wsX12_much wsX12_figures := gga_of 1252 rfl rfl rfl
theorem gX12_much_X12_figures : GoodIn wsX12_much (wsV RX12 109 RX12 yX12_figures wsX12_figures) := goodIn_app (ggh_of [1249, 1251, 27, 72] rfl rfl rfl) ggX12_much_X12_figures
theorem ggX12_much_X12_must : GoodIn wsX12_much wsX12_must := gga_of 1237 rfl rfl rfl
theorem gX12_much_X12_must : GoodIn wsX12_much (wsV RX12 82 RX12 yX12_must wsX12_must) := goodIn_app (ggh_of [1234, 1236, 24, 72] rfl rfl rfl) ggX12_much_X12_must
theorem ggX12_much_X12_some : GoodIn wsX12_much wsX12_some := gga_of 1256 rfl rfl rfl
theorem gX12_much_X12_some : GoodIn wsX12_much (wsV RX12 98 RX12 yX12_some wsX12_some) := goodIn_app (ggh_of [1253, 1255, 28, 72] rfl rfl rfl) ggX12_much_X12_some
theorem ggX12_much_X12_emits : GoodIn wsX12_much wsX12_emits := gga_of 1268 rfl rfl rfl
theorem gX12_much_X12_emits : GoodIn wsX12_much (wsV RX12 95 RX12 yX12_emits wsX12_emits) := goodIn_app (ggh_of [1265, 1267, 31, 72] rfl rfl rfl) ggX12_much_X12_emits
noncomputable def dk13ahill_cX12_much_0 : List (Nat × Instr × Nat) := [(0, .aload_n 0, 1), (1, .aload_n 2, 1), (2, .invokevirtual 115, 3), (5, .aload_n 0, 1), (6, .invokevirtual 109, 3), (9, .istore_n 3, 1), (10, .aload_n 0, 1), (11, .bipush 32, 2), (13, .invokevirtual 82, 3), (16, .aload_n 0, 1), (17, .invokevirtual 98, 3), (20, .aload_n 0, 1), (21, .iload_n 1, 1), (22, .iload_n 3, 1), (23, .isub, 1), (24, .invokevirtual 95, 3), (27, .return_, 1)]
set_option maxRecDepth 100000 in
theorem dk13ahill_cX12_much_0_a : dkA cX12_much dk13ahill_cX12_much_0 = true := by decide +kernel
theorem dX12_much_0 : decode cX12_much 0 = .ok (.aload_n 0, 1) := dkAt dk13ahill_cX12_much_0_a 0 rfl
theorem dX12_much_1 : decode cX12_much 1 = .ok (.aload_n 2, 1) := dkAt dk13ahill_cX12_much_0_a 1 rfl
theorem dX12_much_2 : decode cX12_much 2 = .ok (.invokevirtual 115, 3) := dkAt dk13ahill_cX12_much_0_a 2 rfl
theorem dX12_much_5 : decode cX12_much 5 = .ok (.aload_n 0, 1) := dkAt dk13ahill_cX12_much_0_a 3 rfl
theorem dX12_much_6 : decode cX12_much 6 = .ok (.invokevirtual 109, 3) := dkAt dk13ahill_cX12_much_0_a 4 rfl
theorem dX12_much_9 : decode cX12_much 9 = .ok (.istore_n 3, 1) := dkAt dk13ahill_cX12_much_0_a 5 rfl
theorem dX12_much_10 : decode cX12_much 10 = .ok (.aload_n 0, 1) := dkAt dk13ahill_cX12_much_0_a 6 rfl
theorem dX12_much_11 : decode cX12_much 11 = .ok (.bipush 32, 2) := dkAt dk13ahill_cX12_much_0_a 7 rfl
theorem dX12_much_13 : decode cX12_much 13 = .ok (.invokevirtual 82, 3) := dkAt dk13ahill_cX12_much_0_a 8 rfl
theorem dX12_much_16 : decode cX12_much 16 = .ok (.aload_n 0, 1) := dkAt dk13ahill_cX12_much_0_a 9 rfl
theorem dX12_much_17 : decode cX12_much 17 = .ok (.invokevirtual 98, 3) := dkAt dk13ahill_cX12_much_0_a 10 rfl
theorem dX12_much_20 : decode cX12_much 20 = .ok (.aload_n 0, 1) := dkAt dk13ahill_cX12_much_0_a 11 rfl
theorem dX12_much_21 : decode cX12_much 21 = .ok (.iload_n 1, 1) := dkAt dk13ahill_cX12_much_0_a 12 rfl
theorem dX12_much_22 : decode cX12_much 22 = .ok (.iload_n 3, 1) := dkAt dk13ahill_cX12_much_0_a 13 rfl
theorem dX12_much_23 : decode cX12_much 23 = .ok (.isub, 1) := dkAt dk13ahill_cX12_much_0_a 14 rfl
theorem dX12_much_24 : decode cX12_much 24 = .ok (.invokevirtual 95, 3) := dkAt dk13ahill_cX12_much_0_a 15 rfl
theorem dX12_much_27 : decode cX12_much 27 = .ok (.return_, 1) := dkAt dk13ahill_cX12_much_0_a 16 rfl
theorem clause_sd {K v d : Nat} (hK : K = 10 ∨ K = 200 ∨ K = 400) (hv : v ≤ 99) : stepd (nI 0 - nI K - nI v) d = some 0 := by
  have h : ∀ K, K ∈ [10, 200, 400] → ∀ v, v < 100 → (¬ (0 : Int32) ≤ nI 0 - nI K - nI v ∧ ¬ nI 0 - nI K - nI v = -1 ∧ ¬ -10 < nI 0 - nI K - nI v) := by decide +kernel
  obtain ⟨h1, h2, h3⟩ := h K (by rcases hK with rfl | rfl | rfl <;> simp) v (by omega)
  rw [stepd, if_neg h1, if_neg h2, if_neg h3]
theorem PI.up191 {f : Nat → Int32} {a d p E : Nat} {K : List Nat} {x : Int32} (h : PI f a K d p E) : PI (upd f (191 + a) x) a K d p E := by
  obtain ⟨a1, a2, a3, a4, a5, a6, a7, a8⟩ := h
  refine ⟨a1, a2, a3, (pk_un (by omega)).trans a4, a5, a6, ?_, fun i hi => (pk_un (by omega)).trans (a8 i hi)⟩
  rw [← a7]
  exact sdep_cong (fun i hi => pk_un (by omega))
theorem PQ_191 {f : Nat → Int32} {a : Nat} {x : Int32} : PQ a f (upd f (191 + a) x) := fun i h1 _ _ => pk_un h1
theorem lk_out {x : Int32} (h1 : ¬ x = 100) (h2 : ¬ x = 104) (h3 : ¬ x = 115) : Op.lookupswitch.offset [(100, 55), (104, 43), (115, 36)] 67 x.toInt = 67 := by
  have e : ∀ y : Int32, ¬ x = y → ¬ y.toInt = x.toInt := fun y h q => h (Int32.toInt_inj.mp q.symm)
  rw [Op.lookupswitch.offset_cons, if_neg (show ¬ (100 : Int) = x.toInt from e 100 h1), Op.lookupswitch.offset_cons, if_neg (show ¬ (104 : Int) = x.toInt from e 104 h2), Op.lookupswitch.offset_cons, if_neg (show ¬ (115 : Int) = x.toInt from e 115 h3)]
  rfl

set_option maxHeartbeats 4000000 in
set_option maxRecDepth 100000 in
theorem c_much (l : Launch) (dC : Nat → ClassId) (dI : Nat → Nat → Nat) (sK sV : Nat → Nat) (m0 aS aI aB aT aG aO aN aD aY : Nat) (th im ac sp en wg op se dn rn kd nu tv : Int32) (bv : Int64) (cS : ClassId) (fS : Nat → Int32) (a p0 E : Nat) (K : List Nat) (ss : Nat → Nat) (KK i wd : Nat) (sz : Nat) (ga : a < 5) (gE : E ≤ 100) (gp : p0 ≤ E) (gI : PI fS a K 0 p0 E) (gT : TP fS E ss) (hKK : (wd = 0 ∧ KK = 10) ∨ (wd = 1 ∧ KK = 200) ∨ (wd = 3 ∧ KK = 400)) (hi12 : i < 12) : Met l yX12_much wsX12_much ({ frames := 23, cells := 0, slots := 0, locals := 491 } : Room) (va_Pc [.ref m0, .int (nI 0 - nI KK), .ref (sK i)] (fun U => U.heap.size = sz ∧ va_P (dC, dI) vwCl [(zo14irriiiiiirriirrrrlriiii m0 th aS aI im (nI a) (nI p0) (nI E) 0 0 aB aT se dn aG aO aN aD bv aY rn kd nu tv), (zaI aS cS 901 fS)] U.heap ∧ va_K (dC, dI) vwCl [(cS, .int)] U ∧ va_D (fun _ => True) [(zo14irriiiiiirriirrrrlriiii m0 th aS aI im (nI a) (nI p0) (nI E) 0 0 aB aT se dn aG aO aN aD bv aY rn kd nu tv), (zaI aS cS 901 fS)] ∧ Gs sK sV (va_A [(zo14irriiiiiirriirrrrlriiii m0 th aS aI im (nI a) (nI p0) (nI E) 0 0 aB aT se dn aG aO aN aD bv aY rn kd nu tv), (zaI aS cS 901 fS)] sz) U)) (va_Qv (fun (u : (Nat → Int32) × (Int32) × (Int32)) => match u with | (fS9, sp9, wg9) => ∃ p9 : Nat, sp9 = nI p9 ∧ p0 ≤ p9 ∧ p9 ≤ E ∧ PF a fS fS9 ∧ ((wg9 = 1 ∧ pMch ss (sTx i) (sLen i) wd p0 = (none, p9)) ∨ (wg9 = 0 ∧ ∃ (v9 : Nat) (L9 : List Nat), pMch ss (sTx i) (sLen i) wd p0 = (some (wd, v9, L9), p9) ∧ PI fS9 a (K ++ (L9 ++ [2000 + 100 * wd + v9])) 0 p9 E))) (fun (u : (Nat → Int32) × (Int32) × (Int32)) (t : State) => match u with | (fS9, sp9, wg9) => va_P (dC, dI) vwCl [(zo14irriiiiiirriirrrrlriiii m0 th aS aI im (nI a) sp9 (nI E) wg9 0 aB aT se dn aG aO aN aD bv aY rn kd nu tv), (zaI aS cS 901 fS9)] t.heap ∧ va_K (dC, dI) vwCl [(cS, .int)] t ∧ va_D (va_A [(zo14irriiiiiirriirrrrlriiii m0 th aS aI im (nI a) (nI p0) (nI E) 0 0 aB aT se dn aG aO aN aD bv aY rn kd nu tv), (zaI aS cS 901 fS)] sz) [(zo14irriiiiiirriirrrrlriiii m0 th aS aI im (nI a) sp9 (nI E) wg9 0 aB aT se dn aG aO aN aD bv aY rn kd nu tv), (zaI aS cS 901 fS9)]) (va_A [(zo14irriiiiiirriirrrrlriiii m0 th aS aI im (nI a) (nI p0) (nI E) 0 0 aB aT se dn aG aO aN aD bv aY rn kd nu tv), (zaI aS cS 901 fS)] sz)) 0 0 (va_A [(zo14irriiiiiirriirrrrlriiii m0 th aS aI im (nI a) (nI p0) (nI E) 0 0 aB aT se dn aG aO aN aD bv aY rn kd nu tv), (zaI aS cS 901 fS)] sz) := by
  refine met_ofQ (cc := cX12_much) (maxL := 4) (ret := none) (by decide) rfl ?_
  intro p e s m args below meth c s₁ Q B hml hv hQ
  obtain ⟨rfl, hsz, hP, hK, hD0, hE⟩ := hv
  have hx := B.exec
  have hb := B.bytes
  have hr := B.returns
  have hts := atoms_spec (ws := wsX12_much) B.pre
  have hown : s.vm.findClass RX12 = some m.cls := findClass_of_methodNamed B.named
  have hlocks := B.notSynchronized
  subst hsz
  have hD := hD0.self (sz := s.heap.size)
  generalize hAe : va_A [(zo14irriiiiiirriirrrrlriiii m0 th aS aI im (nI a) (nI p0) (nI E) 0 0 aB aT se dn aG aO aN aD bv aY rn kd nu tv), (zaI aS cS 901 fS)] s.heap.size = A at hD hQ hE ⊢
  have hA : ∀ q : Nat, s.heap.size ≤ q → A q := fun q h => by rw [← hAe]; exact Or.inr h
  have hS : va_S A s.heap s.heap [] := va_S.rf
  have hl := lv_entry [.ref m0, .int (nI 0 - nI KK), .ref (sK i)] (n := 4) (Nat.le_of_ble_eq_true rfl)
  rw [lg_entry_eq]
  generalize (lg_sl [.ref m0, .int (nI 0 - nI KK), .ref (sK i)] ++ List.replicate (4 - (lg_sl [.ref m0, .int (nI 0 - nI KK), .ref (sK i)]).length) Slot.unset).toArray = ls at hl ⊢
  generalize hag : ([.ref m0, .int (nI 0 - nI KK), .ref (sK i)] : List Value).toArray = args at hts hQ ⊢
  have hl : lv_has ls 4 [(0, .ref m0), (1, .int (nI 0 - nI KK)), (2, .ref (sK i))] := hl
  obtain ⟨H, hH⟩ : ∃ H : Heap, H = s.heap := ⟨_, rfl⟩
  rw [← hH] at hP
  rw [← hH]
  have hS : va_S A s.heap H [] := by rw [hH]; exact hS
  obtain ⟨locs, hlo⟩ : ∃ L : List Loc, L = [] := ⟨_, rfl⟩
  rw [← hlo] at hS
  rw [← hlo]
  clear hH hlo
  have k5 := gI.2.2.2.2.1
  refine lv_aload_n hx hb dX12_much_0 rfl (lv_at hl 0 rfl) ?_
  refine lv_aload_n hx hb dX12_much_1 rfl (lv_at hl 2 rfl) ?_
  have hPc := hP.sub (ws' := [(zo14irriiiiiirriirrrrlriiii m0 th aS aI im (nI a) (nI p0) (nI E) 0 0 aB aT se dn aG aO aN aD bv aY rn kd nu tv), (zaI aS cS 901 fS)]) [0, 1] rfl
  have hDc := hD.sub (ws' := [(zo14irriiiiiirriirrrrlriiii m0 th aS aI im (nI a) (nI p0) (nI E) 0 0 aB aT se dn aG aO aN aD bv aY rn kd nu tv), (zaI aS cS 901 fS)]) [0, 1] (by decide) rfl
  have hKc := hK.sub (tys' := [(cS, .int)]) [0] rfl
  have hFc := va_free (wc := [(zo14irriiiiiirriirrrrlriiii m0 th aS aI im (nI a) (nI p0) (nI E) 0 0 aB aT se dn aG aO aN aD bv aY rn kd nu tv), (zaI aS cS 901 fS)]) hD hS hA [0, 1] rfl
  refine va_callv (va_runV (As := [.ref (sK i)]) (rest := []) ⟨hx, hb, hml, hown, hts⟩ (c_spells l dC dI sK sV m0 aS aI aB aT aG aO aN aD aY th im (nI a) (nI p0) (nI E) 0 0 se dn rn kd nu tv bv cS fS a p0 E i ss H.size (by omega) (by omega) (by omega) (by first | assumption | decide) (gT)) (cwV 1 hts gX12_much_X12_spells rfl rfl rfl hd_yX12_spells ⟨Nat.le_of_ble_eq_true rfl, Nat.le_of_ble_eq_true rfl⟩) ⟨fun a U g mk q => by obtain ⟨q0, q1, qP, qK, qD, qhE⟩ := q; exact ⟨q0, q1, qP, va_K.moved (u := U) (U := U.calling g mk a) (Vm.Alike.refl U.vm) qK, qD, qhE.same rfl rfl⟩, va_recv hK hP (ci := 14) (q := (RX12, TX12, 23)) (q0 := 0) rfl rfl, fun U hU hW => ⟨rfl, by rw [hU], by rw [hU]; exact hPc, va_K.moved hW.alike hKc, hDc.weaken (fun _ _ _ _ => trivial), hE.call hS hU hW (fun q h => hFc q h)⟩⟩ rfl rfl hl.1 rfl (lv_room (Nat.le_of_ble_eq_true rfl)) dX12_much_2 ⟨Nat.le_of_ble_eq_true rfl, Nat.le_of_ble_eq_true rfl⟩) hS (fun q _ h => hFc q h) hFc (fun u tC H1 locs htC hvm hw_2 hB hz1 hk1 hS => ?_)
  obtain ⟨sp9_3, wg9_4⟩ := u
  try dsimp only at hw_2 hB
  obtain ⟨hP1, hK1, hD1⟩ := hB
  rw [htC] at hP1
  have hK1 := va_K.moved hvm.symm hK1
  obtain ⟨hP, hD⟩ := va_join (wr := []) (w1 := [(zo14irriiiiiirriirrrrlriiii m0 th aS aI im (nI a) sp9_3 (nI E) wg9_4 0 aB aT se dn aG aO aN aD bv aY rn kd nu tv), (zaI aS cS 901 fS)]) hP hD [0, 1] [] rfl rfl (by decide) (by decide) hk1 hFc hP1 hD1
  have hK := (hK.sub (tys' := []) [] rfl).app hK1
  generalize H1 = H at hP hS ⊢
  have hP : va_P (dC, dI) vwCl [(zo14irriiiiiirriirrrrlriiii m0 th aS aI im (nI a) sp9_3 (nI E) wg9_4 0 aB aT se dn aG aO aN aD bv aY rn kd nu tv), (zaI aS cS 901 fS)] H := hP
  have hD : va_D A [(zo14irriiiiiirriirrrrlriiii m0 th aS aI im (nI a) sp9_3 (nI E) wg9_4 0 aB aT se dn aG aO aN aD bv aY rn kd nu tv), (zaI aS cS 901 fS)] := hD
  have hK : va_K (dC, dI) vwCl [(cS, .int)] s := hK
  obtain ⟨h_5, rfl, q9⟩ := hw_2
  rcases q9 with ⟨rfl, hm_6⟩ | ⟨rfl, hm_6⟩
  · skip
    rw [hm_6] at hP hD
    rw [hm_6] at h_5
    have hP : va_P (dC, dI) vwCl [(zo14irriiiiiirriirrrrlriiii m0 th aS aI im (nI a) (nI (p0 + sLen i)) (nI E) 0 0 aB aT se dn aG aO aN aD bv aY rn kd nu tv), (zaI aS cS 901 fS)] H := hP
    have hD : va_D A [(zo14irriiiiiirriirrrrlriiii m0 th aS aI im (nI a) (nI (p0 + sLen i)) (nI E) 0 0 aB aT se dn aG aO aN aD bv aY rn kd nu tv), (zaI aS cS 901 fS)] := hD
    refine lv_aload_n hx hb dX12_much_5 rfl (lv_at hl 0 rfl) ?_
    have hPc := hP.sub (ws' := [(zo14irriiiiiirriirrrrlriiii m0 th aS aI im (nI a) (nI (p0 + sLen i)) (nI E) 0 0 aB aT se dn aG aO aN aD bv aY rn kd nu tv), (zaI aS cS 901 fS)]) [0, 1] rfl
    have hDc := hD.sub (ws' := [(zo14irriiiiiirriirrrrlriiii m0 th aS aI im (nI a) (nI (p0 + sLen i)) (nI E) 0 0 aB aT se dn aG aO aN aD bv aY rn kd nu tv), (zaI aS cS 901 fS)]) [0, 1] (by decide) rfl
    have hKc := hK.sub (tys' := [(cS, .int)]) [0] rfl
    have hFc := va_free (wc := [(zo14irriiiiiirriirrrrlriiii m0 th aS aI im (nI a) (nI (p0 + sLen i)) (nI E) 0 0 aB aT se dn aG aO aN aD bv aY rn kd nu tv), (zaI aS cS 901 fS)]) hD hS hA [0, 1] rfl
    refine va_calli (va_runV (As := []) (rest := []) ⟨hx, hb, hml, hown, hts⟩ (c_figures l dC dI m0 aS aI aB aT aG aO aN aD aY th im (nI a) (nI (p0 + sLen i)) (nI E) 0 0 se dn rn kd nu tv bv cS fS a (p0 + sLen i) E ss H.size (by omega) (by omega) (by omega) (Or.inl rfl) (gT)) (cwV 0 hts gX12_much_X12_figures rfl rfl rfl hd_yX12_figures ⟨Nat.le_of_ble_eq_true rfl, Nat.le_of_ble_eq_true rfl⟩) ⟨fun a U g mk q => by obtain ⟨q0, q1, qP, qK, qD⟩ := q; exact ⟨q0, q1, qP, va_K.moved (u := U) (U := U.calling g mk a) (Vm.Alike.refl U.vm) qK, qD⟩, va_recv hK hP (ci := 14) (q := (RX12, TX12, 23)) (q0 := 0) rfl rfl, fun U hU hW => ⟨rfl, by rw [hU], by rw [hU]; exact hPc, va_K.moved hW.alike hKc, hDc.weaken (fun _ _ _ _ => trivial)⟩⟩ rfl rfl hl.1 rfl (lv_room (Nat.le_of_ble_eq_true rfl)) dX12_much_6 ⟨Nat.le_of_ble_eq_true rfl, Nat.le_of_ble_eq_true rfl⟩) hS (fun q _ h => hFc q h) hFc (fun r_7 u tC H1 locs htC hvm hw_8 hB hz1 hk1 hS => ?_)
    obtain ⟨sp9_9, wg9_10⟩ := u
    try dsimp only at hw_8 hB
    obtain ⟨hP1, hK1, hD1⟩ := hB
    rw [htC] at hP1
    have hK1 := va_K.moved hvm.symm hK1
    obtain ⟨hP, hD⟩ := va_join (wr := []) (w1 := [(zo14irriiiiiirriirrrrlriiii m0 th aS aI im (nI a) sp9_9 (nI E) wg9_10 0 aB aT se dn aG aO aN aD bv aY rn kd nu tv), (zaI aS cS 901 fS)]) hP hD [0, 1] [] rfl rfl (by decide) (by decide) hk1 hFc hP1 hD1
    have hK := (hK.sub (tys' := []) [] rfl).app hK1
    generalize H1 = H at hP hS ⊢
    have hP : va_P (dC, dI) vwCl [(zo14irriiiiiirriirrrrlriiii m0 th aS aI im (nI a) sp9_9 (nI E) wg9_10 0 aB aT se dn aG aO aN aD bv aY rn kd nu tv), (zaI aS cS 901 fS)] H := hP
    have hD : va_D A [(zo14irriiiiiirriirrrrlriiii m0 th aS aI im (nI a) sp9_9 (nI E) wg9_10 0 aB aT se dn aG aO aN aD bv aY rn kd nu tv), (zaI aS cS 901 fS)] := hD
    have hK : va_K (dC, dI) vwCl [(cS, .int)] s := hK
    rcases hw_8 with ⟨rfl, rfl, hN_18, v_11, h_13, rfl⟩ | ⟨rfl, h_17, v_11, p_12, h_13, h_14, h_15, rfl, rfl, hN_18⟩
    · skip
      have hN := hN_18 rfl
      refine lv_istore_n (lv' := [(3, .int (nI v_11)), (0, .ref m0), (1, .int (nI 0 - nI KK)), (2, .ref (sK i))]) hx hb dX12_much_9 rfl hl (by decide) rfl (fun ls hl => ?_)
      refine lv_aload_n hx hb dX12_much_10 rfl (lv_at hl 1 rfl) ?_
      refine lv_bipush (v := 32) hx hb dX12_much_11 (by decide) ?_
      have hPc := hP.sub (ws' := [(zo14irriiiiiirriirrrrlriiii m0 th aS aI im (nI a) (nI (p0 + sLen i)) (nI E) 1 0 aB aT se dn aG aO aN aD bv aY rn kd nu tv), (zaI aS cS 901 fS)]) [0, 1] rfl
      have hDc := hD.sub (ws' := [(zo14irriiiiiirriirrrrlriiii m0 th aS aI im (nI a) (nI (p0 + sLen i)) (nI E) 1 0 aB aT se dn aG aO aN aD bv aY rn kd nu tv), (zaI aS cS 901 fS)]) [0, 1] (by decide) rfl
      have hKc := hK.sub (tys' := [(cS, .int)]) [0] rfl
      have hFc := va_free (wc := [(zo14irriiiiiirriirrrrlriiii m0 th aS aI im (nI a) (nI (p0 + sLen i)) (nI E) 1 0 aB aT se dn aG aO aN aD bv aY rn kd nu tv), (zaI aS cS 901 fS)]) hD hS hA [0, 1] rfl
      refine va_callv (va_runV (As := [.int 32]) (rest := []) ⟨hx, hb, hml, hown, hts⟩ (c_must l dC dI m0 aS aI aB aT aG aO aN aD aY th im (nI a) (nI (p0 + sLen i)) (nI E) 1 0 se dn rn kd nu tv bv cS fS a (p0 + sLen i) E 32 H.size (by omega) (by omega) (by omega) (Or.inr rfl) (by decide)) (cwV 1 hts gX12_much_X12_must rfl rfl rfl hd_yX12_must ⟨Nat.le_of_ble_eq_true rfl, Nat.le_of_ble_eq_true rfl⟩) ⟨fun a U g mk q => by obtain ⟨q0, q1, qP, qK, qD⟩ := q; exact ⟨q0, q1, qP, va_K.moved (u := U) (U := U.calling g mk a) (Vm.Alike.refl U.vm) qK, qD⟩, va_recv hK hP (ci := 14) (q := (RX12, TX12, 23)) (q0 := 0) rfl rfl, fun U hU hW => ⟨rfl, by rw [hU], by rw [hU]; exact hPc, va_K.moved hW.alike hKc, hDc.weaken (fun _ _ _ _ => trivial)⟩⟩ rfl rfl hl.1 rfl (lv_room (Nat.le_of_ble_eq_true rfl)) dX12_much_13 ⟨Nat.le_of_ble_eq_true rfl, Nat.le_of_ble_eq_true rfl⟩) hS (fun q _ h => hFc q h) hFc (fun u tC H1 locs htC hvm hw_20 hB hz1 hk1 hS => ?_)
      obtain ⟨sp9_21, wg9_22⟩ := u
      try dsimp only at hw_20 hB
      obtain ⟨hP1, hK1, hD1⟩ := hB
      rw [htC] at hP1
      have hK1 := va_K.moved hvm.symm hK1
      obtain ⟨hP, hD⟩ := va_join (wr := []) (w1 := [(zo14irriiiiiirriirrrrlriiii m0 th aS aI im (nI a) sp9_21 (nI E) wg9_22 0 aB aT se dn aG aO aN aD bv aY rn kd nu tv), (zaI aS cS 901 fS)]) hP hD [0, 1] [] rfl rfl (by decide) (by decide) hk1 hFc hP1 hD1
      have hK := (hK.sub (tys' := []) [] rfl).app hK1
      generalize H1 = H at hP hS ⊢
      have hP : va_P (dC, dI) vwCl [(zo14irriiiiiirriirrrrlriiii m0 th aS aI im (nI a) sp9_21 (nI E) wg9_22 0 aB aT se dn aG aO aN aD bv aY rn kd nu tv), (zaI aS cS 901 fS)] H := hP
      have hD : va_D A [(zo14irriiiiiirriirrrrlriiii m0 th aS aI im (nI a) sp9_21 (nI E) wg9_22 0 aB aT se dn aG aO aN aD bv aY rn kd nu tv), (zaI aS cS 901 fS)] := hD
      have hK : va_K (dC, dI) vwCl [(cS, .int)] s := hK
      obtain ⟨rfl, rfl⟩ : _ ∧ _ := by rcases hw_20 with ⟨q, q2, _⟩ | ⟨_, q, _⟩; exact ⟨q, q2⟩; exact absurd q (by decide)
      refine lv_aload_n hx hb dX12_much_16 rfl (lv_at hl 1 rfl) ?_
      have hPc := hP.sub (ws' := [(zo14irriiiiiirriirrrrlriiii m0 th aS aI im (nI a) (nI (p0 + sLen i)) (nI E) 1 0 aB aT se dn aG aO aN aD bv aY rn kd nu tv)]) [0] rfl
      have hKc := hK.sub (tys' := []) [] rfl
      refine va_csv (va_runV (As := []) (rest := []) ⟨hx, hb, hml, hown, hts⟩ (c_someW l dC dI m0 aS aI aB aT aG aO aN aD aY th im (nI a) (nI (p0 + sLen i)) (nI E) 1 0 se dn rn kd nu tv bv) (cwV 0 hts gX12_much_X12_some rfl rfl rfl hd_yX12_some ⟨Nat.le_of_ble_eq_true rfl, Nat.le_of_ble_eq_true rfl⟩) ⟨fun a U g mk q => by obtain ⟨q0, qP, qK⟩ := q; exact ⟨q0, qP, va_K.moved (u := U) (U := U.calling g mk a) (Vm.Alike.refl U.vm) qK⟩, va_recv hK hP (ci := 14) (q := (RX12, TX12, 23)) (q0 := 0) rfl rfl, fun U hU hW => ⟨rfl, by rw [hU]; exact hPc, va_K.moved hW.alike hKc⟩⟩ rfl rfl hl.1 rfl (lv_room (Nat.le_of_ble_eq_true rfl)) dX12_much_17 ⟨Nat.le_of_ble_eq_true rfl, Nat.le_of_ble_eq_true rfl⟩).run (fun hw_24 => ?_)
      refine lv_aload_n hx hb dX12_much_20 rfl (lv_at hl 1 rfl) ?_
      refine lv_iload_n hx hb dX12_much_21 rfl (lv_at hl 2 rfl) ?_
      refine lv_iload_n hx hb dX12_much_22 rfl (lv_at hl 0 rfl) ?_
      refine lv_isub hx hb dX12_much_23 ?_
      have hPc := hP.sub (ws' := [(zo14irriiiiiirriirrrrlriiii m0 th aS aI im (nI a) (nI (p0 + sLen i)) (nI E) 1 0 aB aT se dn aG aO aN aD bv aY rn kd nu tv)]) [0] rfl
      have hKc := hK.sub (tys' := []) [] rfl
      refine va_csv (va_runV (As := [.int ((nI 0 - nI KK) - (nI v_11))]) (rest := []) ⟨hx, hb, hml, hown, hts⟩ (c_emitsW l dC dI m0 aS aI aB aT aG aO aN aD aY th im (nI a) (nI (p0 + sLen i)) (nI E) 1 0 se dn rn kd nu tv bv ((nI 0 - nI KK) - (nI v_11))) (cwV 1 hts gX12_much_X12_emits rfl rfl rfl hd_yX12_emits ⟨Nat.le_of_ble_eq_true rfl, Nat.le_of_ble_eq_true rfl⟩) ⟨fun a U g mk q => by obtain ⟨q0, qP, qK⟩ := q; exact ⟨q0, qP, va_K.moved (u := U) (U := U.calling g mk a) (Vm.Alike.refl U.vm) qK⟩, va_recv hK hP (ci := 14) (q := (RX12, TX12, 23)) (q0 := 0) rfl rfl, fun U hU hW => ⟨rfl, by rw [hU]; exact hPc, va_K.moved hW.alike hKc⟩⟩ rfl rfl hl.1 rfl (lv_room (Nat.le_of_ble_eq_true rfl)) dX12_much_24 ⟨Nat.le_of_ble_eq_true rfl, Nat.le_of_ble_eq_true rfl⟩).run (fun hw_26 => ?_)
      rw [hQ]
      have hP9 := hP.sub (ws' := [(zo14irriiiiiirriirrrrlriiii m0 th aS aI im (nI a) (nI (p0 + sLen i)) (nI E) 1 0 aB aT se dn aG aO aN aD bv aY rn kd nu tv), (zaI aS cS 901 fS)]) [0, 1] rfl
      have hD9 := hD.sub (ws' := [(zo14irriiiiiirriirrrrlriiii m0 th aS aI im (nI a) (nI (p0 + sLen i)) (nI E) 1 0 aB aT se dn aG aO aN aD bv aY rn kd nu tv), (zaI aS cS 901 fS)]) [0, 1] (by decide) rfl
      have hK9 := hK.sub (tys' := [(cS, .int)]) [0] rfl
      exact W.vret hx hb hr (fun tQ htQ hWQ => ⟨⟨(fS, (nI (p0 + sLen i)), 1), rfl, ⟨p0 + sLen i, rfl, by omega, by omega, PF.rf, Or.inl ⟨rfl, pm_2 hm_6 hN⟩⟩, by rw [htQ]; exact hP9, va_K.moved hWQ.alike hK9, hD9⟩, hS.F htQ⟩) hS.2.2 dX12_much_27
    · skip
      have hN := hN_18
      refine lv_istore_n (lv' := [(3, .int (nI v_11)), (0, .ref m0), (1, .int (nI 0 - nI KK)), (2, .ref (sK i))]) hx hb dX12_much_9 rfl hl (by decide) rfl (fun ls hl => ?_)
      refine lv_aload_n hx hb dX12_much_10 rfl (lv_at hl 1 rfl) ?_
      refine lv_bipush (v := 32) hx hb dX12_much_11 (by decide) ?_
      have hPc := hP.sub (ws' := [(zo14irriiiiiirriirrrrlriiii m0 th aS aI im (nI a) (nI p_12) (nI E) 0 0 aB aT se dn aG aO aN aD bv aY rn kd nu tv), (zaI aS cS 901 fS)]) [0, 1] rfl
      have hDc := hD.sub (ws' := [(zo14irriiiiiirriirrrrlriiii m0 th aS aI im (nI a) (nI p_12) (nI E) 0 0 aB aT se dn aG aO aN aD bv aY rn kd nu tv), (zaI aS cS 901 fS)]) [0, 1] (by decide) rfl
      have hKc := hK.sub (tys' := [(cS, .int)]) [0] rfl
      have hFc := va_free (wc := [(zo14irriiiiiirriirrrrlriiii m0 th aS aI im (nI a) (nI p_12) (nI E) 0 0 aB aT se dn aG aO aN aD bv aY rn kd nu tv), (zaI aS cS 901 fS)]) hD hS hA [0, 1] rfl
      refine va_callv (va_runV (As := [.int 32]) (rest := []) ⟨hx, hb, hml, hown, hts⟩ (c_must l dC dI m0 aS aI aB aT aG aO aN aD aY th im (nI a) (nI p_12) (nI E) 0 0 se dn rn kd nu tv bv cS fS a p_12 E 32 H.size (by omega) (by omega) (by omega) (Or.inl rfl) (by decide)) (cwV 1 hts gX12_much_X12_must rfl rfl rfl hd_yX12_must ⟨Nat.le_of_ble_eq_true rfl, Nat.le_of_ble_eq_true rfl⟩) ⟨fun a U g mk q => by obtain ⟨q0, q1, qP, qK, qD⟩ := q; exact ⟨q0, q1, qP, va_K.moved (u := U) (U := U.calling g mk a) (Vm.Alike.refl U.vm) qK, qD⟩, va_recv hK hP (ci := 14) (q := (RX12, TX12, 23)) (q0 := 0) rfl rfl, fun U hU hW => ⟨rfl, by rw [hU], by rw [hU]; exact hPc, va_K.moved hW.alike hKc, hDc.weaken (fun _ _ _ _ => trivial)⟩⟩ rfl rfl hl.1 rfl (lv_room (Nat.le_of_ble_eq_true rfl)) dX12_much_13 ⟨Nat.le_of_ble_eq_true rfl, Nat.le_of_ble_eq_true rfl⟩) hS (fun q _ h => hFc q h) hFc (fun u tC H1 locs htC hvm hw_28 hB hz1 hk1 hS => ?_)
      obtain ⟨sp9_29, wg9_30⟩ := u
      try dsimp only at hw_28 hB
      obtain ⟨hP1, hK1, hD1⟩ := hB
      rw [htC] at hP1
      have hK1 := va_K.moved hvm.symm hK1
      obtain ⟨hP, hD⟩ := va_join (wr := []) (w1 := [(zo14irriiiiiirriirrrrlriiii m0 th aS aI im (nI a) sp9_29 (nI E) wg9_30 0 aB aT se dn aG aO aN aD bv aY rn kd nu tv), (zaI aS cS 901 fS)]) hP hD [0, 1] [] rfl rfl (by decide) (by decide) hk1 hFc hP1 hD1
      have hK := (hK.sub (tys' := []) [] rfl).app hK1
      generalize H1 = H at hP hS ⊢
      have hP : va_P (dC, dI) vwCl [(zo14irriiiiiirriirrrrlriiii m0 th aS aI im (nI a) sp9_29 (nI E) wg9_30 0 aB aT se dn aG aO aN aD bv aY rn kd nu tv), (zaI aS cS 901 fS)] H := hP
      have hD : va_D A [(zo14irriiiiiirriirrrrlriiii m0 th aS aI im (nI a) sp9_29 (nI E) wg9_30 0 aB aT se dn aG aO aN aD bv aY rn kd nu tv), (zaI aS cS 901 fS)] := hD
      have hK : va_K (dC, dI) vwCl [(cS, .int)] s := hK
      rcases hw_28 with ⟨rfl, rfl, h_31⟩ | ⟨rfl, _, h_31, h_32, rfl⟩
      · skip
        have hn32 : ¬ ss (p_12) = 32 := fun z => h_31 rfl (((gT).eq (c := 32) (by omega) (by omega)).mpr z)
        refine lv_aload_n hx hb dX12_much_16 rfl (lv_at hl 1 rfl) ?_
        have hPc := hP.sub (ws' := [(zo14irriiiiiirriirrrrlriiii m0 th aS aI im (nI a) (nI p_12) (nI E) 1 0 aB aT se dn aG aO aN aD bv aY rn kd nu tv)]) [0] rfl
        have hKc := hK.sub (tys' := []) [] rfl
        refine va_csv (va_runV (As := []) (rest := []) ⟨hx, hb, hml, hown, hts⟩ (c_someW l dC dI m0 aS aI aB aT aG aO aN aD aY th im (nI a) (nI p_12) (nI E) 1 0 se dn rn kd nu tv bv) (cwV 0 hts gX12_much_X12_some rfl rfl rfl hd_yX12_some ⟨Nat.le_of_ble_eq_true rfl, Nat.le_of_ble_eq_true rfl⟩) ⟨fun a U g mk q => by obtain ⟨q0, qP, qK⟩ := q; exact ⟨q0, qP, va_K.moved (u := U) (U := U.calling g mk a) (Vm.Alike.refl U.vm) qK⟩, va_recv hK hP (ci := 14) (q := (RX12, TX12, 23)) (q0 := 0) rfl rfl, fun U hU hW => ⟨rfl, by rw [hU]; exact hPc, va_K.moved hW.alike hKc⟩⟩ rfl rfl hl.1 rfl (lv_room (Nat.le_of_ble_eq_true rfl)) dX12_much_17 ⟨Nat.le_of_ble_eq_true rfl, Nat.le_of_ble_eq_true rfl⟩).run (fun hw_34 => ?_)
        refine lv_aload_n hx hb dX12_much_20 rfl (lv_at hl 1 rfl) ?_
        refine lv_iload_n hx hb dX12_much_21 rfl (lv_at hl 2 rfl) ?_
        refine lv_iload_n hx hb dX12_much_22 rfl (lv_at hl 0 rfl) ?_
        refine lv_isub hx hb dX12_much_23 ?_
        have hPc := hP.sub (ws' := [(zo14irriiiiiirriirrrrlriiii m0 th aS aI im (nI a) (nI p_12) (nI E) 1 0 aB aT se dn aG aO aN aD bv aY rn kd nu tv)]) [0] rfl
        have hKc := hK.sub (tys' := []) [] rfl
        refine va_csv (va_runV (As := [.int ((nI 0 - nI KK) - (nI v_11))]) (rest := []) ⟨hx, hb, hml, hown, hts⟩ (c_emitsW l dC dI m0 aS aI aB aT aG aO aN aD aY th im (nI a) (nI p_12) (nI E) 1 0 se dn rn kd nu tv bv ((nI 0 - nI KK) - (nI v_11))) (cwV 1 hts gX12_much_X12_emits rfl rfl rfl hd_yX12_emits ⟨Nat.le_of_ble_eq_true rfl, Nat.le_of_ble_eq_true rfl⟩) ⟨fun a U g mk q => by obtain ⟨q0, qP, qK⟩ := q; exact ⟨q0, qP, va_K.moved (u := U) (U := U.calling g mk a) (Vm.Alike.refl U.vm) qK⟩, va_recv hK hP (ci := 14) (q := (RX12, TX12, 23)) (q0 := 0) rfl rfl, fun U hU hW => ⟨rfl, by rw [hU]; exact hPc, va_K.moved hW.alike hKc⟩⟩ rfl rfl hl.1 rfl (lv_room (Nat.le_of_ble_eq_true rfl)) dX12_much_24 ⟨Nat.le_of_ble_eq_true rfl, Nat.le_of_ble_eq_true rfl⟩).run (fun hw_36 => ?_)
        rw [hQ]
        have hP9 := hP.sub (ws' := [(zo14irriiiiiirriirrrrlriiii m0 th aS aI im (nI a) (nI p_12) (nI E) 1 0 aB aT se dn aG aO aN aD bv aY rn kd nu tv), (zaI aS cS 901 fS)]) [0, 1] rfl
        have hD9 := hD.sub (ws' := [(zo14irriiiiiirriirrrrlriiii m0 th aS aI im (nI a) (nI p_12) (nI E) 1 0 aB aT se dn aG aO aN aD bv aY rn kd nu tv), (zaI aS cS 901 fS)]) [0, 1] (by decide) rfl
        have hK9 := hK.sub (tys' := [(cS, .int)]) [0] rfl
        exact W.vret hx hb hr (fun tQ htQ hWQ => ⟨⟨(fS, (nI p_12), 1), rfl, ⟨p_12, rfl, by omega, by omega, PF.rf, Or.inl ⟨rfl, pm_3 hm_6 hN hn32⟩⟩, by rw [htQ]; exact hP9, va_K.moved hWQ.alike hK9, hD9⟩, hS.F htQ⟩) hS.2.2 dX12_much_27
      · skip
        have hs32 : ss (p_12) = 32 := ((gT).eq (c := 32) (by omega) (by omega)).mp h_31
        refine lv_aload_n hx hb dX12_much_16 rfl (lv_at hl 1 rfl) ?_
        have hPc := hP.sub (ws' := [(zo14irriiiiiirriirrrrlriiii m0 th aS aI im (nI a) (nI (p_12 + 1)) (nI E) 0 0 aB aT se dn aG aO aN aD bv aY rn kd nu tv), (zaI aS cS 901 fS)]) [0, 1] rfl
        have hDc := hD.sub (ws' := [(zo14irriiiiiirriirrrrlriiii m0 th aS aI im (nI a) (nI (p_12 + 1)) (nI E) 0 0 aB aT se dn aG aO aN aD bv aY rn kd nu tv), (zaI aS cS 901 fS)]) [0, 1] (by decide) rfl
        have hKc := hK.sub (tys' := [(cS, .int)]) [0] rfl
        have hFc := va_free (wc := [(zo14irriiiiiirriirrrrlriiii m0 th aS aI im (nI a) (nI (p_12 + 1)) (nI E) 0 0 aB aT se dn aG aO aN aD bv aY rn kd nu tv), (zaI aS cS 901 fS)]) hD hS hA [0, 1] rfl
        refine va_callv (va_runV (As := []) (rest := []) ⟨hx, hb, hml, hown, hts⟩ (c_some0 l dC dI sK sV m0 aS aI aB aT aG aO aN aD aY th im (nI a) (nI (p_12 + 1)) (nI E) 0 0 se dn rn kd nu tv bv cS fS a (p_12 + 1) E K 0 ss H.size ((gI).mono (by omega) (by omega)) (gT)) (cwV 0 hts gX12_much_X12_some rfl rfl rfl hd_yX12_some ⟨Nat.le_of_ble_eq_true rfl, Nat.le_of_ble_eq_true rfl⟩) ⟨fun a U g mk q => by obtain ⟨q0, q1, qP, qK, qD, qhE⟩ := q; exact ⟨q0, q1, qP, va_K.moved (u := U) (U := U.calling g mk a) (Vm.Alike.refl U.vm) qK, qD, qhE.same rfl rfl⟩, va_recv hK hP (ci := 14) (q := (RX12, TX12, 23)) (q0 := 0) rfl rfl, fun U hU hW => ⟨rfl, by rw [hU], by rw [hU]; exact hPc, va_K.moved hW.alike hKc, hDc.weaken (fun _ _ _ _ => trivial), hE.call hS hU hW (fun q h => hFc q h)⟩⟩ rfl rfl hl.1 rfl (lv_room (Nat.le_of_ble_eq_true rfl)) dX12_much_17 ⟨Nat.le_of_ble_eq_true rfl, Nat.le_of_ble_eq_true rfl⟩) hS (fun q _ h => hFc q h) hFc (fun u tC H1 locs htC hvm hw_38 hB hz1 hk1 hS => ?_)
        obtain ⟨fS9_39, sp9_40, wg9_41⟩ := u
        try dsimp only at hw_38 hB
        obtain ⟨hP1, hK1, hD1⟩ := hB
        rw [htC] at hP1
        have hK1 := va_K.moved hvm.symm hK1
        obtain ⟨hP, hD⟩ := va_join (wr := []) (w1 := [(zo14irriiiiiirriirrrrlriiii m0 th aS aI im (nI a) sp9_40 (nI E) wg9_41 0 aB aT se dn aG aO aN aD bv aY rn kd nu tv), (zaI aS cS 901 fS9_39)]) hP hD [0, 1] [] rfl rfl (by decide) (by decide) hk1 hFc hP1 hD1
        have hK := (hK.sub (tys' := []) [] rfl).app hK1
        generalize H1 = H at hP hS ⊢
        have hP : va_P (dC, dI) vwCl [(zo14irriiiiiirriirrrrlriiii m0 th aS aI im (nI a) sp9_40 (nI E) wg9_41 0 aB aT se dn aG aO aN aD bv aY rn kd nu tv), (zaI aS cS 901 fS9_39)] H := hP
        have hD : va_D A [(zo14irriiiiiirriirrrrlriiii m0 th aS aI im (nI a) sp9_40 (nI E) wg9_41 0 aB aT se dn aG aO aN aD bv aY rn kd nu tv), (zaI aS cS 901 fS9_39)] := hD
        have hK : va_K (dC, dI) vwCl [(cS, .int)] s := hK
        obtain ⟨p_42, rfl, h_45, h_46, hF_47, q9⟩ := hw_38
        rcases q9 with ⟨rfl, eP_44⟩ | ⟨rfl, L_43, eP_44, h_48, hI_49, h_50⟩
        · skip
          refine lv_aload_n hx hb dX12_much_20 rfl (lv_at hl 1 rfl) ?_
          refine lv_iload_n hx hb dX12_much_21 rfl (lv_at hl 2 rfl) ?_
          refine lv_iload_n hx hb dX12_much_22 rfl (lv_at hl 0 rfl) ?_
          refine lv_isub hx hb dX12_much_23 ?_
          have hPc := hP.sub (ws' := [(zo14irriiiiiirriirrrrlriiii m0 th aS aI im (nI a) (nI p_42) (nI E) 1 0 aB aT se dn aG aO aN aD bv aY rn kd nu tv)]) [0] rfl
          have hKc := hK.sub (tys' := []) [] rfl
          refine va_csv (va_runV (As := [.int ((nI 0 - nI KK) - (nI v_11))]) (rest := []) ⟨hx, hb, hml, hown, hts⟩ (c_emitsW l dC dI m0 aS aI aB aT aG aO aN aD aY th im (nI a) (nI p_42) (nI E) 1 0 se dn rn kd nu tv bv ((nI 0 - nI KK) - (nI v_11))) (cwV 1 hts gX12_much_X12_emits rfl rfl rfl hd_yX12_emits ⟨Nat.le_of_ble_eq_true rfl, Nat.le_of_ble_eq_true rfl⟩) ⟨fun a U g mk q => by obtain ⟨q0, qP, qK⟩ := q; exact ⟨q0, qP, va_K.moved (u := U) (U := U.calling g mk a) (Vm.Alike.refl U.vm) qK⟩, va_recv hK hP (ci := 14) (q := (RX12, TX12, 23)) (q0 := 0) rfl rfl, fun U hU hW => ⟨rfl, by rw [hU]; exact hPc, va_K.moved hW.alike hKc⟩⟩ rfl rfl hl.1 rfl (lv_room (Nat.le_of_ble_eq_true rfl)) dX12_much_24 ⟨Nat.le_of_ble_eq_true rfl, Nat.le_of_ble_eq_true rfl⟩).run (fun hw_52 => ?_)
          rw [hQ]
          have hP9 := hP.sub (ws' := [(zo14irriiiiiirriirrrrlriiii m0 th aS aI im (nI a) (nI p_42) (nI E) 1 0 aB aT se dn aG aO aN aD bv aY rn kd nu tv), (zaI aS cS 901 fS9_39)]) [0, 1] rfl
          have hD9 := hD.sub (ws' := [(zo14irriiiiiirriirrrrlriiii m0 th aS aI im (nI a) (nI p_42) (nI E) 1 0 aB aT se dn aG aO aN aD bv aY rn kd nu tv), (zaI aS cS 901 fS9_39)]) [0, 1] (by decide) rfl
          have hK9 := hK.sub (tys' := [(cS, .int)]) [0] rfl
          exact W.vret hx hb hr (fun tQ htQ hWQ => ⟨⟨(fS9_39, (nI p_42), 1), rfl, ⟨p_42, rfl, by omega, by omega, (PF.rf).tr hF_47, Or.inl ⟨rfl, pm_4 hm_6 hN hs32 eP_44⟩⟩, by rw [htQ]; exact hP9, va_K.moved hWQ.alike hK9, hD9⟩, hS.F htQ⟩) hS.2.2 dX12_much_27
        · skip
          have k5 := hI_49.2.2.2.2.1
          have hqL_43 : (K ++ L_43).length = K.length + L_43.length := List.length_append
          refine lv_aload_n hx hb dX12_much_20 rfl (lv_at hl 1 rfl) ?_
          refine lv_iload_n hx hb dX12_much_21 rfl (lv_at hl 2 rfl) ?_
          refine lv_iload_n hx hb dX12_much_22 rfl (lv_at hl 0 rfl) ?_
          refine lv_isub hx hb dX12_much_23 ?_
          have hPc := hP.sub (ws' := [(zo14irriiiiiirriirrrrlriiii m0 th aS aI im (nI a) (nI p_42) (nI E) 0 0 aB aT se dn aG aO aN aD bv aY rn kd nu tv), (zaI aS cS 901 fS9_39)]) [0, 1] rfl
          have hDc := hD.sub (ws' := [(zo14irriiiiiirriirrrrlriiii m0 th aS aI im (nI a) (nI p_42) (nI E) 0 0 aB aT se dn aG aO aN aD bv aY rn kd nu tv), (zaI aS cS 901 fS9_39)]) [0, 1] (by decide) rfl
          have hKc := hK.sub (tys' := [(cS, .int)]) [0] rfl
          have hFc := va_free (wc := [(zo14irriiiiiirriirrrrlriiii m0 th aS aI im (nI a) (nI p_42) (nI E) 0 0 aB aT se dn aG aO aN aD bv aY rn kd nu tv), (zaI aS cS 901 fS9_39)]) hD hS hA [0, 1] rfl
          refine va_callv (va_runV (As := [.int ((nI 0 - nI KK) - (nI v_11))]) (rest := []) ⟨hx, hb, hml, hown, hts⟩ (c_emits l dC dI m0 aS aI aB aT aG aO aN aD aY th im (nI a) (nI p_42) (nI E) 0 0 se dn rn kd nu tv bv cS fS9_39 a (K ++ L_43).length ((nI 0 - nI KK) - (nI v_11)) H.size (ga) ((hI_49).2.2.2.1) (by have := (hI_49).2.2.2.2.1; omega)) (cwV 1 hts gX12_much_X12_emits rfl rfl rfl hd_yX12_emits ⟨Nat.le_of_ble_eq_true rfl, Nat.le_of_ble_eq_true rfl⟩) ⟨fun a U g mk q => by obtain ⟨q0, q1, qP, qK, qD⟩ := q; exact ⟨q0, q1, qP, va_K.moved (u := U) (U := U.calling g mk a) (Vm.Alike.refl U.vm) qK, qD⟩, va_recv hK hP (ci := 14) (q := (RX12, TX12, 23)) (q0 := 0) rfl rfl, fun U hU hW => ⟨rfl, by rw [hU], by rw [hU]; exact hPc, va_K.moved hW.alike hKc, hDc.weaken (fun _ _ _ _ => trivial)⟩⟩ rfl rfl hl.1 rfl (lv_room (Nat.le_of_ble_eq_true rfl)) dX12_much_24 ⟨Nat.le_of_ble_eq_true rfl, Nat.le_of_ble_eq_true rfl⟩) hS (fun q _ h => hFc q h) hFc (fun u tC H1 locs htC hvm hw_54 hB hz1 hk1 hS => ?_)
          obtain ⟨fS9_55, rfl⟩ : ∃ z, z = u := ⟨_, rfl⟩
          try dsimp only at hw_54 hB
          obtain ⟨hP1, hK1, hD1⟩ := hB
          rw [htC] at hP1
          have hK1 := va_K.moved hvm.symm hK1
          obtain ⟨hP, hD⟩ := va_join (wr := []) (w1 := [(zo14irriiiiiirriirrrrlriiii m0 th aS aI im (nI a) (nI p_42) (nI E) 0 0 aB aT se dn aG aO aN aD bv aY rn kd nu tv), (zaI aS cS 901 fS9_55)]) hP hD [0, 1] [] rfl rfl (by decide) (by decide) hk1 hFc hP1 hD1
          have hK := (hK.sub (tys' := []) [] rfl).app hK1
          generalize H1 = H at hP hS ⊢
          have hP : va_P (dC, dI) vwCl [(zo14irriiiiiirriirrrrlriiii m0 th aS aI im (nI a) (nI p_42) (nI E) 0 0 aB aT se dn aG aO aN aD bv aY rn kd nu tv), (zaI aS cS 901 fS9_55)] H := hP
          have hD : va_D A [(zo14irriiiiiirriirrrrlriiii m0 th aS aI im (nI a) (nI p_42) (nI E) 0 0 aB aT se dn aG aO aN aD bv aY rn kd nu tv), (zaI aS cS 901 fS9_55)] := hD
          have hK : va_K (dC, dI) vwCl [(cS, .int)] s := hK
          obtain rfl : fS9_55 = emt fS9_39 a (K ++ L_43).length ((nI 0 - nI KK) - (nI v_11)) := by rcases hw_54 with ⟨q, _⟩ | ⟨_, q⟩; exact absurd rfl q; exact q
          have hI_56 : PI (emt fS9_39 a (K ++ L_43).length ((nI 0 - nI KK) - (nI v_11))) a ((K ++ L_43) ++ [2000 + 100 * wd + v_11]) 0 p_42 E := PI.em (t := 2000 + 100 * wd + v_11) ((hI_49).mono (by omega) (by omega)) (by omega) (by omega) (clause_sd (by omega) (by omega)) (rcd_c hKK (by omega))
          have hF_57 : PF a fS (emt fS9_39 a (K ++ L_43).length ((nI 0 - nI KK) - (nI v_11))) := ((PF.rf).tr hF_47).tr (PF_emt (k := (K ++ L_43).length) (x := (nI 0 - nI KK) - (nI v_11)) ga (by have := (hI_49).2.2.2.2.1; omega))
          have hKhI_56 : ((K ++ L_43) ++ [2000 + 100 * wd + v_11]).length = (K ++ L_43).length + 1 := by rw [List.length_append]; rfl
          rw [hQ]
          have hP9 := hP.sub (ws' := [(zo14irriiiiiirriirrrrlriiii m0 th aS aI im (nI a) (nI p_42) (nI E) 0 0 aB aT se dn aG aO aN aD bv aY rn kd nu tv), (zaI aS cS 901 (emt fS9_39 a (K ++ L_43).length ((nI 0 - nI KK) - (nI v_11))))]) [0, 1] rfl
          have hD9 := hD.sub (ws' := [(zo14irriiiiiirriirrrrlriiii m0 th aS aI im (nI a) (nI p_42) (nI E) 0 0 aB aT se dn aG aO aN aD bv aY rn kd nu tv), (zaI aS cS 901 (emt fS9_39 a (K ++ L_43).length ((nI 0 - nI KK) - (nI v_11))))]) [0, 1] (by decide) rfl
          have hK9 := hK.sub (tys' := [(cS, .int)]) [0] rfl
          exact W.vret hx hb hr (fun tQ htQ hWQ => ⟨⟨((emt fS9_39 a (K ++ L_43).length ((nI 0 - nI KK) - (nI v_11))), (nI p_42), 0), rfl, ⟨p_42, rfl, by omega, by omega, hF_57, Or.inr ⟨rfl, v_11, L_43, pm_5 hm_6 hN hs32 eP_44, PI.as hI_56⟩⟩, by rw [htQ]; exact hP9, va_K.moved hWQ.alike hK9, hD9⟩, hS.F htQ⟩) hS.2.2 dX12_much_27
  · skip
    refine lv_aload_n hx hb dX12_much_5 rfl (lv_at hl 0 rfl) ?_
    have hPc := hP.sub (ws' := [(zo14irriiiiiirriirrrrlriiii m0 th aS aI im (nI a) (nI (p0 + mlen ss (p0) (sTx i))) (nI E) 1 0 aB aT se dn aG aO aN aD bv aY rn kd nu tv), (zaI aS cS 901 fS)]) [0, 1] rfl
    have hDc := hD.sub (ws' := [(zo14irriiiiiirriirrrrlriiii m0 th aS aI im (nI a) (nI (p0 + mlen ss (p0) (sTx i))) (nI E) 1 0 aB aT se dn aG aO aN aD bv aY rn kd nu tv), (zaI aS cS 901 fS)]) [0, 1] (by decide) rfl
    have hKc := hK.sub (tys' := [(cS, .int)]) [0] rfl
    have hFc := va_free (wc := [(zo14irriiiiiirriirrrrlriiii m0 th aS aI im (nI a) (nI (p0 + mlen ss (p0) (sTx i))) (nI E) 1 0 aB aT se dn aG aO aN aD bv aY rn kd nu tv), (zaI aS cS 901 fS)]) hD hS hA [0, 1] rfl
    refine va_calli (va_runV (As := []) (rest := []) ⟨hx, hb, hml, hown, hts⟩ (c_figures l dC dI m0 aS aI aB aT aG aO aN aD aY th im (nI a) (nI (p0 + mlen ss (p0) (sTx i))) (nI E) 1 0 se dn rn kd nu tv bv cS fS a (p0 + mlen ss (p0) (sTx i)) E ss H.size (by omega) (by omega) (by omega) (Or.inr rfl) (gT)) (cwV 0 hts gX12_much_X12_figures rfl rfl rfl hd_yX12_figures ⟨Nat.le_of_ble_eq_true rfl, Nat.le_of_ble_eq_true rfl⟩) ⟨fun a U g mk q => by obtain ⟨q0, q1, qP, qK, qD⟩ := q; exact ⟨q0, q1, qP, va_K.moved (u := U) (U := U.calling g mk a) (Vm.Alike.refl U.vm) qK, qD⟩, va_recv hK hP (ci := 14) (q := (RX12, TX12, 23)) (q0 := 0) rfl rfl, fun U hU hW => ⟨rfl, by rw [hU], by rw [hU]; exact hPc, va_K.moved hW.alike hKc, hDc.weaken (fun _ _ _ _ => trivial)⟩⟩ rfl rfl hl.1 rfl (lv_room (Nat.le_of_ble_eq_true rfl)) dX12_much_6 ⟨Nat.le_of_ble_eq_true rfl, Nat.le_of_ble_eq_true rfl⟩) hS (fun q _ h => hFc q h) hFc (fun r_58 u tC H1 locs htC hvm hw_59 hB hz1 hk1 hS => ?_)
    obtain ⟨sp9_60, wg9_61⟩ := u
    try dsimp only at hw_59 hB
    obtain ⟨hP1, hK1, hD1⟩ := hB
    rw [htC] at hP1
    have hK1 := va_K.moved hvm.symm hK1
    obtain ⟨hP, hD⟩ := va_join (wr := []) (w1 := [(zo14irriiiiiirriirrrrlriiii m0 th aS aI im (nI a) sp9_60 (nI E) wg9_61 0 aB aT se dn aG aO aN aD bv aY rn kd nu tv), (zaI aS cS 901 fS)]) hP hD [0, 1] [] rfl rfl (by decide) (by decide) hk1 hFc hP1 hD1
    have hK := (hK.sub (tys' := []) [] rfl).app hK1
    generalize H1 = H at hP hS ⊢
    have hP : va_P (dC, dI) vwCl [(zo14irriiiiiirriirrrrlriiii m0 th aS aI im (nI a) sp9_60 (nI E) wg9_61 0 aB aT se dn aG aO aN aD bv aY rn kd nu tv), (zaI aS cS 901 fS)] H := hP
    have hD : va_D A [(zo14irriiiiiirriirrrrlriiii m0 th aS aI im (nI a) sp9_60 (nI E) wg9_61 0 aB aT se dn aG aO aN aD bv aY rn kd nu tv), (zaI aS cS 901 fS)] := hD
    have hK : va_K (dC, dI) vwCl [(cS, .int)] s := hK
    rcases hw_59 with ⟨rfl, rfl, hN_69, v_62, h_64, rfl⟩ | ⟨rfl, h_68, v_62, p_63, h_64, h_65, h_66, rfl, rfl, hN_69⟩
    · skip
      refine lv_istore_n (lv' := [(3, .int (nI v_62)), (0, .ref m0), (1, .int (nI 0 - nI KK)), (2, .ref (sK i))]) hx hb dX12_much_9 rfl hl (by decide) rfl (fun ls hl => ?_)
      refine lv_aload_n hx hb dX12_much_10 rfl (lv_at hl 1 rfl) ?_
      refine lv_bipush (v := 32) hx hb dX12_much_11 (by decide) ?_
      have hPc := hP.sub (ws' := [(zo14irriiiiiirriirrrrlriiii m0 th aS aI im (nI a) (nI (p0 + mlen ss (p0) (sTx i))) (nI E) 1 0 aB aT se dn aG aO aN aD bv aY rn kd nu tv), (zaI aS cS 901 fS)]) [0, 1] rfl
      have hDc := hD.sub (ws' := [(zo14irriiiiiirriirrrrlriiii m0 th aS aI im (nI a) (nI (p0 + mlen ss (p0) (sTx i))) (nI E) 1 0 aB aT se dn aG aO aN aD bv aY rn kd nu tv), (zaI aS cS 901 fS)]) [0, 1] (by decide) rfl
      have hKc := hK.sub (tys' := [(cS, .int)]) [0] rfl
      have hFc := va_free (wc := [(zo14irriiiiiirriirrrrlriiii m0 th aS aI im (nI a) (nI (p0 + mlen ss (p0) (sTx i))) (nI E) 1 0 aB aT se dn aG aO aN aD bv aY rn kd nu tv), (zaI aS cS 901 fS)]) hD hS hA [0, 1] rfl
      refine va_callv (va_runV (As := [.int 32]) (rest := []) ⟨hx, hb, hml, hown, hts⟩ (c_must l dC dI m0 aS aI aB aT aG aO aN aD aY th im (nI a) (nI (p0 + mlen ss (p0) (sTx i))) (nI E) 1 0 se dn rn kd nu tv bv cS fS a (p0 + mlen ss (p0) (sTx i)) E 32 H.size (by omega) (by omega) (by omega) (Or.inr rfl) (by decide)) (cwV 1 hts gX12_much_X12_must rfl rfl rfl hd_yX12_must ⟨Nat.le_of_ble_eq_true rfl, Nat.le_of_ble_eq_true rfl⟩) ⟨fun a U g mk q => by obtain ⟨q0, q1, qP, qK, qD⟩ := q; exact ⟨q0, q1, qP, va_K.moved (u := U) (U := U.calling g mk a) (Vm.Alike.refl U.vm) qK, qD⟩, va_recv hK hP (ci := 14) (q := (RX12, TX12, 23)) (q0 := 0) rfl rfl, fun U hU hW => ⟨rfl, by rw [hU], by rw [hU]; exact hPc, va_K.moved hW.alike hKc, hDc.weaken (fun _ _ _ _ => trivial)⟩⟩ rfl rfl hl.1 rfl (lv_room (Nat.le_of_ble_eq_true rfl)) dX12_much_13 ⟨Nat.le_of_ble_eq_true rfl, Nat.le_of_ble_eq_true rfl⟩) hS (fun q _ h => hFc q h) hFc (fun u tC H1 locs htC hvm hw_71 hB hz1 hk1 hS => ?_)
      obtain ⟨sp9_72, wg9_73⟩ := u
      try dsimp only at hw_71 hB
      obtain ⟨hP1, hK1, hD1⟩ := hB
      rw [htC] at hP1
      have hK1 := va_K.moved hvm.symm hK1
      obtain ⟨hP, hD⟩ := va_join (wr := []) (w1 := [(zo14irriiiiiirriirrrrlriiii m0 th aS aI im (nI a) sp9_72 (nI E) wg9_73 0 aB aT se dn aG aO aN aD bv aY rn kd nu tv), (zaI aS cS 901 fS)]) hP hD [0, 1] [] rfl rfl (by decide) (by decide) hk1 hFc hP1 hD1
      have hK := (hK.sub (tys' := []) [] rfl).app hK1
      generalize H1 = H at hP hS ⊢
      have hP : va_P (dC, dI) vwCl [(zo14irriiiiiirriirrrrlriiii m0 th aS aI im (nI a) sp9_72 (nI E) wg9_73 0 aB aT se dn aG aO aN aD bv aY rn kd nu tv), (zaI aS cS 901 fS)] H := hP
      have hD : va_D A [(zo14irriiiiiirriirrrrlriiii m0 th aS aI im (nI a) sp9_72 (nI E) wg9_73 0 aB aT se dn aG aO aN aD bv aY rn kd nu tv), (zaI aS cS 901 fS)] := hD
      have hK : va_K (dC, dI) vwCl [(cS, .int)] s := hK
      obtain ⟨rfl, rfl⟩ : _ ∧ _ := by rcases hw_71 with ⟨q, q2, _⟩ | ⟨_, q, _⟩; exact ⟨q, q2⟩; exact absurd q (by decide)
      refine lv_aload_n hx hb dX12_much_16 rfl (lv_at hl 1 rfl) ?_
      have hPc := hP.sub (ws' := [(zo14irriiiiiirriirrrrlriiii m0 th aS aI im (nI a) (nI (p0 + mlen ss (p0) (sTx i))) (nI E) 1 0 aB aT se dn aG aO aN aD bv aY rn kd nu tv)]) [0] rfl
      have hKc := hK.sub (tys' := []) [] rfl
      refine va_csv (va_runV (As := []) (rest := []) ⟨hx, hb, hml, hown, hts⟩ (c_someW l dC dI m0 aS aI aB aT aG aO aN aD aY th im (nI a) (nI (p0 + mlen ss (p0) (sTx i))) (nI E) 1 0 se dn rn kd nu tv bv) (cwV 0 hts gX12_much_X12_some rfl rfl rfl hd_yX12_some ⟨Nat.le_of_ble_eq_true rfl, Nat.le_of_ble_eq_true rfl⟩) ⟨fun a U g mk q => by obtain ⟨q0, qP, qK⟩ := q; exact ⟨q0, qP, va_K.moved (u := U) (U := U.calling g mk a) (Vm.Alike.refl U.vm) qK⟩, va_recv hK hP (ci := 14) (q := (RX12, TX12, 23)) (q0 := 0) rfl rfl, fun U hU hW => ⟨rfl, by rw [hU]; exact hPc, va_K.moved hW.alike hKc⟩⟩ rfl rfl hl.1 rfl (lv_room (Nat.le_of_ble_eq_true rfl)) dX12_much_17 ⟨Nat.le_of_ble_eq_true rfl, Nat.le_of_ble_eq_true rfl⟩).run (fun hw_75 => ?_)
      refine lv_aload_n hx hb dX12_much_20 rfl (lv_at hl 1 rfl) ?_
      refine lv_iload_n hx hb dX12_much_21 rfl (lv_at hl 2 rfl) ?_
      refine lv_iload_n hx hb dX12_much_22 rfl (lv_at hl 0 rfl) ?_
      refine lv_isub hx hb dX12_much_23 ?_
      have hPc := hP.sub (ws' := [(zo14irriiiiiirriirrrrlriiii m0 th aS aI im (nI a) (nI (p0 + mlen ss (p0) (sTx i))) (nI E) 1 0 aB aT se dn aG aO aN aD bv aY rn kd nu tv)]) [0] rfl
      have hKc := hK.sub (tys' := []) [] rfl
      refine va_csv (va_runV (As := [.int ((nI 0 - nI KK) - (nI v_62))]) (rest := []) ⟨hx, hb, hml, hown, hts⟩ (c_emitsW l dC dI m0 aS aI aB aT aG aO aN aD aY th im (nI a) (nI (p0 + mlen ss (p0) (sTx i))) (nI E) 1 0 se dn rn kd nu tv bv ((nI 0 - nI KK) - (nI v_62))) (cwV 1 hts gX12_much_X12_emits rfl rfl rfl hd_yX12_emits ⟨Nat.le_of_ble_eq_true rfl, Nat.le_of_ble_eq_true rfl⟩) ⟨fun a U g mk q => by obtain ⟨q0, qP, qK⟩ := q; exact ⟨q0, qP, va_K.moved (u := U) (U := U.calling g mk a) (Vm.Alike.refl U.vm) qK⟩, va_recv hK hP (ci := 14) (q := (RX12, TX12, 23)) (q0 := 0) rfl rfl, fun U hU hW => ⟨rfl, by rw [hU]; exact hPc, va_K.moved hW.alike hKc⟩⟩ rfl rfl hl.1 rfl (lv_room (Nat.le_of_ble_eq_true rfl)) dX12_much_24 ⟨Nat.le_of_ble_eq_true rfl, Nat.le_of_ble_eq_true rfl⟩).run (fun hw_77 => ?_)
      rw [hQ]
      have hP9 := hP.sub (ws' := [(zo14irriiiiiirriirrrrlriiii m0 th aS aI im (nI a) (nI (p0 + mlen ss (p0) (sTx i))) (nI E) 1 0 aB aT se dn aG aO aN aD bv aY rn kd nu tv), (zaI aS cS 901 fS)]) [0, 1] rfl
      have hD9 := hD.sub (ws' := [(zo14irriiiiiirriirrrrlriiii m0 th aS aI im (nI a) (nI (p0 + mlen ss (p0) (sTx i))) (nI E) 1 0 aB aT se dn aG aO aN aD bv aY rn kd nu tv), (zaI aS cS 901 fS)]) [0, 1] (by decide) rfl
      have hK9 := hK.sub (tys' := [(cS, .int)]) [0] rfl
      exact W.vret hx hb hr (fun tQ htQ hWQ => ⟨⟨(fS, (nI (p0 + mlen ss (p0) (sTx i))), 1), rfl, ⟨p0 + mlen ss (p0) (sTx i), rfl, by omega, by omega, PF.rf, Or.inl ⟨rfl, pm_1 (fun z => by omega)⟩⟩, by rw [htQ]; exact hP9, va_K.moved hWQ.alike hK9, hD9⟩, hS.F htQ⟩) hS.2.2 dX12_much_27
    · skip
      exact absurd h_68 (by decide)
