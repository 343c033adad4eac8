section mg13a
theorem ggX12_much_X12_spells : GoodIn wsX12_much wsX12_spells := gga_of 1246 rfl rfl rfl
theorem gX12_much_X12_spells : GoodIn wsX12_much (wsV RX12 115 RX12 yX12_spells wsX12_spells) := goodIn_app (ggh_of [1243, 1245, 26, 72] rfl rfl rfl) ggX12_much_X12_spells
theorem ggX12_much_X12_figures : GoodIn wsX12_much wsX12_figures := gga_of 1252 rfl rfl rfl
theorem gX12_much_X12_figures : GoodIn wsX12_much (wsV RX12 109 RX12 yX12_figures wsX12_figures) := goodIn_app (ggh_of [1249, 1251, 27, 72] rfl rfl rfl) ggX12_much_X12_figures
theorem ggX12_much_X12_must : GoodIn wsX12_much wsX12_must := gga_of 1237 rfl rfl rfl
theorem gX12_much_X12_must : GoodIn wsX12_much (wsV RX12 82 RX12 yX12_must wsX12_must) := goodIn_app (ggh_of [1234, 1236, 24, 72] rfl rfl rfl) ggX12_much_X12_must
theorem ggX12_much_X12_some : GoodIn wsX12_much wsX12_some := gga_of 1256 rfl rfl rfl
theorem gX12_much_X12_some : GoodIn wsX12_much (wsV RX12 98 RX12 yX12_some wsX12_some) := goodIn_app (ggh_of [1253, 1255, 28, 72] rfl rfl rfl) ggX12_much_X12_some
theorem ggX12_much_X12_emits : GoodIn wsX12_much wsX12_emits := gga_of 1268 rfl rfl rfl
theorem gX12_much_X12_emits : GoodIn wsX12_much (wsV RX12 95 RX12 yX12_emits wsX12_emits) := goodIn_app (ggh_of [1265, 1267, 31, 72] rfl rfl rfl) ggX12_much_X12_emits
noncomputable def dk13ahill_cX12_much_0 : List (Nat × List Nat) := [(0, [42]), (1, [44]), (2, [182, 0, 115]), (5, [42]), (6, [182, 0, 109]), (9, [62]), (10, [42]), (11, [16, 32]), (13, [182, 0, 82]), (16, [42]), (17, [182, 0, 98]), (20, [42]), (21, [27]), (22, [29]), (23, [100]), (24, [182, 0, 95]), (27, [177])]
set_option maxRecDepth 100000 in
theorem dk13ahill_cX12_much_0_a : btA cX12_much dk13ahill_cX12_much_0 = true := by decide +kernel
theorem dX12_much_0 : decode cX12_much 0 = .ok (.aload_n 0, 1) := bd42 (btAt dk13ahill_cX12_much_0_a 0 rfl)
theorem dX12_much_1 : decode cX12_much 1 = .ok (.aload_n 2, 1) := bd44 (btAt dk13ahill_cX12_much_0_a 1 rfl)
theorem dX12_much_2 : decode cX12_much 2 = .ok (.invokevirtual 115, 3) := bd182 (a := 0) (b := 115) (btAt dk13ahill_cX12_much_0_a 2 rfl)
theorem dX12_much_5 : decode cX12_much 5 = .ok (.aload_n 0, 1) := bd42 (btAt dk13ahill_cX12_much_0_a 3 rfl)
theorem dX12_much_6 : decode cX12_much 6 = .ok (.invokevirtual 109, 3) := bd182 (a := 0) (b := 109) (btAt dk13ahill_cX12_much_0_a 4 rfl)
theorem dX12_much_9 : decode cX12_much 9 = .ok (.istore_n 3, 1) := bd62 (btAt dk13ahill_cX12_much_0_a 5 rfl)
theorem dX12_much_10 : decode cX12_much 10 = .ok (.aload_n 0, 1) := bd42 (btAt dk13ahill_cX12_much_0_a 6 rfl)
theorem dX12_much_11 : decode cX12_much 11 = .ok (.bipush 32, 2) := bd16 (a := 32) (btAt dk13ahill_cX12_much_0_a 7 rfl)
theorem dX12_much_13 : decode cX12_much 13 = .ok (.invokevirtual 82, 3) := bd182 (a := 0) (b := 82) (btAt dk13ahill_cX12_much_0_a 8 rfl)
theorem dX12_much_16 : decode cX12_much 16 = .ok (.aload_n 0, 1) := bd42 (btAt dk13ahill_cX12_much_0_a 9 rfl)
theorem dX12_much_17 : decode cX12_much 17 = .ok (.invokevirtual 98, 3) := bd182 (a := 0) (b := 98) (btAt dk13ahill_cX12_much_0_a 10 rfl)
theorem dX12_much_20 : decode cX12_much 20 = .ok (.aload_n 0, 1) := bd42 (btAt dk13ahill_cX12_much_0_a 11 rfl)
theorem dX12_much_21 : decode cX12_much 21 = .ok (.iload_n 1, 1) := bd27 (btAt dk13ahill_cX12_much_0_a 12 rfl)
theorem dX12_much_22 : decode cX12_much 22 = .ok (.iload_n 3, 1) := bd29 (btAt dk13ahill_cX12_much_0_a 13 rfl)
theorem dX12_much_23 : decode cX12_much 23 = .ok (.isub, 1) := bd100 (btAt dk13ahill_cX12_much_0_a 14 rfl)
theorem dX12_much_24 : decode cX12_much 24 = .ok (.invokevirtual 95, 3) := bd182 (a := 0) (b := 95) (btAt dk13ahill_cX12_much_0_a 15 rfl)
theorem dX12_much_27 : decode cX12_much 27 = .ok (.return_, 1) := bd177 (btAt dk13ahill_cX12_much_0_a 16 rfl)
theorem clause_sd {K v d : Nat} (hK : K = 10 ∨ K = 200 ∨ K = 400) (hv : v ≤ 99) : stepd (nI 0 - nI K - nI v) d = some 0 := by
  have h : ∀ K, K ∈ [10, 200, 400] → ∀ v, v < 100 → (¬ (0 : Int32) ≤ nI 0 - nI K - nI v ∧ ¬ nI 0 - nI K - nI v = -1 ∧ ¬ -10 < nI 0 - nI K - nI v) := by decide +kernel
  obtain ⟨h1, h2, h3⟩ := h K (by rcases hK with rfl | rfl | rfl <;> simp) v (by omega)
  rw [stepd, if_neg h1, if_neg h2, if_neg h3]
theorem PI.up191 {f : Nat → Int32} {a d p E : Nat} {K : List Nat} {x : Int32} (h : PI f a K d p E) : PI (upd f (191 + a) x) a K d p E := by
  obtain ⟨a1, a2, a3, a4, a5, a6, a7, a8⟩ := h
  refine ⟨a1, a2, a3, (pk_un (by omega)).trans a4, a5, a6, ?_, fun i hi => (pk_un (by omega)).trans (a8 i hi)⟩
  rw [← a7]
  exact sdep_cong (fun i hi => pk_un (by omega))
theorem PQ_191 {f : Nat → Int32} {a : Nat} {x : Int32} : PQ a f (upd f (191 + a) x) := fun i h1 _ _ => pk_un h1
theorem lk_out {x : Int32} (h1 : ¬ x = 100) (h2 : ¬ x = 104) (h3 : ¬ x = 115) : Op.lookupswitch.offset [(100, 55), (104, 43), (115, 36)] 67 x.toInt = 67 := by
  have e : ∀ y : Int32, ¬ x = y → ¬ y.toInt = x.toInt := fun y h q => h (Int32.toInt_inj.mp q.symm)
  rw [Op.lookupswitch.offset_cons, if_neg (show ¬ (100 : Int) = x.toInt from e 100 h1), Op.lookupswitch.offset_cons, if_neg (show ¬ (104 : Int) = x.toInt from e 104 h2), Op.lookupswitch.offset_cons, if_neg (show ¬ (115 : Int) = x.toInt from e 115 h3)]
  rfl

set_option maxHeartbeats 4000000 in
set_option maxRecDepth 100000 in
theorem c_much (l : Launch) (dC : Nat → ClassId) (dI : Nat → Nat → Nat) (sK sV : Nat → Nat) (m0 aS aI aB aT aG aO aN aD aY : Nat) (th im ac sp en wg op se dn rn kd nu tv : Int32) (bv : Int64) (cS : ClassId) (fS : Nat → Int32) (a p0 E : Nat) (K : List Nat) (ss : Nat → Nat) (KK i wd : Nat) (sz : Nat) (ga : a < 5) (gE : E ≤ 100) (gp : p0 ≤ E) (gI : PI fS a K 0 p0 E) (gT : TP fS E ss) (hKK : (wd = 0 ∧ KK = 10) ∨ (wd = 1 ∧ KK = 200) ∨ (wd = 3 ∧ KK = 400)) (hi12 : i < 12) : Met l yX12_much wsX12_much ({ frames := 23, cells := 0, slots := 0, locals := 491 } : Room) (va_Pc [.ref m0, .int (nI 0 - nI KK), .ref (sK i)] (fun U => U.heap.size = sz ∧ va_P (dC, dI) vwCl [(zo14irriiiiiirriirrrrlriiii m0 th aS aI im (nI a) (nI p0) (nI E) 0 0 aB aT se dn aG aO aN aD bv aY rn kd nu tv), (zaI aS cS 901 fS)] U.heap ∧ va_K (dC, dI) vwCl [(cS, .int)] U ∧ va_D (fun _ => True) [(zo14irriiiiiirriirrrrlriiii m0 th aS aI im (nI a) (nI p0) (nI E) 0 0 aB aT se dn aG aO aN aD bv aY rn kd nu tv), (zaI aS cS 901 fS)] ∧ Gs sK sV (va_A [(zo14irriiiiiirriirrrrlriiii m0 th aS aI im (nI a) (nI p0) (nI E) 0 0 aB aT se dn aG aO aN aD bv aY rn kd nu tv), (zaI aS cS 901 fS)] sz) U)) (va_Qv (fun (u : (Nat → Int32) × (Int32) × (Int32)) => match u with | (fS9, sp9, wg9) => ∃ p9 : Nat, sp9 = nI p9 ∧ p0 ≤ p9 ∧ p9 ≤ E ∧ PF a fS fS9 ∧ ((wg9 = 1 ∧ pMch ss (sTx i) (sLen i) wd p0 = (none, p9)) ∨ (wg9 = 0 ∧ ∃ (v9 : Nat) (L9 : List Nat), pMch ss (sTx i) (sLen i) wd p0 = (some (wd, v9, L9), p9) ∧ PI fS9 a (K ++ (L9 ++ [2000 + 100 * wd + v9])) 0 p9 E))) (fun (u : (Nat → Int32) × (Int32) × (Int32)) (t : State) => match u with | (fS9, sp9, wg9) => va_P (dC, dI) vwCl [(zo14irriiiiiirriirrrrlriiii m0 th aS aI im (nI a) sp9 (nI E) wg9 0 aB aT se dn aG aO aN aD bv aY rn kd nu tv), (zaI aS cS 901 fS9)] t.heap ∧ va_K (dC, dI) vwCl [(cS, .int)] t ∧ va_D (va_A [(zo14irriiiiiirriirrrrlriiii m0 th aS aI im (nI a) (nI p0) (nI E) 0 0 aB aT se dn aG aO aN aD bv aY rn kd nu tv), (zaI aS cS 901 fS)] sz) [(zo14irriiiiiirriirrrrlriiii m0 th aS aI im (nI a) sp9 (nI E) wg9 0 aB aT se dn aG aO aN aD bv aY rn kd nu tv), (zaI aS cS 901 fS9)]) (va_A [(zo14irriiiiiirriirrrrlriiii m0 th aS aI im (nI a) (nI p0) (nI E) 0 0 aB aT se dn aG aO aN aD bv aY rn kd nu tv), (zaI aS cS 901 fS)] sz)) 0 0 (va_A [(zo14irriiiiiirriirrrrlriiii m0 th aS aI im (nI a) (nI p0) (nI E) 0 0 aB aT se dn aG aO aN aD bv aY rn kd nu tv), (zaI aS cS 901 fS)] sz) := by
  refine met_ofQ (cc := cX12_much) (maxL := 4) (ret := none) (by decide) rfl ?_
  intro p e s m args below meth c s₁ Q B hml hv hQ
  obtain ⟨rfl, hsz, hP, hK, hD0, hE⟩ := hv
  have hx := B.exec
  have hb := B.bytes
  have hr := B.returns
  have hts := atoms_spec (ws := wsX12_much) B.pre
  have hown : s.vm.findClass RX12 = some m.cls := findClass_of_methodNamed B.named
  have hlocks := B.notSynchronized
  subst hsz
  have hD := hD0.self (sz := s.heap.size)
  generalize hAe : va_A [(zo14irriiiiiirriirrrrlriiii m0 th aS aI im (nI a) (nI p0) (nI E) 0 0 aB aT se dn aG aO aN aD bv aY rn kd nu tv), (zaI aS cS 901 fS)] s.heap.size = A at hD hQ hE ⊢
  have hA : ∀ q : Nat, s.heap.size ≤ q → A q := fun q h => by rw [← hAe]; exact Or.inr h
  have hS : va_S A s.heap s.heap [] := va_S.rf
  have hl := lv_entry [.ref m0, .int (nI 0 - nI KK), .ref (sK i)] (n := 4) (Nat.le_of_ble_eq_true rfl)
  rw [lg_entry_eq]
  generalize (lg_sl [.ref m0, .int (nI 0 - nI KK), .ref (sK i)] ++ List.replicate (4 - (lg_sl [.ref m0, .int (nI 0 - nI KK), .ref (sK i)]).length) Slot.unset).toArray = ls at hl ⊢
  generalize hag : ([.ref m0, .int (nI 0 - nI KK), .ref (sK i)] : List Value).toArray = args at hts hQ ⊢
  have hl : lv_has ls 4 [(0, .ref m0), (1, .int (nI 0 - nI KK)), (2, .ref (sK i))] := hl
  obtain ⟨H, hH⟩ : ∃ H : Heap, H = s.heap := ⟨_, rfl⟩
  rw [← hH] at hP
  rw [← hH]
  have hS : va_S A s.heap H [] := by rw [hH]; exact hS
  obtain ⟨locs, hlo⟩ : ∃ L : List Loc, L = [] := ⟨_, rfl⟩
  rw [← hlo] at hS
  rw [← hlo]
  clear hH hlo
  have k5 := gI.2.2.2.2.1
  refine lv_aload_n hx hb dX12_much_0 rfl (lv_at hl 0 rfl) ?_
  refine lv_aload_n hx hb dX12_much_1 rfl (lv_at hl 2 rfl) ?_
  have hPc := hP.sub (ws' := [(zo14irriiiiiirriirrrrlriiii m0 th aS aI im (nI a) (nI p0) (nI E) 0 0 aB aT se dn aG aO aN aD bv aY rn kd nu tv), (zaI aS cS 901 fS)]) [0, 1] rfl
  have hDc := hD.sub (ws' := [(zo14irriiiiiirriirrrrlriiii m0 th aS aI im (nI a) (nI p0) (nI E) 0 0 aB aT se dn aG aO aN aD bv aY rn kd nu tv), (zaI aS cS 901 fS)]) [0, 1] (by decide) rfl
  have hKc := hK.sub (tys' := [(cS, .int)]) [0] rfl
  have hFc := va_free (wc := [(zo14irriiiiiirriirrrrlriiii m0 th aS aI im (nI a) (nI p0) (nI E) 0 0 aB aT se dn aG aO aN aD bv aY rn kd nu tv), (zaI aS cS 901 fS)]) hD hS hA [0, 1] rfl
  refine va_callv (va_runV (As := [.ref (sK i)]) (rest := []) ⟨hx, hb, hml, hown, hts⟩ (c_spells l dC dI sK sV m0 aS aI aB aT aG aO aN aD aY th im (nI a) (nI p0) (nI E) 0 0 se dn rn kd nu tv bv cS fS a p0 E i ss H.size (by omega) (by omega) (by omega) (by first | assumption | decide) (gT)) (cwV 1 hts gX12_much_X12_spells rfl rfl rfl hd_yX12_spells ⟨Nat.le_of_ble_eq_true rfl, Nat.le_of_ble_eq_true rfl⟩) ⟨fun a U g mk q => by obtain ⟨q0, q1, qP, qK, qD, qhE⟩ := q; exact ⟨q0, mvz g mk a q1, mvP g mk a qP, mvK g mk a qK, qD, qhE.mv g mk a⟩, va_recv hK hP (ci := 14) (q := (RX12, TX12, 23)) (q0 := 0) rfl rfl, fun U hU hW => ⟨rfl, by rw [hU], by rw [hU]; exact hPc, va_K.moved hW.alike hKc, hDc.weaken (fun _ _ _ _ => trivial), hE.call hS hU hW (fun q h => hFc q h)⟩⟩ rfl rfl hl.1 rfl (lv_room (Nat.le_of_ble_eq_true rfl)) dX12_much_2 ⟨Nat.le_of_ble_eq_true rfl, Nat.le_of_ble_eq_true rfl⟩) hS (fun q _ h => hFc q h) hFc (fun u tC H1 locs htC hvm hw_2 hB hz1 hk1 hS => ?_)
  obtain ⟨sp9_3, wg9_4⟩ := u
  try dsimp only at hw_2 hB
  obtain ⟨hP1, hK1, hD1⟩ := hB
  rw [htC] at hP1
  have hK1 := va_K.moved hvm.symm hK1
  obtain ⟨hP, hD⟩ := va_join (wr := []) (w1 := [(zo14irriiiiiirriirrrrlriiii m0 th aS aI im (nI a) sp9_3 (nI E) wg9_4 0 aB aT se dn aG aO aN aD bv aY rn kd nu tv), (zaI aS cS 901 fS)]) hP hD [0, 1] [] rfl rfl (by decide) (by decide) hk1 hFc hP1 hD1
  have hK := (hK.sub (tys' := []) [] rfl).app hK1
  generalize H1 = H at hP hS ⊢
  have hP : va_P (dC, dI) vwCl [(zo14irriiiiiirriirrrrlriiii m0 th aS aI im (nI a) sp9_3 (nI E) wg9_4 0 aB aT se dn aG aO aN aD bv aY rn kd nu tv), (zaI aS cS 901 fS)] H := hP
  have hD : va_D A [(zo14irriiiiiirriirrrrlriiii m0 th aS aI im (nI a) sp9_3 (nI E) wg9_4 0 aB aT se dn aG aO aN aD bv aY rn kd nu tv), (zaI aS cS 901 fS)] := hD
  have hK : va_K (dC, dI) vwCl [(cS, .int)] s := hK
  obtain ⟨h_5, rfl, q9⟩ := hw_2
  rcases q9 with ⟨rfl, hm_6⟩ | ⟨rfl, hm_6⟩
  · skip
    rw [hm_6] at hP hD
    rw [hm_6] at h_5
    have hP : va_P (dC, dI) vwCl [(zo14irriiiiiirriirrrrlriiii m0 th aS aI im (nI a) (nI (p0 + sLen i)) (nI E) 0 0 aB aT se dn aG aO aN aD bv aY rn kd nu tv), (zaI aS cS 901 fS)] H := hP
    have hD : va_D A [(zo14irriiiiiirriirrrrlriiii m0 th aS aI im (nI a) (nI (p0 + sLen i)) (nI E) 0 0 aB aT se dn aG aO aN aD bv aY rn kd nu tv), (zaI aS cS 901 fS)] := hD
    refine lv_aload_n hx hb dX12_much_5 rfl (lv_at hl 0 rfl) ?_
    have hPc := hP.sub (ws' := [(zo14irriiiiiirriirrrrlriiii m0 th aS aI im (nI a) (nI (p0 + sLen i)) (nI E) 0 0 aB aT se dn aG aO aN aD bv aY rn kd nu tv), (zaI aS cS 901 fS)]) [0, 1] rfl
    have hDc := hD.sub (ws' := [(zo14irriiiiiirriirrrrlriiii m0 th aS aI im (nI a) (nI (p0 + sLen i)) (nI E) 0 0 aB aT se dn aG aO aN aD bv aY rn kd nu tv), (zaI aS cS 901 fS)]) [0, 1] (by decide) rfl
    have hKc := hK.sub (tys' := [(cS, .int)]) [0] rfl
    have hFc := va_free (wc := [(zo14irriiiiiirriirrrrlriiii m0 th aS aI im (nI a) (nI (p0 + sLen i)) (nI E) 0 0 aB aT se dn aG aO aN aD bv aY rn kd nu tv), (zaI aS cS 901 fS)]) hD hS hA [0, 1] rfl
    refine va_calli (va_runV (As := []) (rest := []) ⟨hx, hb, hml, hown, hts⟩ (c_figures l dC dI m0 aS aI aB aT aG aO aN aD aY th im (nI a) (nI (p0 + sLen i)) (nI E) 0 0 se dn rn kd nu tv bv cS fS a (p0 + sLen i) E ss H.size (by omega) (by omega) (by omega) (Or.inl rfl) (gT)) (cwV 0 hts gX12_much_X12_figures rfl rfl rfl hd_yX12_figures ⟨Nat.le_of_ble_eq_true rfl, Nat.le_of_ble_eq_true rfl⟩) ⟨fun a U g mk q => by obtain ⟨q0, q1, qP, qK, qD⟩ := q; exact ⟨q0, mvz g mk a q1, mvP g mk a qP, mvK g mk a qK, qD⟩, va_recv hK hP (ci := 14) (q := (RX12, TX12, 23)) (q0 := 0) rfl rfl, fun U hU hW => ⟨rfl, by rw [hU], by rw [hU]; exact hPc, va_K.moved hW.alike hKc, hDc.weaken (fun _ _ _ _ => trivial)⟩⟩ rfl rfl hl.1 rfl (lv_room (Nat.le_of_ble_eq_true rfl)) dX12_much_6 ⟨Nat.le_of_ble_eq_true rfl, Nat.le_of_ble_eq_true rfl⟩) hS (fun q _ h => hFc q h) hFc (fun r_7 u tC H1 locs htC hvm hw_8 hB hz1 hk1 hS => ?_)
    obtain ⟨sp9_9, wg9_10⟩ := u
    try dsimp only at hw_8 hB
    obtain ⟨hP1, hK1, hD1⟩ := hB
    rw [htC] at hP1
    have hK1 := va_K.moved hvm.symm hK1
    obtain ⟨hP, hD⟩ := va_join (wr := []) (w1 := [(zo14irriiiiiirriirrrrlriiii m0 th aS aI im (nI a) sp9_9 (nI E) wg9_10 0 aB aT se dn aG aO aN aD bv aY rn kd nu tv), (zaI aS cS 901 fS)]) hP hD [0, 1] [] rfl rfl (by decide) (by decide) hk1 hFc hP1 hD1
    have hK := (hK.sub (tys' := []) [] rfl).app hK1
    generalize H1 = H at hP hS ⊢
    have hP : va_P (dC, dI) vwCl [(zo14irriiiiiirriirrrrlriiii m0 th aS aI im (nI a) sp9_9 (nI E) wg9_10 0 aB aT se dn aG aO aN aD bv aY rn kd nu tv), (zaI aS cS 901 fS)] H := hP
    have hD : va_D A [(zo14irriiiiiirriirrrrlriiii m0 th aS aI im (nI a) sp9_9 (nI E) wg9_10 0 aB aT se dn aG aO aN aD bv aY rn kd nu tv), (zaI aS cS 901 fS)] := hD
    have hK : va_K (dC, dI) vwCl [(cS, .int)] s := hK
    rcases hw_8 with ⟨rfl, rfl, hN_18, v_11, h_13, rfl⟩ | ⟨rfl, h_17, v_11, p_12, h_13, h_14, h_15, rfl, rfl, hN_18⟩
    · skip
      have hN := hN_18 rfl
      refine lv_istore_n (lv' := [(3, .int (nI v_11)), (0, .ref m0), (1, .int (nI 0 - nI KK)), (2, .ref (sK i))]) hx hb dX12_much_9 rfl hl (by decide) rfl (fun ls hl => ?_)
      refine lv_aload_n hx hb dX12_much_10 rfl (lv_at hl 1 rfl) ?_
      refine lv_bipush (v := 32) hx hb dX12_much_11 (by decide) ?_
      have hPc := hP.sub (ws' := [(zo14irriiiiiirriirrrrlriiii m0 th aS aI im (nI a) (nI (p0 + sLen i)) (nI E) 1 0 aB aT se dn aG aO aN aD bv aY rn kd nu tv), (zaI aS cS 901 fS)]) [0, 1] rfl
      have hDc := hD.sub (ws' := [(zo14irriiiiiirriirrrrlriiii m0 th aS aI im (nI a) (nI (p0 + sLen i)) (nI E) 1 0 aB aT se dn aG aO aN aD bv aY rn kd nu tv), (zaI aS cS 901 fS)]) [0, 1] (by decide) rfl
      have hKc := hK.sub (tys' := [(cS, .int)]) [0] rfl
      have hFc := va_free (wc := [(zo14irriiiiiirriirrrrlriiii m0 th aS aI im (nI a) (nI (p0 + sLen i)) (nI E) 1 0 aB aT se dn aG aO aN aD bv aY rn kd nu tv), (zaI aS cS 901 fS)]) hD hS hA [0, 1] rfl
      refine va_callv (va_runV (As := [.int 32]) (rest := []) ⟨hx, hb, hml, hown, hts⟩ (c_must l dC dI m0 aS aI aB aT aG aO aN aD aY th im (nI a) (nI (p0 + sLen i)) (nI E) 1 0 se dn rn kd nu tv bv cS fS a (p0 + sLen i) E 32 H.size (by omega) (by omega) (by omega) (Or.inr rfl) (by decide)) (cwV 1 hts gX12_much_X12_must rfl rfl rfl hd_yX12_must ⟨Nat.le_of_ble_eq_true rfl, Nat.le_of_ble_eq_true rfl⟩) ⟨fun a U g mk q => by obtain ⟨q0, q1, qP, qK, qD⟩ := q; exact ⟨q0, mvz g mk a q1, mvP g mk a qP, mvK g mk a qK, qD⟩, va_recv hK hP (ci := 14) (q := (RX12, TX12, 23)) (q0 := 0) rfl rfl, fun U hU hW => ⟨rfl, by rw [hU], by rw [hU]; exact hPc, va_K.moved hW.alike hKc, hDc.weaken (fun _ _ _ _ => trivial)⟩⟩ rfl rfl hl.1 rfl (lv_room (Nat.le_of_ble_eq_true rfl)) dX12_much_13 ⟨Nat.le_of_ble_eq_true rfl, Nat.le_of_ble_eq_true rfl⟩) hS (fun q _ h => hFc q h) hFc (fun u tC H1 locs htC hvm hw_20 hB hz1 hk1 hS => ?_)
      obtain ⟨sp9_21, wg9_22⟩ := u
      try dsimp only at hw_20 hB
      obtain ⟨hP1, hK1, hD1⟩ := hB
      rw [htC] at hP1
      have hK1 := va_K.moved hvm.symm hK1
      obtain ⟨hP, hD⟩ := va_join (wr := []) (w1 := [(zo14irriiiiiirriirrrrlriiii m0 th aS aI im (nI a) sp9_21 (nI E) wg9_22 0 aB aT se dn aG aO aN aD bv aY rn kd nu tv), (zaI aS cS 901 fS)]) hP hD [0, 1] [] rfl rfl (by decide) (by decide) hk1 hFc hP1 hD1
      have hK := (hK.sub (tys' := []) [] rfl).app hK1
      generalize H1 = H at hP hS ⊢
      have hP : va_P (dC, dI) vwCl [(zo14irriiiiiirriirrrrlriiii m0 th aS aI im (nI a) sp9_21 (nI E) wg9_22 0 aB aT se dn aG aO aN aD bv aY rn kd nu tv), (zaI aS cS 901 fS)] H := hP
      have hD : va_D A [(zo14irriiiiiirriirrrrlriiii m0 th aS aI im (nI a) sp9_21 (nI E) wg9_22 0 aB aT se dn aG aO aN aD bv aY rn kd nu tv), (zaI aS cS 901 fS)] := hD
      have hK : va_K (dC, dI) vwCl [(cS, .int)] s := hK
      obtain ⟨rfl, rfl⟩ : _ ∧ _ := by rcases hw_20 with ⟨q, q2, _⟩ | ⟨_, q, _⟩; exact ⟨q, q2⟩; exact absurd q (by decide)
      refine lv_aload_n hx hb dX12_much_16 rfl (lv_at hl 1 rfl) ?_
      have hPc := hP.sub (ws' := [(zo14irriiiiiirriirrrrlriiii m0 th aS aI im (nI a) (nI (p0 + sLen i)) (nI E) 1 0 aB aT se dn aG aO aN aD bv aY rn kd nu tv)]) [0] rfl
      have hKc := hK.sub (tys' := []) [] rfl
      refine va_csv (va_runV (As := []) (rest := []) ⟨hx, hb, hml, hown, hts⟩ (c_someW l dC dI m0 aS aI aB aT aG aO aN aD aY th im (nI a) (nI (p0 + sLen i)) (nI E) 1 0 se dn rn kd nu tv bv) (cwV 0 hts gX12_much_X12_some rfl rfl rfl hd_yX12_some ⟨Nat.le_of_ble_eq_true rfl, Nat.le_of_ble_eq_true rfl⟩) ⟨fun a U g mk q => by obtain ⟨q0, qP, qK⟩ := q; exact ⟨q0, mvP g mk a qP, mvK g mk a qK⟩, va_recv hK hP (ci := 14) (q := (RX12, TX12, 23)) (q0 := 0) rfl rfl, fun U hU hW => ⟨rfl, by rw [hU]; exact hPc, va_K.moved hW.alike hKc⟩⟩ rfl rfl hl.1 rfl (lv_room (Nat.le_of_ble_eq_true rfl)) dX12_much_17 ⟨Nat.le_of_ble_eq_true rfl, Nat.le_of_ble_eq_true rfl⟩).run (fun hw_24 => ?_)
      refine lv_aload_n hx hb dX12_much_20 rfl (lv_at hl 1 rfl) ?_
      refine lv_iload_n hx hb dX12_much_21 rfl (lv_at hl 2 rfl) ?_
      refine lv_iload_n hx hb dX12_much_22 rfl (lv_at hl 0 rfl) ?_
      refine lv_isub hx hb dX12_much_23 ?_
      have hPc := hP.sub (ws' := [(zo14irriiiiiirriirrrrlriiii m0 th aS aI im (nI a) (nI (p0 + sLen i)) (nI E) 1 0 aB aT se dn aG aO aN aD bv aY rn kd nu tv)]) [0] rfl
      have hKc := hK.sub (tys' := []) [] rfl
      refine va_csv (va_runV (As := [.int ((nI 0 - nI KK) - (nI v_11))]) (rest := []) ⟨hx, hb, hml, hown, hts⟩ (c_emitsW l dC dI m0 aS aI aB aT aG aO aN aD aY th im (nI a) (nI (p0 + sLen i)) (nI E) 1 0 se dn rn kd nu tv bv ((nI 0 - nI KK) - (nI v_11))) (cwV 1 hts gX12_much_X12_emits rfl rfl rfl hd_yX12_emits ⟨Nat.le_of_ble_eq_true rfl, Nat.le_of_ble_eq_true rfl⟩) ⟨fun a U g mk q => by obtain ⟨q0, qP, qK⟩ := q; exact ⟨q0, mvP g mk a qP, mvK g mk a qK⟩, va_recv hK hP (ci := 14) (q := (RX12, TX12, 23)) (q0 := 0) rfl rfl, fun U hU hW => ⟨rfl, by rw [hU]; exact hPc, va_K.moved hW.alike hKc⟩⟩ rfl rfl hl.1 rfl (lv_room (Nat.le_of_ble_eq_true rfl)) dX12_much_24 ⟨Nat.le_of_ble_eq_true rfl, Nat.le_of_ble_eq_true rfl⟩).run (fun hw_26 => ?_)
      rw [hQ]
      have hP9 := hP.sub (ws' := [(zo14irriiiiiirriirrrrlriiii m0 th aS aI im (nI a) (nI (p0 + sLen i)) (nI E) 1 0 aB aT se dn aG aO aN aD bv aY rn kd nu tv), (zaI aS cS 901 fS)]) [0, 1] rfl
      have hD9 := hD.sub (ws' := [(zo14irriiiiiirriirrrrlriiii m0 th aS aI im (nI a) (nI (p0 + sLen i)) (nI E) 1 0 aB aT se dn aG aO aN aD bv aY rn kd nu tv), (zaI aS cS 901 fS)]) [0, 1] (by decide) rfl
      have hK9 := hK.sub (tys' := [(cS, .int)]) [0] rfl
      exact W.vret hx hb hr (fun tQ htQ hWQ => ⟨⟨(fS, (nI (p0 + sLen i)), 1), rfl, ⟨p0 + sLen i, rfl, by omega, by omega, PF.rf, Or.inl ⟨rfl, pm_2 hm_6 hN⟩⟩, by rw [htQ]; exact hP9, va_K.moved hWQ.alike hK9, hD9⟩, hS.F htQ⟩) hS.2.2 dX12_much_27
    · skip
      have hN := hN_18
      refine lv_istore_n (lv' := [(3, .int (nI v_11)), (0, .ref m0), (1, .int (nI 0 - nI KK)), (2, .ref (sK i))]) hx hb dX12_much_9 rfl hl (by decide) rfl (fun ls hl => ?_)
      refine lv_aload_n hx hb dX12_much_10 rfl (lv_at hl 1 rfl) ?_
      refine lv_bipush (v := 32) hx hb dX12_much_11 (by decide) ?_
      have hPc := hP.sub (ws' := [(zo14irriiiiiirriirrrrlriiii m0 th aS aI im (nI a) (nI p_12) (nI E) 0 0 aB aT se dn aG aO aN aD bv aY rn kd nu tv), (zaI aS cS 901 fS)]) [0, 1] rfl
      have hDc := hD.sub (ws' := [(zo14irriiiiiirriirrrrlriiii m0 th aS aI im (nI a) (nI p_12) (nI E) 0 0 aB aT se dn aG aO aN aD bv aY rn kd nu tv), (zaI aS cS 901 fS)]) [0, 1] (by decide) rfl
      have hKc := hK.sub (tys' := [(cS, .int)]) [0] rfl
      have hFc := va_free (wc := [(zo14irriiiiiirriirrrrlriiii m0 th aS aI im (nI a) (nI p_12) (nI E) 0 0 aB aT se dn aG aO aN aD bv aY rn kd nu tv), (zaI aS cS 901 fS)]) hD hS hA [0, 1] rfl
      refine va_callv (va_runV (As := [.int 32]) (rest := []) ⟨hx, hb, hml, hown, hts⟩ (c_must l dC dI m0 aS aI aB aT aG aO aN aD aY th im (nI a) (nI p_12) (nI E) 0 0 se dn rn kd nu tv bv cS fS a p_12 E 32 H.size (by omega) (by omega) (by omega) (Or.inl rfl) (by decide)) (cwV 1 hts gX12_much_X12_must rfl rfl rfl hd_yX12_must ⟨Nat.le_of_ble_eq_true rfl, Nat.le_of_ble_eq_true rfl⟩) ⟨fun a U g mk q => by obtain ⟨q0, q1, qP, qK, qD⟩ := q; exact ⟨q0, mvz g mk a q1, mvP g mk a qP, mvK g mk a qK, qD⟩, va_recv hK hP (ci := 14) (q := (RX12, TX12, 23)) (q0 := 0) rfl rfl, fun U hU hW => ⟨rfl, by rw [hU], by rw [hU]; exact hPc, va_K.moved hW.alike hKc, hDc.weaken (fun _ _ _ _ => trivial)⟩⟩ rfl rfl hl.1 rfl (lv_room (Nat.le_of_ble_eq_true rfl)) dX12_much_13 ⟨Nat.le_of_ble_eq_true rfl, Nat.le_of_ble_eq_true rfl⟩) hS (fun q _ h => hFc q h) hFc (fun u tC H1 locs htC hvm hw_28 hB hz1 hk1 hS => ?_)
      obtain ⟨sp9_29, wg9_30⟩ := u
      try dsimp only at hw_28 hB
      obtain ⟨hP1, hK1, hD1⟩ := hB
      rw [htC] at hP1
      have hK1 := va_K.moved hvm.symm hK1
      obtain ⟨hP, hD⟩ := va_join (wr := []) (w1 := [(zo14irriiiiiirriirrrrlriiii m0 th aS aI im (nI a) sp9_29 (nI E) wg9_30 0 aB aT se dn aG aO aN aD bv aY rn kd nu tv), (zaI aS cS 901 fS)]) hP hD [0, 1] [] rfl rfl (by decide) (by decide) hk1 hFc hP1 hD1
      have hK := (hK.sub (tys' := []) [] rfl).app hK1
      generalize H1 = H at hP hS ⊢
      have hP : va_P (dC, dI) vwCl [(zo14irriiiiiirriirrrrlriiii m0 th aS aI im (nI a) sp9_29 (nI E) wg9_30 0 aB aT se dn aG aO aN aD bv aY rn kd nu tv), (zaI aS cS 901 fS)] H := hP
      have hD : va_D A [(zo14irriiiiiirriirrrrlriiii m0 th aS aI im (nI a) sp9_29 (nI E) wg9_30 0 aB aT se dn aG aO aN aD bv aY rn kd nu tv), (zaI aS cS 901 fS)] := hD
      have hK : va_K (dC, dI) vwCl [(cS, .int)] s := hK
      rcases hw_28 with ⟨rfl, rfl, h_31⟩ | ⟨rfl, _, h_31, h_32, rfl⟩
      · skip
        have hn32 : ¬ ss (p_12) = 32 := fun z => h_31 rfl (((gT).eq (c := 32) (by omega) (by omega)).mpr z)
        refine lv_aload_n hx hb dX12_much_16 rfl (lv_at hl 1 rfl) ?_
        have hPc := hP.sub (ws' := [(zo14irriiiiiirriirrrrlriiii m0 th aS aI im (nI a) (nI p_12) (nI E) 1 0 aB aT se dn aG aO aN aD bv aY rn kd nu tv)]) [0] rfl
        have hKc := hK.sub (tys' := []) [] rfl
        refine va_csv (va_runV (As := []) (rest := []) ⟨hx, hb, hml, hown, hts⟩ (c_someW l dC dI m0 aS aI aB aT aG aO aN aD aY th im (nI a) (nI p_12) (nI E) 1 0 se dn rn kd nu tv bv) (cwV 0 hts gX12_much_X12_some rfl rfl rfl hd_yX12_some ⟨Nat.le_of_ble_eq_true rfl, Nat.le_of_ble_eq_true rfl⟩) ⟨fun a U g mk q => by obtain ⟨q0, qP, qK⟩ := q; exact ⟨q0, mvP g mk a qP, mvK g mk a qK⟩, va_recv hK hP (ci := 14) (q := (RX12, TX12, 23)) (q0 := 0) rfl rfl, fun U hU hW => ⟨rfl, by rw [hU]; exact hPc, va_K.moved hW.alike hKc⟩⟩ rfl rfl hl.1 rfl (lv_room (Nat.le_of_ble_eq_true rfl)) dX12_much_17 ⟨Nat.le_of_ble_eq_true rfl, Nat.le_of_ble_eq_true rfl⟩).run (fun hw_34 => ?_)
        refine lv_aload_n hx hb dX12_much_20 rfl (lv_at hl 1 rfl) ?_
        refine lv_iload_n hx hb dX12_much_21 rfl (lv_at hl 2 rfl) ?_
        refine lv_iload_n hx hb dX12_much_22 rfl (lv_at hl 0 rfl) ?_
        refine lv_isub hx hb dX12_much_23 ?_
        have hPc := hP.sub (ws' := [(zo14irriiiiiirriirrrrlriiii m0 th aS aI im (nI a) (nI p_12) (nI E) 1 0 aB aT se dn aG aO aN aD bv aY rn kd nu tv)]) [0] rfl
        have hKc := hK.sub (tys' := []) [] rfl
        refine va_csv (va_runV (As := [.int ((nI 0 - nI KK) - (nI v_11))]) (rest := []) ⟨hx, hb, hml, hown, hts⟩ (c_emitsW l dC dI m0 aS aI aB aT aG aO aN aD aY th im (nI a) (nI p_12) (nI E) 1 0 se dn rn kd nu tv bv ((nI 0 - nI KK) - (nI v_11))) (cwV 1 hts gX12_much_X12_emits rfl rfl rfl hd_yX12_emits ⟨Nat.le_of_ble_eq_true rfl, Nat.le_of_ble_eq_true rfl⟩) ⟨fun a U g mk q => by obtain ⟨q0, qP, qK⟩ := q; exact ⟨q0, mvP g mk a qP, mvK g mk a qK⟩, va_recv hK hP (ci := 14) (q := (RX12, TX12, 23)) (q0 := 0) rfl rfl, fun U hU hW => ⟨rfl, by rw [hU]; exact hPc, va_K.moved hW.alike hKc⟩⟩ rfl rfl hl.1 rfl (lv_room (Nat.le_of_ble_eq_true rfl)) dX12_much_24 ⟨Nat.le_of_ble_eq_true rfl, Nat.le_of_ble_eq_true rfl⟩).run (fun hw_36 => ?_)
        rw [hQ]
        have hP9 := hP.sub (ws' := [(zo14irriiiiiirriirrrrlriiii m0 th aS aI im (nI a) (nI p_12) (nI E) 1 0 aB aT se dn aG aO aN aD bv aY rn kd nu tv), (zaI aS cS 901 fS)]) [0, 1] rfl
        have hD9 := hD.sub (ws' := [(zo14irriiiiiirriirrrrlriiii m0 th aS aI im (nI a) (nI p_12) (nI E) 1 0 aB aT se dn aG aO aN aD bv aY rn kd nu tv), (zaI aS cS 901 fS)]) [0, 1] (by decide) rfl
        have hK9 := hK.sub (tys' := [(cS, .int)]) [0] rfl
        exact W.vret hx hb hr (fun tQ htQ hWQ => ⟨⟨(fS, (nI p_12), 1), rfl, ⟨p_12, rfl, by omega, by omega, PF.rf, Or.inl ⟨rfl, pm_3 hm_6 hN hn32⟩⟩, by rw [htQ]; exact hP9, va_K.moved hWQ.alike hK9, hD9⟩, hS.F htQ⟩) hS.2.2 dX12_much_27
      · skip
        have hs32 : ss (p_12) = 32 := ((gT).eq (c := 32) (by omega) (by omega)).mp h_31
        refine lv_aload_n hx hb dX12_much_16 rfl (lv_at hl 1 rfl) ?_
        have hPc := hP.sub (ws' := [(zo14irriiiiiirriirrrrlriiii m0 th aS aI im (nI a) (nI (p_12 + 1)) (nI E) 0 0 aB aT se dn aG aO aN aD bv aY rn kd nu tv), (zaI aS cS 901 fS)]) [0, 1] rfl
        have hDc := hD.sub (ws' := [(zo14irriiiiiirriirrrrlriiii m0 th aS aI im (nI a) (nI (p_12 + 1)) (nI E) 0 0 aB aT se dn aG aO aN aD bv aY rn kd nu tv), (zaI aS cS 901 fS)]) [0, 1] (by decide) rfl
        have hKc := hK.sub (tys' := [(cS, .int)]) [0] rfl
        have hFc := va_free (wc := [(zo14irriiiiiirriirrrrlriiii m0 th aS aI im (nI a) (nI (p_12 + 1)) (nI E) 0 0 aB aT se dn aG aO aN aD bv aY rn kd nu tv), (zaI aS cS 901 fS)]) hD hS hA [0, 1] rfl
        refine va_callv (va_runV (As := []) (rest := []) ⟨hx, hb, hml, hown, hts⟩ (c_some0 l dC dI sK sV m0 aS aI aB aT aG aO aN aD aY th im (nI a) (nI (p_12 + 1)) (nI E) 0 0 se dn rn kd nu tv bv cS fS a (p_12 + 1) E K 0 ss H.size ((gI).mono (by omega) (by omega)) (gT)) (cwV 0 hts gX12_much_X12_some rfl rfl rfl hd_yX12_some ⟨Nat.le_of_ble_eq_true rfl, Nat.le_of_ble_eq_true rfl⟩) ⟨fun a U g mk q => by obtain ⟨q0, q1, qP, qK, qD, qhE⟩ := q; exact ⟨q0, mvz g mk a q1, mvP g mk a qP, mvK g mk a qK, qD, qhE.mv g mk a⟩, va_recv hK hP (ci := 14) (q := (RX12, TX12, 23)) (q0 := 0) rfl rfl, fun U hU hW => ⟨rfl, by rw [hU], by rw [hU]; exact hPc, va_K.moved hW.alike hKc, hDc.weaken (fun _ _ _ _ => trivial), hE.call hS hU hW (fun q h => hFc q h)⟩⟩ rfl rfl hl.1 rfl (lv_room (Nat.le_of_ble_eq_true rfl)) dX12_much_17 ⟨Nat.le_of_ble_eq_true rfl, Nat.le_of_ble_eq_true rfl⟩) hS (fun q _ h => hFc q h) hFc (fun u tC H1 locs htC hvm hw_38 hB hz1 hk1 hS => ?_)
        obtain ⟨fS9_39, sp9_40, wg9_41⟩ := u
        try dsimp only at hw_38 hB
        obtain ⟨hP1, hK1, hD1⟩ := hB
        rw [htC] at hP1
        have hK1 := va_K.moved hvm.symm hK1
        obtain ⟨hP, hD⟩ := va_join (wr := []) (w1 := [(zo14irriiiiiirriirrrrlriiii m0 th aS aI im (nI a) sp9_40 (nI E) wg9_41 0 aB aT se dn aG aO aN aD bv aY rn kd nu tv), (zaI aS cS 901 fS9_39)]) hP hD [0, 1] [] rfl rfl (by decide) (by decide) hk1 hFc hP1 hD1
        have hK := (hK.sub (tys' := []) [] rfl).app hK1
        generalize H1 = H at hP hS ⊢
        have hP : va_P (dC, dI) vwCl [(zo14irriiiiiirriirrrrlriiii m0 th aS aI im (nI a) sp9_40 (nI E) wg9_41 0 aB aT se dn aG aO aN aD bv aY rn kd nu tv), (zaI aS cS 901 fS9_39)] H := hP
        have hD : va_D A [(zo14irriiiiiirriirrrrlriiii m0 th aS aI im (nI a) sp9_40 (nI E) wg9_41 0 aB aT se dn aG aO aN aD bv aY rn kd nu tv), (zaI aS cS 901 fS9_39)] := hD
        have hK : va_K (dC, dI) vwCl [(cS, .int)] s := hK
        obtain ⟨p_42, rfl, h_45, h_46, hF_47, q9⟩ := hw_38
        rcases q9 with ⟨rfl, eP_44⟩ | ⟨rfl, L_43, eP_44, h_48, hI_49, h_50⟩
        · skip
          refine lv_aload_n hx hb dX12_much_20 rfl (lv_at hl 1 rfl) ?_
          refine lv_iload_n hx hb dX12_much_21 rfl (lv_at hl 2 rfl) ?_
          refine lv_iload_n hx hb dX12_much_22 rfl (lv_at hl 0 rfl) ?_
          refine lv_isub hx hb dX12_much_23 ?_
          have hPc := hP.sub (ws' := [(zo14irriiiiiirriirrrrlriiii m0 th aS aI im (nI a) (nI p_42) (nI E) 1 0 aB aT se dn aG aO aN aD bv aY rn kd nu tv)]) [0] rfl
          have hKc := hK.sub (tys' := []) [] rfl
          refine va_csv (va_runV (As := [.int ((nI 0 - nI KK) - (nI v_11))]) (rest := []) ⟨hx, hb, hml, hown, hts⟩ (c_emitsW l dC dI m0 aS aI aB aT aG aO aN aD aY th im (nI a) (nI p_42) (nI E) 1 0 se dn rn kd nu tv bv ((nI 0 - nI KK) - (nI v_11))) (cwV 1 hts gX12_much_X12_emits rfl rfl rfl hd_yX12_emits ⟨Nat.le_of_ble_eq_true rfl, Nat.le_of_ble_eq_true rfl⟩) ⟨fun a U g mk q => by obtain ⟨q0, qP, qK⟩ := q; exact ⟨q0, mvP g mk a qP, mvK g mk a qK⟩, va_recv hK hP (ci := 14) (q := (RX12, TX12, 23)) (q0 := 0) rfl rfl, fun U hU hW => ⟨rfl, by rw [hU]; exact hPc, va_K.moved hW.alike hKc⟩⟩ rfl rfl hl.1 rfl (lv_room (Nat.le_of_ble_eq_true rfl)) dX12_much_24 ⟨Nat.le_of_ble_eq_true rfl, Nat.le_of_ble_eq_true rfl⟩).run (fun hw_52 => ?_)
          rw [hQ]
          have hP9 := hP.sub (ws' := [(zo14irriiiiiirriirrrrlriiii m0 th aS aI im (nI a) (nI p_42) (nI E) 1 0 aB aT se dn aG aO aN aD bv aY rn kd nu tv), (zaI aS cS 901 fS9_39)]) [0, 1] rfl
          have hD9 := hD.sub (ws' := [(zo14irriiiiiirriirrrrlriiii m0 th aS aI im (nI a) (nI p_42) (nI E) 1 0 aB aT se dn aG aO aN aD bv aY rn kd nu tv), (zaI aS cS 901 fS9_39)]) [0, 1] (by decide) rfl
          have hK9 := hK.sub (tys' := [(cS, .int)]) [0] rfl
          exact W.vret hx hb hr (fun tQ htQ hWQ => ⟨⟨(fS9_39, (nI p_42), 1), rfl, ⟨p_42, rfl, by omega, by omega, (PF.rf).tr hF_47, Or.inl ⟨rfl, pm_4 hm_6 hN hs32 eP_44⟩⟩, by rw [htQ]; exact hP9, va_K.moved hWQ.alike hK9, hD9⟩, hS.F htQ⟩) hS.2.2 dX12_much_27
        · skip
          have k5 := hI_49.2.2.2.2.1
          have hqL_43 : (K ++ L_43).length = K.length + L_43.length := List.length_append
          refine lv_aload_n hx hb dX12_much_20 rfl (lv_at hl 1 rfl) ?_
          refine lv_iload_n hx hb dX12_much_21 rfl (lv_at hl 2 rfl) ?_
          refine lv_iload_n hx hb dX12_much_22 rfl (lv_at hl 0 rfl) ?_
          refine lv_isub hx hb dX12_much_23 ?_
          have hPc := hP.sub (ws' := [(zo14irriiiiiirriirrrrlriiii m0 th aS aI im (nI a) (nI p_42) (nI E) 0 0 aB aT se dn aG aO aN aD bv aY rn kd nu tv), (zaI aS cS 901 fS9_39)]) [0, 1] rfl
          have hDc := hD.sub (ws' := [(zo14irriiiiiirriirrrrlriiii m0 th aS aI im (nI a) (nI p_42) (nI E) 0 0 aB aT se dn aG aO aN aD bv aY rn kd nu tv), (zaI aS cS 901 fS9_39)]) [0, 1] (by decide) rfl
          have hKc := hK.sub (tys' := [(cS, .int)]) [0] rfl
          have hFc := va_free (wc := [(zo14irriiiiiirriirrrrlriiii m0 th aS aI im (nI a) (nI p_42) (nI E) 0 0 aB aT se dn aG aO aN aD bv aY rn kd nu tv), (zaI aS cS 901 fS9_39)]) hD hS hA [0, 1] rfl
          refine va_callv (va_runV (As := [.int ((nI 0 - nI KK) - (nI v_11))]) (rest := []) ⟨hx, hb, hml, hown, hts⟩ (c_emits l dC dI m0 aS aI aB aT aG aO aN aD aY th im (nI a) (nI p_42) (nI E) 0 0 se dn rn kd nu tv bv cS fS9_39 a (K ++ L_43).length ((nI 0 - nI KK) - (nI v_11)) H.size (ga) ((hI_49).2.2.2.1) (by have := (hI_49).2.2.2.2.1; omega)) (cwV 1 hts gX12_much_X12_emits rfl rfl rfl hd_yX12_emits ⟨Nat.le_of_ble_eq_true rfl, Nat.le_of_ble_eq_true rfl⟩) ⟨fun a U g mk q => by obtain ⟨q0, q1, qP, qK, qD⟩ := q; exact ⟨q0, mvz g mk a q1, mvP g mk a qP, mvK g mk a qK, qD⟩, va_recv hK hP (ci := 14) (q := (RX12, TX12, 23)) (q0 := 0) rfl rfl, fun U hU hW => ⟨rfl, by rw [hU], by rw [hU]; exact hPc, va_K.moved hW.alike hKc, hDc.weaken (fun _ _ _ _ => trivial)⟩⟩ rfl rfl hl.1 rfl (lv_room (Nat.le_of_ble_eq_true rfl)) dX12_much_24 ⟨Nat.le_of_ble_eq_true rfl, Nat.le_of_ble_eq_true rfl⟩) hS (fun q _ h => hFc q h) hFc (fun u tC H1 locs htC hvm hw_54 hB hz1 hk1 hS => ?_)
          obtain ⟨fS9_55, rfl⟩ : ∃ z, z = u := ⟨_, rfl⟩
          try dsimp only at hw_54 hB
          obtain ⟨hP1, hK1, hD1⟩ := hB
          rw [htC] at hP1
          have hK1 := va_K.moved hvm.symm hK1
          obtain ⟨hP, hD⟩ := va_join (wr := []) (w1 := [(zo14irriiiiiirriirrrrlriiii m0 th aS aI im (nI a) (nI p_42) (nI E) 0 0 aB aT se dn aG aO aN aD bv aY rn kd nu tv), (zaI aS cS 901 fS9_55)]) hP hD [0, 1] [] rfl rfl (by decide) (by decide) hk1 hFc hP1 hD1
          have hK := (hK.sub (tys' := []) [] rfl).app hK1
          generalize H1 = H at hP hS ⊢
          have hP : va_P (dC, dI) vwCl [(zo14irriiiiiirriirrrrlriiii m0 th aS aI im (nI a) (nI p_42) (nI E) 0 0 aB aT se dn aG aO aN aD bv aY rn kd nu tv), (zaI aS cS 901 fS9_55)] H := hP
          have hD : va_D A [(zo14irriiiiiirriirrrrlriiii m0 th aS aI im (nI a) (nI p_42) (nI E) 0 0 aB aT se dn aG aO aN aD bv aY rn kd nu tv), (zaI aS cS 901 fS9_55)] := hD
          have hK : va_K (dC, dI) vwCl [(cS, .int)] s := hK
          obtain rfl : fS9_55 = emt fS9_39 a (K ++ L_43).length ((nI 0 - nI KK) - (nI v_11)) := by rcases hw_54 with ⟨q, _⟩ | ⟨_, q⟩; exact absurd rfl q; exact q
          have hI_56 : PI (emt fS9_39 a (K ++ L_43).length ((nI 0 - nI KK) - (nI v_11))) a ((K ++ L_43) ++ [2000 + 100 * wd + v_11]) 0 p_42 E := PI.em (t := 2000 + 100 * wd + v_11) ((hI_49).mono (by omega) (by omega)) (by omega) (by omega) (clause_sd (by omega) (by omega)) (rcd_c hKK (by omega))
          have hF_57 : PF a fS (emt fS9_39 a (K ++ L_43).length ((nI 0 - nI KK) - (nI v_11))) := ((PF.rf).tr hF_47).tr (PF_emt (k := (K ++ L_43).length) (x := (nI 0 - nI KK) - (nI v_11)) ga (by have := (hI_49).2.2.2.2.1; omega))
          have hKhI_56 : ((K ++ L_43) ++ [2000 + 100 * wd + v_11]).length = (K ++ L_43).length + 1 := by rw [List.length_append]; rfl
          rw [hQ]
          have hP9 := hP.sub (ws' := [(zo14irriiiiiirriirrrrlriiii m0 th aS aI im (nI a) (nI p_42) (nI E) 0 0 aB aT se dn aG aO aN aD bv aY rn kd nu tv), (zaI aS cS 901 (emt fS9_39 a (K ++ L_43).length ((nI 0 - nI KK) - (nI v_11))))]) [0, 1] rfl
          have hD9 := hD.sub (ws' := [(zo14irriiiiiirriirrrrlriiii m0 th aS aI im (nI a) (nI p_42) (nI E) 0 0 aB aT se dn aG aO aN aD bv aY rn kd nu tv), (zaI aS cS 901 (emt fS9_39 a (K ++ L_43).length ((nI 0 - nI KK) - (nI v_11))))]) [0, 1] (by decide) rfl
          have hK9 := hK.sub (tys' := [(cS, .int)]) [0] rfl
          exact W.vret hx hb hr (fun tQ htQ hWQ => ⟨⟨((emt fS9_39 a (K ++ L_43).length ((nI 0 - nI KK) - (nI v_11))), (nI p_42), 0), rfl, ⟨p_42, rfl, by omega, by omega, hF_57, Or.inr ⟨rfl, v_11, L_43, pm_5 hm_6 hN hs32 eP_44, PI.as hI_56⟩⟩, by rw [htQ]; exact hP9, va_K.moved hWQ.alike hK9, hD9⟩, hS.F htQ⟩) hS.2.2 dX12_much_27
  · skip
    refine lv_aload_n hx hb dX12_much_5 rfl (lv_at hl 0 rfl) ?_
    have hPc := hP.sub (ws' := [(zo14irriiiiiirriirrrrlriiii m0 th aS aI im (nI a) (nI (p0 + mlen ss (p0) (sTx i))) (nI E) 1 0 aB aT se dn aG aO aN aD bv aY rn kd nu tv), (zaI aS cS 901 fS)]) [0, 1] rfl
    have hDc := hD.sub (ws' := [(zo14irriiiiiirriirrrrlriiii m0 th aS aI im (nI a) (nI (p0 + mlen ss (p0) (sTx i))) (nI E) 1 0 aB aT se dn aG aO aN aD bv aY rn kd nu tv), (zaI aS cS 901 fS)]) [0, 1] (by decide) rfl
    have hKc := hK.sub (tys' := [(cS, .int)]) [0] rfl
    have hFc := va_free (wc := [(zo14irriiiiiirriirrrrlriiii m0 th aS aI im (nI a) (nI (p0 + mlen ss (p0) (sTx i))) (nI E) 1 0 aB aT se dn aG aO aN aD bv aY rn kd nu tv), (zaI aS cS 901 fS)]) hD hS hA [0, 1] rfl
    refine va_calli (va_runV (As := []) (rest := []) ⟨hx, hb, hml, hown, hts⟩ (c_figures l dC dI m0 aS aI aB aT aG aO aN aD aY th im (nI a) (nI (p0 + mlen ss (p0) (sTx i))) (nI E) 1 0 se dn rn kd nu tv bv cS fS a (p0 + mlen ss (p0) (sTx i)) E ss H.size (by omega) (by omega) (by omega) (Or.inr rfl) (gT)) (cwV 0 hts gX12_much_X12_figures rfl rfl rfl hd_yX12_figures ⟨Nat.le_of_ble_eq_true rfl, Nat.le_of_ble_eq_true rfl⟩) ⟨fun a U g mk q => by obtain ⟨q0, q1, qP, qK, qD⟩ := q; exact ⟨q0, mvz g mk a q1, mvP g mk a qP, mvK g mk a qK, qD⟩, va_recv hK hP (ci := 14) (q := (RX12, TX12, 23)) (q0 := 0) rfl rfl, fun U hU hW => ⟨rfl, by rw [hU], by rw [hU]; exact hPc, va_K.moved hW.alike hKc, hDc.weaken (fun _ _ _ _ => trivial)⟩⟩ rfl rfl hl.1 rfl (lv_room (Nat.le_of_ble_eq_true rfl)) dX12_much_6 ⟨Nat.le_of_ble_eq_true rfl, Nat.le_of_ble_eq_true rfl⟩) hS (fun q _ h => hFc q h) hFc (fun r_58 u tC H1 locs htC hvm hw_59 hB hz1 hk1 hS => ?_)
    obtain ⟨sp9_60, wg9_61⟩ := u
    try dsimp only at hw_59 hB
    obtain ⟨hP1, hK1, hD1⟩ := hB
    rw [htC] at hP1
    have hK1 := va_K.moved hvm.symm hK1
    obtain ⟨hP, hD⟩ := va_join (wr := []) (w1 := [(zo14irriiiiiirriirrrrlriiii m0 th aS aI im (nI a) sp9_60 (nI E) wg9_61 0 aB aT se dn aG aO aN aD bv aY rn kd nu tv), (zaI aS cS 901 fS)]) hP hD [0, 1] [] rfl rfl (by decide) (by decide) hk1 hFc hP1 hD1
    have hK := (hK.sub (tys' := []) [] rfl).app hK1
    generalize H1 = H at hP hS ⊢
    have hP : va_P (dC, dI) vwCl [(zo14irriiiiiirriirrrrlriiii m0 th aS aI im (nI a) sp9_60 (nI E) wg9_61 0 aB aT se dn aG aO aN aD bv aY rn kd nu tv), (zaI aS cS 901 fS)] H := hP
    have hD : va_D A [(zo14irriiiiiirriirrrrlriiii m0 th aS aI im (nI a) sp9_60 (nI E) wg9_61 0 aB aT se dn aG aO aN aD bv aY rn kd nu tv), (zaI aS cS 901 fS)] := hD
    have hK : va_K (dC, dI) vwCl [(cS, .int)] s := hK
    rcases hw_59 with ⟨rfl, rfl, hN_69, v_62, h_64, rfl⟩ | ⟨rfl, h_68, v_62, p_63, h_64, h_65, h_66, rfl, rfl, hN_69⟩
    · skip
      refine lv_istore_n (lv' := [(3, .int (nI v_62)), (0, .ref m0), (1, .int (nI 0 - nI KK)), (2, .ref (sK i))]) hx hb dX12_much_9 rfl hl (by decide) rfl (fun ls hl => ?_)
      refine lv_aload_n hx hb dX12_much_10 rfl (lv_at hl 1 rfl) ?_
      refine lv_bipush (v := 32) hx hb dX12_much_11 (by decide) ?_
      have hPc := hP.sub (ws' := [(zo14irriiiiiirriirrrrlriiii m0 th aS aI im (nI a) (nI (p0 + mlen ss (p0) (sTx i))) (nI E) 1 0 aB aT se dn aG aO aN aD bv aY rn kd nu tv), (zaI aS cS 901 fS)]) [0, 1] rfl
      have hDc := hD.sub (ws' := [(zo14irriiiiiirriirrrrlriiii m0 th aS aI im (nI a) (nI (p0 + mlen ss (p0) (sTx i))) (nI E) 1 0 aB aT se dn aG aO aN aD bv aY rn kd nu tv), (zaI aS cS 901 fS)]) [0, 1] (by decide) rfl
      have hKc := hK.sub (tys' := [(cS, .int)]) [0] rfl
      have hFc := va_free (wc := [(zo14irriiiiiirriirrrrlriiii m0 th aS aI im (nI a) (nI (p0 + mlen ss (p0) (sTx i))) (nI E) 1 0 aB aT se dn aG aO aN aD bv aY rn kd nu tv), (zaI aS cS 901 fS)]) hD hS hA [0, 1] rfl
      refine va_callv (va_runV (As := [.int 32]) (rest := []) ⟨hx, hb, hml, hown, hts⟩ (c_must l dC dI m0 aS aI aB aT aG aO aN aD aY th im (nI a) (nI (p0 + mlen ss (p0) (sTx i))) (nI E) 1 0 se dn rn kd nu tv bv cS fS a (p0 + mlen ss (p0) (sTx i)) E 32 H.size (by omega) (by omega) (by omega) (Or.inr rfl) (by decide)) (cwV 1 hts gX12_much_X12_must rfl rfl rfl hd_yX12_must ⟨Nat.le_of_ble_eq_true rfl, Nat.le_of_ble_eq_true rfl⟩) ⟨fun a U g mk q => by obtain ⟨q0, q1, qP, qK, qD⟩ := q; exact ⟨q0, mvz g mk a q1, mvP g mk a qP, mvK g mk a qK, qD⟩, va_recv hK hP (ci := 14) (q := (RX12, TX12, 23)) (q0 := 0) rfl rfl, fun U hU hW => ⟨rfl, by rw [hU], by rw [hU]; exact hPc, va_K.moved hW.alike hKc, hDc.weaken (fun _ _ _ _ => trivial)⟩⟩ rfl rfl hl.1 rfl (lv_room (Nat.le_of_ble_eq_true rfl)) dX12_much_13 ⟨Nat.le_of_ble_eq_true rfl, Nat.le_of_ble_eq_true rfl⟩) hS (fun q _ h => hFc q h) hFc (fun u tC H1 locs htC hvm hw_71 hB hz1 hk1 hS => ?_)
      obtain ⟨sp9_72, wg9_73⟩ := u
      try dsimp only at hw_71 hB
      obtain ⟨hP1, hK1, hD1⟩ := hB
      rw [htC] at hP1
      have hK1 := va_K.moved hvm.symm hK1
      obtain ⟨hP, hD⟩ := va_join (wr := []) (w1 := [(zo14irriiiiiirriirrrrlriiii m0 th aS aI im (nI a) sp9_72 (nI E) wg9_73 0 aB aT se dn aG aO aN aD bv aY rn kd nu tv), (zaI aS cS 901 fS)]) hP hD [0, 1] [] rfl rfl (by decide) (by decide) hk1 hFc hP1 hD1
      have hK := (hK.sub (tys' := []) [] rfl).app hK1
      generalize H1 = H at hP hS ⊢
      have hP : va_P (dC, dI) vwCl [(zo14irriiiiiirriirrrrlriiii m0 th aS aI im (nI a) sp9_72 (nI E) wg9_73 0 aB aT se dn aG aO aN aD bv aY rn kd nu tv), (zaI aS cS 901 fS)] H := hP
      have hD : va_D A [(zo14irriiiiiirriirrrrlriiii m0 th aS aI im (nI a) sp9_72 (nI E) wg9_73 0 aB aT se dn aG aO aN aD bv aY rn kd nu tv), (zaI aS cS 901 fS)] := hD
      have hK : va_K (dC, dI) vwCl [(cS, .int)] s := hK
      obtain ⟨rfl, rfl⟩ : _ ∧ _ := by rcases hw_71 with ⟨q, q2, _⟩ | ⟨_, q, _⟩; exact ⟨q, q2⟩; exact absurd q (by decide)
      refine lv_aload_n hx hb dX12_much_16 rfl (lv_at hl 1 rfl) ?_
      have hPc := hP.sub (ws' := [(zo14irriiiiiirriirrrrlriiii m0 th aS aI im (nI a) (nI (p0 + mlen ss (p0) (sTx i))) (nI E) 1 0 aB aT se dn aG aO aN aD bv aY rn kd nu tv)]) [0] rfl
      have hKc := hK.sub (tys' := []) [] rfl
      refine va_csv (va_runV (As := []) (rest := []) ⟨hx, hb, hml, hown, hts⟩ (c_someW l dC dI m0 aS aI aB aT aG aO aN aD aY th im (nI a) (nI (p0 + mlen ss (p0) (sTx i))) (nI E) 1 0 se dn rn kd nu tv bv) (cwV 0 hts gX12_much_X12_some rfl rfl rfl hd_yX12_some ⟨Nat.le_of_ble_eq_true rfl, Nat.le_of_ble_eq_true rfl⟩) ⟨fun a U g mk q => by obtain ⟨q0, qP, qK⟩ := q; exact ⟨q0, mvP g mk a qP, mvK g mk a qK⟩, va_recv hK hP (ci := 14) (q := (RX12, TX12, 23)) (q0 := 0) rfl rfl, fun U hU hW => ⟨rfl, by rw [hU]; exact hPc, va_K.moved hW.alike hKc⟩⟩ rfl rfl hl.1 rfl (lv_room (Nat.le_of_ble_eq_true rfl)) dX12_much_17 ⟨Nat.le_of_ble_eq_true rfl, Nat.le_of_ble_eq_true rfl⟩).run (fun hw_75 => ?_)
      refine lv_aload_n hx hb dX12_much_20 rfl (lv_at hl 1 rfl) ?_
      refine lv_iload_n hx hb dX12_much_21 rfl (lv_at hl 2 rfl) ?_
      refine lv_iload_n hx hb dX12_much_22 rfl (lv_at hl 0 rfl) ?_
      refine lv_isub hx hb dX12_much_23 ?_
      have hPc := hP.sub (ws' := [(zo14irriiiiiirriirrrrlriiii m0 th aS aI im (nI a) (nI (p0 + mlen ss (p0) (sTx i))) (nI E) 1 0 aB aT se dn aG aO aN aD bv aY rn kd nu tv)]) [0] rfl
      have hKc := hK.sub (tys' := []) [] rfl
      refine va_csv (va_runV (As := [.int ((nI 0 - nI KK) - (nI v_62))]) (rest := []) ⟨hx, hb, hml, hown, hts⟩ (c_emitsW l dC dI m0 aS aI aB aT aG aO aN aD aY th im (nI a) (nI (p0 + mlen ss (p0) (sTx i))) (nI E) 1 0 se dn rn kd nu tv bv ((nI 0 - nI KK) - (nI v_62))) (cwV 1 hts gX12_much_X12_emits rfl rfl rfl hd_yX12_emits ⟨Nat.le_of_ble_eq_true rfl, Nat.le_of_ble_eq_true rfl⟩) ⟨fun a U g mk q => by obtain ⟨q0, qP, qK⟩ := q; exact ⟨q0, mvP g mk a qP, mvK g mk a qK⟩, va_recv hK hP (ci := 14) (q := (RX12, TX12, 23)) (q0 := 0) rfl rfl, fun U hU hW => ⟨rfl, by rw [hU]; exact hPc, va_K.moved hW.alike hKc⟩⟩ rfl rfl hl.1 rfl (lv_room (Nat.le_of_ble_eq_true rfl)) dX12_much_24 ⟨Nat.le_of_ble_eq_true rfl, Nat.le_of_ble_eq_true rfl⟩).run (fun hw_77 => ?_)
      rw [hQ]
      have hP9 := hP.sub (ws' := [(zo14irriiiiiirriirrrrlriiii m0 th aS aI im (nI a) (nI (p0 + mlen ss (p0) (sTx i))) (nI E) 1 0 aB aT se dn aG aO aN aD bv aY rn kd nu tv), (zaI aS cS 901 fS)]) [0, 1] rfl
      have hD9 := hD.sub (ws' := [(zo14irriiiiiirriirrrrlriiii m0 th aS aI im (nI a) (nI (p0 + mlen ss (p0) (sTx i))) (nI E) 1 0 aB aT se dn aG aO aN aD bv aY rn kd nu tv), (zaI aS cS 901 fS)]) [0, 1] (by decide) rfl
      have hK9 := hK.sub (tys' := [(cS, .int)]) [0] rfl
      exact W.vret hx hb hr (fun tQ htQ hWQ => ⟨⟨(fS, (nI (p0 + mlen ss (p0) (sTx i))), 1), rfl, ⟨p0 + mlen ss (p0) (sTx i), rfl, by omega, by omega, PF.rf, Or.inl ⟨rfl, pm_1 (fun z => by omega)⟩⟩, by rw [htQ]; exact hP9, va_K.moved hWQ.alike hK9, hD9⟩, hS.F htQ⟩) hS.2.2 dX12_much_27
    · skip
      exact absurd h_68 (by decide)
end mg13a
section mg13a
theorem ggX12_clauseOfS_X12_must : GoodIn wsX12_clauseOfS wsX12_must := gga_of 1237 rfl rfl rfl
theorem gX12_clauseOfS_X12_must : GoodIn wsX12_clauseOfS (wsV RX12 82 RX12 yX12_must wsX12_must) := goodIn_app (ggh_of [1234, 1236, 24, 72] rfl rfl rfl) ggX12_clauseOfS_X12_must
theorem ggX12_clauseOfS_X12_here : GoodIn wsX12_clauseOfS wsX12_here := gga_of 1229 rfl rfl rfl
theorem gX12_clauseOfS_X12_here : GoodIn wsX12_clauseOfS (wsV RX12 69 RX12 yX12_here wsX12_here) := goodIn_app (ggh_of [1226, 1228, 22, 72] rfl rfl rfl) ggX12_clauseOfS_X12_here
theorem ggX12_clauseOfS_X12_spells : GoodIn wsX12_clauseOfS wsX12_spells := gga_of 1246 rfl rfl rfl
theorem gX12_clauseOfS_X12_spells : GoodIn wsX12_clauseOfS (wsV RX12 115 RX12 yX12_spells wsX12_spells) := goodIn_app (ggh_of [1243, 1245, 26, 72] rfl rfl rfl) ggX12_clauseOfS_X12_spells
theorem ggX12_clauseOfS_X12_figures : GoodIn wsX12_clauseOfS wsX12_figures := gga_of 1252 rfl rfl rfl
theorem gX12_clauseOfS_X12_figures : GoodIn wsX12_clauseOfS (wsV RX12 109 RX12 yX12_figures wsX12_figures) := goodIn_app (ggh_of [1249, 1251, 27, 72] rfl rfl rfl) ggX12_clauseOfS_X12_figures
theorem ggX12_clauseOfS_X12_much : GoodIn wsX12_clauseOfS wsX12_much := gga_of 1242 rfl rfl rfl
theorem gX12_clauseOfS_X12_much : GoodIn wsX12_clauseOfS (wsV RX12 121 RX12 yX12_much wsX12_much) := goodIn_app (ggh_of [1239, 1241, 25, 72] rfl rfl rfl) ggX12_clauseOfS_X12_much
noncomputable def dk13bhill_cX12_clauseOfS_0 : List (Nat × List Nat) := [(0, [42]), (1, [16, 115]), (3, [182, 0, 82]), (6, [42]), (7, [182, 0, 69]), (10, [16, 101]), (12, [160, 0, 12]), (15, [42]), (16, [16, 246]), (18, [18, 119]), (20, [182, 0, 121]), (23, [177]), (24, [42]), (25, [18, 125]), (27, [182, 0, 115]), (30, [42]), (31, [182, 0, 109]), (34, [60]), (35, [42]), (36, [180, 0, 65]), (39, [154, 0, 17]), (42, [42]), (43, [180, 0, 9]), (46, [17, 0, 191]), (49, [42]), (50, [180, 0, 86]), (53, [96]), (54, [27]), (55, [79]), (56, [177])]
set_option maxRecDepth 100000 in
theorem dk13bhill_cX12_clauseOfS_0_a : btA cX12_clauseOfS dk13bhill_cX12_clauseOfS_0 = true := by decide +kernel
theorem dX12_clauseOfS_0 : decode cX12_clauseOfS 0 = .ok (.aload_n 0, 1) := bd42 (btAt dk13bhill_cX12_clauseOfS_0_a 0 rfl)
theorem dX12_clauseOfS_1 : decode cX12_clauseOfS 1 = .ok (.bipush 115, 2) := bd16 (a := 115) (btAt dk13bhill_cX12_clauseOfS_0_a 1 rfl)
theorem dX12_clauseOfS_3 : decode cX12_clauseOfS 3 = .ok (.invokevirtual 82, 3) := bd182 (a := 0) (b := 82) (btAt dk13bhill_cX12_clauseOfS_0_a 2 rfl)
theorem dX12_clauseOfS_6 : decode cX12_clauseOfS 6 = .ok (.aload_n 0, 1) := bd42 (btAt dk13bhill_cX12_clauseOfS_0_a 3 rfl)
theorem dX12_clauseOfS_7 : decode cX12_clauseOfS 7 = .ok (.invokevirtual 69, 3) := bd182 (a := 0) (b := 69) (btAt dk13bhill_cX12_clauseOfS_0_a 4 rfl)
theorem dX12_clauseOfS_10 : decode cX12_clauseOfS 10 = .ok (.bipush 101, 2) := bd16 (a := 101) (btAt dk13bhill_cX12_clauseOfS_0_a 5 rfl)
theorem dX12_clauseOfS_12 : decode cX12_clauseOfS 12 = .ok (.if_icmp .ne 12, 3) := bd160 (a := 0) (b := 12) (btAt dk13bhill_cX12_clauseOfS_0_a 6 rfl)
theorem dX12_clauseOfS_15 : decode cX12_clauseOfS 15 = .ok (.aload_n 0, 1) := bd42 (btAt dk13bhill_cX12_clauseOfS_0_a 7 rfl)
theorem dX12_clauseOfS_16 : decode cX12_clauseOfS 16 = .ok (.bipush (-10), 2) := bd16 (a := 246) (btAt dk13bhill_cX12_clauseOfS_0_a 8 rfl)
theorem dX12_clauseOfS_18 : decode cX12_clauseOfS 18 = .ok (.ldc 119, 2) := bd18 (a := 119) (btAt dk13bhill_cX12_clauseOfS_0_a 9 rfl)
theorem dX12_clauseOfS_20 : decode cX12_clauseOfS 20 = .ok (.invokevirtual 121, 3) := bd182 (a := 0) (b := 121) (btAt dk13bhill_cX12_clauseOfS_0_a 10 rfl)
theorem dX12_clauseOfS_23 : decode cX12_clauseOfS 23 = .ok (.return_, 1) := bd177 (btAt dk13bhill_cX12_clauseOfS_0_a 11 rfl)
theorem dX12_clauseOfS_24 : decode cX12_clauseOfS 24 = .ok (.aload_n 0, 1) := bd42 (btAt dk13bhill_cX12_clauseOfS_0_a 12 rfl)
theorem dX12_clauseOfS_25 : decode cX12_clauseOfS 25 = .ok (.ldc 125, 2) := bd18 (a := 125) (btAt dk13bhill_cX12_clauseOfS_0_a 13 rfl)
theorem dX12_clauseOfS_27 : decode cX12_clauseOfS 27 = .ok (.invokevirtual 115, 3) := bd182 (a := 0) (b := 115) (btAt dk13bhill_cX12_clauseOfS_0_a 14 rfl)
theorem dX12_clauseOfS_30 : decode cX12_clauseOfS 30 = .ok (.aload_n 0, 1) := bd42 (btAt dk13bhill_cX12_clauseOfS_0_a 15 rfl)
theorem dX12_clauseOfS_31 : decode cX12_clauseOfS 31 = .ok (.invokevirtual 109, 3) := bd182 (a := 0) (b := 109) (btAt dk13bhill_cX12_clauseOfS_0_a 16 rfl)
theorem dX12_clauseOfS_34 : decode cX12_clauseOfS 34 = .ok (.istore_n 1, 1) := bd60 (btAt dk13bhill_cX12_clauseOfS_0_a 17 rfl)
theorem dX12_clauseOfS_35 : decode cX12_clauseOfS 35 = .ok (.aload_n 0, 1) := bd42 (btAt dk13bhill_cX12_clauseOfS_0_a 18 rfl)
theorem dX12_clauseOfS_36 : decode cX12_clauseOfS 36 = .ok (.getfield 65, 3) := bd180 (a := 0) (b := 65) (btAt dk13bhill_cX12_clauseOfS_0_a 19 rfl)
theorem dX12_clauseOfS_39 : decode cX12_clauseOfS 39 = .ok (.ifCond .ne 17, 3) := bd154 (a := 0) (b := 17) (btAt dk13bhill_cX12_clauseOfS_0_a 20 rfl)
theorem dX12_clauseOfS_42 : decode cX12_clauseOfS 42 = .ok (.aload_n 0, 1) := bd42 (btAt dk13bhill_cX12_clauseOfS_0_a 21 rfl)
theorem dX12_clauseOfS_43 : decode cX12_clauseOfS 43 = .ok (.getfield 9, 3) := bd180 (a := 0) (b := 9) (btAt dk13bhill_cX12_clauseOfS_0_a 22 rfl)
theorem dX12_clauseOfS_46 : decode cX12_clauseOfS 46 = .ok (.sipush 191, 3) := bd17 (a := 0) (b := 191) (btAt dk13bhill_cX12_clauseOfS_0_a 23 rfl)
theorem dX12_clauseOfS_49 : decode cX12_clauseOfS 49 = .ok (.aload_n 0, 1) := bd42 (btAt dk13bhill_cX12_clauseOfS_0_a 24 rfl)
theorem dX12_clauseOfS_50 : decode cX12_clauseOfS 50 = .ok (.getfield 86, 3) := bd180 (a := 0) (b := 86) (btAt dk13bhill_cX12_clauseOfS_0_a 25 rfl)
theorem dX12_clauseOfS_53 : decode cX12_clauseOfS 53 = .ok (.iadd, 1) := bd96 (btAt dk13bhill_cX12_clauseOfS_0_a 26 rfl)
theorem dX12_clauseOfS_54 : decode cX12_clauseOfS 54 = .ok (.iload_n 1, 1) := bd27 (btAt dk13bhill_cX12_clauseOfS_0_a 27 rfl)
theorem dX12_clauseOfS_55 : decode cX12_clauseOfS 55 = .ok (.iastore, 1) := bd79 (btAt dk13bhill_cX12_clauseOfS_0_a 28 rfl)
theorem dX12_clauseOfS_56 : decode cX12_clauseOfS 56 = .ok (.return_, 1) := bd177 (btAt dk13bhill_cX12_clauseOfS_0_a 29 rfl)
theorem kc_clauseOfS_0 : ∀ w ∈ wsX120, w ∈ wsX12_clauseOfS := fun w h => List.mem_cons_of_mem _ (gin_wsX120 w h)
theorem kc_clauseOfS_1 : (.fieldLink RX12 65 "MistHeapsModel" "isWrong" "Z" : Cond) ∈ wsX12_clauseOfS := kc_of 1147 rfl rfl rfl
theorem kc_clauseOfS_2 : (.fieldLink RX12 9 "MistHeapsModel" "s" "[I" : Cond) ∈ wsX12_clauseOfS := kc_of 1141 rfl rfl rfl
theorem kc_clauseOfS_3 : (.fieldLink RX12 86 "MistHeapsModel" "act" "I" : Cond) ∈ wsX12_clauseOfS := kc_of 1144 rfl rfl rfl
set_option maxHeartbeats 4000000 in
set_option maxRecDepth 100000 in
theorem c_clauseOfS (l : Launch) (dC : Nat → ClassId) (dI : Nat → Nat → Nat) (sK sV : Nat → Nat) (m0 aS aI aB aT aG aO aN aD aY : Nat) (th im ac sp en wg op se dn rn kd nu tv : Int32) (bv : Int64) (cS : ClassId) (fS : Nat → Int32) (a p0 E : Nat) (K : List Nat) (ss : Nat → Nat) (sz : Nat) (ga : a < 5) (gE : E ≤ 100) (gp : p0 ≤ E) (gI : PI fS a K 0 p0 E) (gT : TP fS E ss) (g115 : ss p0 = 115) : Met l yX12_clauseOfS wsX12_clauseOfS ({ frames := 24, cells := 0, slots := 0, locals := 514 } : Room) (va_Pc [.ref m0] (fun U => U.heap.size = sz ∧ va_P (dC, dI) vwCl [(zo14irriiiiiirriirrrrlriiii m0 th aS aI im (nI a) (nI p0) (nI E) 0 0 aB aT se dn aG aO aN aD bv aY rn kd nu tv), (zaI aS cS 901 fS)] U.heap ∧ va_K (dC, dI) vwCl [(cS, .int)] U ∧ va_D (fun _ => True) [(zo14irriiiiiirriirrrrlriiii m0 th aS aI im (nI a) (nI p0) (nI E) 0 0 aB aT se dn aG aO aN aD bv aY rn kd nu tv), (zaI aS cS 901 fS)] ∧ Gs sK sV (va_A [(zo14irriiiiiirriirrrrlriiii m0 th aS aI im (nI a) (nI p0) (nI E) 0 0 aB aT se dn aG aO aN aD bv aY rn kd nu tv), (zaI aS cS 901 fS)] sz) U)) (va_Qv (fun (u : (Nat → Int32) × (Int32) × (Int32)) => match u with | (fS9, sp9, wg9) => ∃ p9 : Nat, sp9 = nI p9 ∧ p0 ≤ p9 ∧ p9 ≤ E ∧ PQ a fS fS9 ∧ ((wg9 = 1 ∧ pCl ss p0 = (none, p9)) ∨ (wg9 = 0 ∧ ∃ c9 : pCla, pCl ss p0 = (some c9, p9) ∧ PI fS9 a (K ++ fl1 c9) 0 p9 E ∧ fS9 (191 + a) = if c9.1 = 2 then nI c9.2.1 else fS (191 + a)))) (fun (u : (Nat → Int32) × (Int32) × (Int32)) (t : State) => match u with | (fS9, sp9, wg9) => va_P (dC, dI) vwCl [(zo14irriiiiiirriirrrrlriiii m0 th aS aI im (nI a) sp9 (nI E) wg9 0 aB aT se dn aG aO aN aD bv aY rn kd nu tv), (zaI aS cS 901 fS9)] t.heap ∧ va_K (dC, dI) vwCl [(cS, .int)] t ∧ va_D (va_A [(zo14irriiiiiirriirrrrlriiii m0 th aS aI im (nI a) (nI p0) (nI E) 0 0 aB aT se dn aG aO aN aD bv aY rn kd nu tv), (zaI aS cS 901 fS)] sz) [(zo14irriiiiiirriirrrrlriiii m0 th aS aI im (nI a) sp9 (nI E) wg9 0 aB aT se dn aG aO aN aD bv aY rn kd nu tv), (zaI aS cS 901 fS9)]) (va_A [(zo14irriiiiiirriirrrrlriiii m0 th aS aI im (nI a) (nI p0) (nI E) 0 0 aB aT se dn aG aO aN aD bv aY rn kd nu tv), (zaI aS cS 901 fS)] sz)) 0 0 (va_A [(zo14irriiiiiirriirrrrlriiii m0 th aS aI im (nI a) (nI p0) (nI E) 0 0 aB aT se dn aG aO aN aD bv aY rn kd nu tv), (zaI aS cS 901 fS)] sz) := by
  refine met_ofQ (cc := cX12_clauseOfS) (maxL := 2) (ret := none) (by decide) rfl ?_
  intro p e s m args below meth c s₁ Q B hml hv hQ
  obtain ⟨rfl, hsz, hP, hK, hD0, hE⟩ := hv
  have hx := B.exec
  have hb := B.bytes
  have hr := B.returns
  have hts := atoms_spec (ws := wsX12_clauseOfS) B.pre
  have hown : s.vm.findClass RX12 = some m.cls := findClass_of_methodNamed B.named
  have hlocks := B.notSynchronized
  subst hsz
  have hD := hD0.self (sz := s.heap.size)
  generalize hAe : va_A [(zo14irriiiiiirriirrrrlriiii m0 th aS aI im (nI a) (nI p0) (nI E) 0 0 aB aT se dn aG aO aN aD bv aY rn kd nu tv), (zaI aS cS 901 fS)] s.heap.size = A at hD hQ hE ⊢
  have hA : ∀ q : Nat, s.heap.size ≤ q → A q := fun q h => by rw [← hAe]; exact Or.inr h
  have hS : va_S A s.heap s.heap [] := va_S.rf
  have hl := lv_entry [.ref m0] (n := 2) (Nat.le_of_ble_eq_true rfl)
  rw [lg_entry_eq]
  generalize (lg_sl [.ref m0] ++ List.replicate (2 - (lg_sl [.ref m0]).length) Slot.unset).toArray = ls at hl ⊢
  generalize hag : ([.ref m0] : List Value).toArray = args at hts hQ ⊢
  have hl : lv_has ls 2 [(0, .ref m0)] := hl
  obtain ⟨H, hH⟩ : ∃ H : Heap, H = s.heap := ⟨_, rfl⟩
  rw [← hH] at hP
  rw [← hH]
  have hS : va_S A s.heap H [] := by rw [hH]; exact hS
  obtain ⟨locs, hlo⟩ : ∃ L : List Loc, L = [] := ⟨_, rfl⟩
  rw [← hlo] at hS
  rw [← hlo]
  clear hH hlo
  have k5 := gI.2.2.2.2.1
  refine lv_aload_n hx hb dX12_clauseOfS_0 rfl (lv_at hl 0 rfl) ?_
  refine lv_bipush (v := 115) hx hb dX12_clauseOfS_1 (by decide) ?_
  have hPc := hP.sub (ws' := [(zo14irriiiiiirriirrrrlriiii m0 th aS aI im (nI a) (nI p0) (nI E) 0 0 aB aT se dn aG aO aN aD bv aY rn kd nu tv), (zaI aS cS 901 fS)]) [0, 1] rfl
  have hDc := hD.sub (ws' := [(zo14irriiiiiirriirrrrlriiii m0 th aS aI im (nI a) (nI p0) (nI E) 0 0 aB aT se dn aG aO aN aD bv aY rn kd nu tv), (zaI aS cS 901 fS)]) [0, 1] (by decide) rfl
  have hKc := hK.sub (tys' := [(cS, .int)]) [0] rfl
  have hFc := va_free (wc := [(zo14irriiiiiirriirrrrlriiii m0 th aS aI im (nI a) (nI p0) (nI E) 0 0 aB aT se dn aG aO aN aD bv aY rn kd nu tv), (zaI aS cS 901 fS)]) hD hS hA [0, 1] rfl
  refine va_callv (va_runV (As := [.int 115]) (rest := []) ⟨hx, hb, hml, hown, hts⟩ (c_must l dC dI m0 aS aI aB aT aG aO aN aD aY th im (nI a) (nI p0) (nI E) 0 0 se dn rn kd nu tv bv cS fS a p0 E 115 H.size (by omega) (by omega) (by omega) (Or.inl rfl) (by decide)) (cwV 1 hts gX12_clauseOfS_X12_must rfl rfl rfl hd_yX12_must ⟨Nat.le_of_ble_eq_true rfl, Nat.le_of_ble_eq_true rfl⟩) ⟨fun a U g mk q => by obtain ⟨q0, q1, qP, qK, qD⟩ := q; exact ⟨q0, mvz g mk a q1, mvP g mk a qP, mvK g mk a qK, qD⟩, va_recv hK hP (ci := 14) (q := (RX12, TX12, 23)) (q0 := 0) rfl rfl, fun U hU hW => ⟨rfl, by rw [hU], by rw [hU]; exact hPc, va_K.moved hW.alike hKc, hDc.weaken (fun _ _ _ _ => trivial)⟩⟩ rfl rfl hl.1 rfl (lv_room (Nat.le_of_ble_eq_true rfl)) dX12_clauseOfS_3 ⟨Nat.le_of_ble_eq_true rfl, Nat.le_of_ble_eq_true rfl⟩) hS (fun q _ h => hFc q h) hFc (fun u tC H1 locs htC hvm hw_2 hB hz1 hk1 hS => ?_)
  obtain ⟨sp9_3, wg9_4⟩ := u
  try dsimp only at hw_2 hB
  obtain ⟨hP1, hK1, hD1⟩ := hB
  rw [htC] at hP1
  have hK1 := va_K.moved hvm.symm hK1
  obtain ⟨hP, hD⟩ := va_join (wr := []) (w1 := [(zo14irriiiiiirriirrrrlriiii m0 th aS aI im (nI a) sp9_3 (nI E) wg9_4 0 aB aT se dn aG aO aN aD bv aY rn kd nu tv), (zaI aS cS 901 fS)]) hP hD [0, 1] [] rfl rfl (by decide) (by decide) hk1 hFc hP1 hD1
  have hK := (hK.sub (tys' := []) [] rfl).app hK1
  generalize H1 = H at hP hS ⊢
  have hP : va_P (dC, dI) vwCl [(zo14irriiiiiirriirrrrlriiii m0 th aS aI im (nI a) sp9_3 (nI E) wg9_4 0 aB aT se dn aG aO aN aD bv aY rn kd nu tv), (zaI aS cS 901 fS)] H := hP
  have hD : va_D A [(zo14irriiiiiirriirrrrlriiii m0 th aS aI im (nI a) sp9_3 (nI E) wg9_4 0 aB aT se dn aG aO aN aD bv aY rn kd nu tv), (zaI aS cS 901 fS)] := hD
  have hK : va_K (dC, dI) vwCl [(cS, .int)] s := hK
  obtain ⟨rfl, h_6, rfl⟩ : _ ∧ _ ∧ _ := by rcases hw_2 with ⟨_, _, q⟩ | ⟨q1, _, _, q2, q3⟩; exact absurd ((gT.eq (c := 115) (by omega) (by omega)).mpr g115) (q rfl); exact ⟨q1, q2, q3⟩
  refine lv_aload_n hx hb dX12_clauseOfS_6 rfl (lv_at hl 0 rfl) ?_
  have hPc := hP.sub (ws' := [(zo14irriiiiiirriirrrrlriiii m0 th aS aI im (nI a) (nI (p0 + 1)) (nI E) 0 0 aB aT se dn aG aO aN aD bv aY rn kd nu tv), (zaI aS cS 901 fS)]) [0, 1] rfl
  have hKc := hK.sub (tys' := [(cS, .int)]) [0] rfl
  refine vp_callSi (va_runV (As := []) (rest := []) ⟨hx, hb, hml, hown, hts⟩ (c_here l dC dI m0 aS aI aB aT aG aO aN aD aY th im (nI a) (nI (p0 + 1)) (nI E) 0 0 se dn rn kd nu tv bv cS fS a (p0 + 1) E (by omega) (by omega) (by omega)) (cwV 0 hts gX12_clauseOfS_X12_here rfl rfl rfl hd_yX12_here ⟨Nat.le_of_ble_eq_true rfl, Nat.le_of_ble_eq_true rfl⟩) ⟨fun a U g mk q => by obtain ⟨q0, qP, qK⟩ := q; exact ⟨q0, mvP g mk a qP, mvK g mk a qK⟩, va_recv hK hP (ci := 14) (q := (RX12, TX12, 23)) (q0 := 0) rfl rfl, fun U hU hW => ⟨rfl, by rw [hU]; exact hPc, va_K.moved hW.alike hKc⟩⟩ rfl rfl hl.1 rfl (lv_room (Nat.le_of_ble_eq_true rfl)) dX12_clauseOfS_7 ⟨Nat.le_of_ble_eq_true rfl, Nat.le_of_ble_eq_true rfl⟩).run (fun r_7 hw_8 => ?_)
  refine lv_bipush (v := 101) hx hb dX12_clauseOfS_10 (by decide) ?_
  refine lv_icmp_ne (tgt := 24) hx hb dX12_clauseOfS_12 (by decide) (fun c_9 => ?_) (fun c_9 => ?_)
  · skip
    have hs1 : ¬ ss (p0 + 1) = 101 := fun z => c_9 (by rw [hw_8]; exact (gT.eq (c := 101) (by omega) (by omega)).mpr z)
    refine lv_aload_n hx hb dX12_clauseOfS_24 rfl (lv_at hl 0 rfl) ?_
    refine va_ldcS hx hb hown (show vk_R RX12 125 "ight " (sK 9) s from hE.1 9 (by decide)) dX12_clauseOfS_25 ?_
    have hPc := hP.sub (ws' := [(zo14irriiiiiirriirrrrlriiii m0 th aS aI im (nI a) (nI (p0 + 1)) (nI E) 0 0 aB aT se dn aG aO aN aD bv aY rn kd nu tv), (zaI aS cS 901 fS)]) [0, 1] rfl
    have hDc := hD.sub (ws' := [(zo14irriiiiiirriirrrrlriiii m0 th aS aI im (nI a) (nI (p0 + 1)) (nI E) 0 0 aB aT se dn aG aO aN aD bv aY rn kd nu tv), (zaI aS cS 901 fS)]) [0, 1] (by decide) rfl
    have hKc := hK.sub (tys' := [(cS, .int)]) [0] rfl
    have hFc := va_free (wc := [(zo14irriiiiiirriirrrrlriiii m0 th aS aI im (nI a) (nI (p0 + 1)) (nI E) 0 0 aB aT se dn aG aO aN aD bv aY rn kd nu tv), (zaI aS cS 901 fS)]) hD hS hA [0, 1] rfl
    refine va_callv (va_runV (As := [.ref (sK 9)]) (rest := []) ⟨hx, hb, hml, hown, hts⟩ (c_spells l dC dI sK sV m0 aS aI aB aT aG aO aN aD aY th im (nI a) (nI (p0 + 1)) (nI E) 0 0 se dn rn kd nu tv bv cS fS a (p0 + 1) E 9 ss H.size (by omega) (by omega) (by omega) (by first | assumption | decide) (gT)) (cwV 1 hts gX12_clauseOfS_X12_spells rfl rfl rfl hd_yX12_spells ⟨Nat.le_of_ble_eq_true rfl, Nat.le_of_ble_eq_true rfl⟩) ⟨fun a U g mk q => by obtain ⟨q0, q1, qP, qK, qD, qhE⟩ := q; exact ⟨q0, mvz g mk a q1, mvP g mk a qP, mvK g mk a qK, qD, qhE.mv g mk a⟩, va_recv hK hP (ci := 14) (q := (RX12, TX12, 23)) (q0 := 0) rfl rfl, fun U hU hW => ⟨rfl, by rw [hU], by rw [hU]; exact hPc, va_K.moved hW.alike hKc, hDc.weaken (fun _ _ _ _ => trivial), hE.call hS hU hW (fun q h => hFc q h)⟩⟩ rfl rfl hl.1 rfl (lv_room (Nat.le_of_ble_eq_true rfl)) dX12_clauseOfS_27 ⟨Nat.le_of_ble_eq_true rfl, Nat.le_of_ble_eq_true rfl⟩) hS (fun q _ h => hFc q h) hFc (fun u tC H1 locs htC hvm hw_11 hB hz1 hk1 hS => ?_)
    obtain ⟨sp9_12, wg9_13⟩ := u
    try dsimp only at hw_11 hB
    obtain ⟨hP1, hK1, hD1⟩ := hB
    rw [htC] at hP1
    have hK1 := va_K.moved hvm.symm hK1
    obtain ⟨hP, hD⟩ := va_join (wr := []) (w1 := [(zo14irriiiiiirriirrrrlriiii m0 th aS aI im (nI a) sp9_12 (nI E) wg9_13 0 aB aT se dn aG aO aN aD bv aY rn kd nu tv), (zaI aS cS 901 fS)]) hP hD [0, 1] [] rfl rfl (by decide) (by decide) hk1 hFc hP1 hD1
    have hK := (hK.sub (tys' := []) [] rfl).app hK1
    generalize H1 = H at hP hS ⊢
    have hP : va_P (dC, dI) vwCl [(zo14irriiiiiirriirrrrlriiii m0 th aS aI im (nI a) sp9_12 (nI E) wg9_13 0 aB aT se dn aG aO aN aD bv aY rn kd nu tv), (zaI aS cS 901 fS)] H := hP
    have hD : va_D A [(zo14irriiiiiirriirrrrlriiii m0 th aS aI im (nI a) sp9_12 (nI E) wg9_13 0 aB aT se dn aG aO aN aD bv aY rn kd nu tv), (zaI aS cS 901 fS)] := hD
    have hK : va_K (dC, dI) vwCl [(cS, .int)] s := hK
    obtain ⟨h_14, rfl, q9⟩ := hw_11
    rcases q9 with ⟨rfl, hm_15⟩ | ⟨rfl, hm_15⟩
    · skip
      rw [hm_15] at hP hD
      rw [hm_15] at h_14
      have hP : va_P (dC, dI) vwCl [(zo14irriiiiiirriirrrrlriiii m0 th aS aI im (nI a) (nI (p0 + 1 + sLen 9)) (nI E) 0 0 aB aT se dn aG aO aN aD bv aY rn kd nu tv), (zaI aS cS 901 fS)] H := hP
      have hD : va_D A [(zo14irriiiiiirriirrrrlriiii m0 th aS aI im (nI a) (nI (p0 + 1 + sLen 9)) (nI E) 0 0 aB aT se dn aG aO aN aD bv aY rn kd nu tv), (zaI aS cS 901 fS)] := hD
      refine lv_aload_n hx hb dX12_clauseOfS_30 rfl (lv_at hl 0 rfl) ?_
      have hPc := hP.sub (ws' := [(zo14irriiiiiirriirrrrlriiii m0 th aS aI im (nI a) (nI (p0 + 1 + sLen 9)) (nI E) 0 0 aB aT se dn aG aO aN aD bv aY rn kd nu tv), (zaI aS cS 901 fS)]) [0, 1] rfl
      have hDc := hD.sub (ws' := [(zo14irriiiiiirriirrrrlriiii m0 th aS aI im (nI a) (nI (p0 + 1 + sLen 9)) (nI E) 0 0 aB aT se dn aG aO aN aD bv aY rn kd nu tv), (zaI aS cS 901 fS)]) [0, 1] (by decide) rfl
      have hKc := hK.sub (tys' := [(cS, .int)]) [0] rfl
      have hFc := va_free (wc := [(zo14irriiiiiirriirrrrlriiii m0 th aS aI im (nI a) (nI (p0 + 1 + sLen 9)) (nI E) 0 0 aB aT se dn aG aO aN aD bv aY rn kd nu tv), (zaI aS cS 901 fS)]) hD hS hA [0, 1] rfl
      refine va_calli (va_runV (As := []) (rest := []) ⟨hx, hb, hml, hown, hts⟩ (c_figures l dC dI m0 aS aI aB aT aG aO aN aD aY th im (nI a) (nI (p0 + 1 + sLen 9)) (nI E) 0 0 se dn rn kd nu tv bv cS fS a (p0 + 1 + sLen 9) E ss H.size (by omega) (by omega) (by omega) (Or.inl rfl) (gT)) (cwV 0 hts gX12_clauseOfS_X12_figures rfl rfl rfl hd_yX12_figures ⟨Nat.le_of_ble_eq_true rfl, Nat.le_of_ble_eq_true rfl⟩) ⟨fun a U g mk q => by obtain ⟨q0, q1, qP, qK, qD⟩ := q; exact ⟨q0, mvz g mk a q1, mvP g mk a qP, mvK g mk a qK, qD⟩, va_recv hK hP (ci := 14) (q := (RX12, TX12, 23)) (q0 := 0) rfl rfl, fun U hU hW => ⟨rfl, by rw [hU], by rw [hU]; exact hPc, va_K.moved hW.alike hKc, hDc.weaken (fun _ _ _ _ => trivial)⟩⟩ rfl rfl hl.1 rfl (lv_room (Nat.le_of_ble_eq_true rfl)) dX12_clauseOfS_31 ⟨Nat.le_of_ble_eq_true rfl, Nat.le_of_ble_eq_true rfl⟩) hS (fun q _ h => hFc q h) hFc (fun r_16 u tC H1 locs htC hvm hw_17 hB hz1 hk1 hS => ?_)
      obtain ⟨sp9_18, wg9_19⟩ := u
      try dsimp only at hw_17 hB
      obtain ⟨hP1, hK1, hD1⟩ := hB
      rw [htC] at hP1
      have hK1 := va_K.moved hvm.symm hK1
      obtain ⟨hP, hD⟩ := va_join (wr := []) (w1 := [(zo14irriiiiiirriirrrrlriiii m0 th aS aI im (nI a) sp9_18 (nI E) wg9_19 0 aB aT se dn aG aO aN aD bv aY rn kd nu tv), (zaI aS cS 901 fS)]) hP hD [0, 1] [] rfl rfl (by decide) (by decide) hk1 hFc hP1 hD1
      have hK := (hK.sub (tys' := []) [] rfl).app hK1
      generalize H1 = H at hP hS ⊢
      have hP : va_P (dC, dI) vwCl [(zo14irriiiiiirriirrrrlriiii m0 th aS aI im (nI a) sp9_18 (nI E) wg9_19 0 aB aT se dn aG aO aN aD bv aY rn kd nu tv), (zaI aS cS 901 fS)] H := hP
      have hD : va_D A [(zo14irriiiiiirriirrrrlriiii m0 th aS aI im (nI a) sp9_18 (nI E) wg9_19 0 aB aT se dn aG aO aN aD bv aY rn kd nu tv), (zaI aS cS 901 fS)] := hD
      have hK : va_K (dC, dI) vwCl [(cS, .int)] s := hK
      rcases hw_17 with ⟨rfl, rfl, hN_27, v_20, h_22, rfl⟩ | ⟨rfl, h_26, v_20, p_21, h_22, h_23, h_24, rfl, rfl, hN_27⟩
      · skip
        have hN := hN_27 rfl
        refine lv_istore_n (lv' := [(1, .int (nI v_20)), (0, .ref m0)]) hx hb dX12_clauseOfS_34 rfl hl (by decide) rfl (fun ls hl => ?_)
        refine lv_aload_n hx hb dX12_clauseOfS_35 rfl (lv_at hl 1 rfl) ?_
        refine va_get (D := (dC, dI)) (ci := 14) (v := .int 1) (C := RX12) (T := TX12) (N := 23) hx hb hts kc_clauseOfS_0 hown hK hP 0 rfl rfl 7 (by decide) (hts (.fieldLink RX12 65 "MistHeapsModel" "isWrong" "Z") kc_clauseOfS_1) (fun _ h9 => h9) rfl dX12_clauseOfS_36 ?_
        refine lv_if_ne (tgt := 56) hx hb dX12_clauseOfS_39 (by decide) (fun _ => ?_) (fun c_28 => absurd c_28 (by decide))
        rw [hQ]
        have hP9 := hP.sub (ws' := [(zo14irriiiiiirriirrrrlriiii m0 th aS aI im (nI a) (nI (p0 + 1 + sLen 9)) (nI E) 1 0 aB aT se dn aG aO aN aD bv aY rn kd nu tv), (zaI aS cS 901 fS)]) [0, 1] rfl
        have hD9 := hD.sub (ws' := [(zo14irriiiiiirriirrrrlriiii m0 th aS aI im (nI a) (nI (p0 + 1 + sLen 9)) (nI E) 1 0 aB aT se dn aG aO aN aD bv aY rn kd nu tv), (zaI aS cS 901 fS)]) [0, 1] (by decide) rfl
        have hK9 := hK.sub (tys' := [(cS, .int)]) [0] rfl
        exact W.vret hx hb hr (fun tQ htQ hWQ => ⟨⟨(fS, (nI (p0 + 1 + sLen 9)), 1), rfl, ⟨p0 + 1 + sLen 9, rfl, by omega, by omega, PQ.rf, Or.inl ⟨rfl, (cl_s2 g115 hs1).trans (sg_2 hm_15 hN)⟩⟩, by rw [htQ]; exact hP9, va_K.moved hWQ.alike hK9, hD9⟩, hS.F htQ⟩) hS.2.2 dX12_clauseOfS_56
      · skip
        have hN := hN_27
        refine lv_istore_n (lv' := [(1, .int (nI v_20)), (0, .ref m0)]) hx hb dX12_clauseOfS_34 rfl hl (by decide) rfl (fun ls hl => ?_)
        refine lv_aload_n hx hb dX12_clauseOfS_35 rfl (lv_at hl 1 rfl) ?_
        refine va_get (D := (dC, dI)) (ci := 14) (v := .int 0) (C := RX12) (T := TX12) (N := 23) hx hb hts kc_clauseOfS_0 hown hK hP 0 rfl rfl 7 (by decide) (hts (.fieldLink RX12 65 "MistHeapsModel" "isWrong" "Z") kc_clauseOfS_1) (fun _ h9 => h9) rfl dX12_clauseOfS_36 ?_
        refine lv_if_ne (tgt := 56) hx hb dX12_clauseOfS_39 (by decide) (fun c_29 => absurd c_29 (by decide)) (fun _ => ?_)
        refine lv_aload_n hx hb dX12_clauseOfS_42 rfl (lv_at hl 1 rfl) ?_
        refine va_get (D := (dC, dI)) (ci := 14) (v := .ref aS) (C := RX12) (T := TX12) (N := 23) hx hb hts kc_clauseOfS_0 hown hK hP 0 rfl rfl 1 (by decide) (hts (.fieldLink RX12 9 "MistHeapsModel" "s" "[I") kc_clauseOfS_2) (fun _ h9 => h9) rfl dX12_clauseOfS_43 ?_
        refine lv_sipush (v := 191) hx hb dX12_clauseOfS_46 (by decide) ?_
        refine lv_aload_n hx hb dX12_clauseOfS_49 rfl (lv_at hl 1 rfl) ?_
        refine va_get (D := (dC, dI)) (ci := 14) (v := .int (nI a)) (C := RX12) (T := TX12) (N := 23) hx hb hts kc_clauseOfS_0 hown hK hP 0 rfl rfl 4 (by decide) (hts (.fieldLink RX12 86 "MistHeapsModel" "act" "I") kc_clauseOfS_3) (fun _ h9 => h9) rfl dX12_clauseOfS_50 ?_
        refine lv_iadd hx hb dX12_clauseOfS_53 ?_
        refine qi_as (y := nI (191 + a)) (nI_add 191 a) ?_
        refine lv_iload_n hx hb dX12_clauseOfS_54 rfl (lv_at hl 0 rfl) ?_
        refine va_iast hx hb hK hP hD hS 1 0 rfl rfl (vp_in_nI (n := 191 + a) (N := 901) (by omega) (by omega)) dX12_clauseOfS_55 (fun H locs hP hD hS => ?_)
        rw [nI_clamp (n := 191 + a) (by omega)] at hP hD
        have hP : va_P (dC, dI) vwCl [(zo14irriiiiiirriirrrrlriiii m0 th aS aI im (nI a) (nI p_21) (nI E) 0 0 aB aT se dn aG aO aN aD bv aY rn kd nu tv), (zaI aS cS 901 (upd fS (191 + a) (nI v_20)))] H := hP
        have hD : va_D A [(zo14irriiiiiirriirrrrlriiii m0 th aS aI im (nI a) (nI p_21) (nI E) 0 0 aB aT se dn aG aO aN aD bv aY rn kd nu tv), (zaI aS cS 901 (upd fS (191 + a) (nI v_20)))] := hD
        have hI_30 := PI.up191 (x := nI v_20) ((gI).mono (q := p_21) (by omega) (by omega))
        rw [show upd fS (191 + a) (nI v_20) = upd fS (191 + a) (nI v_20) from rfl] at hP hD
        have hP : va_P (dC, dI) vwCl [(zo14irriiiiiirriirrrrlriiii m0 th aS aI im (nI a) (nI p_21) (nI E) 0 0 aB aT se dn aG aO aN aD bv aY rn kd nu tv), (zaI aS cS 901 (upd fS (191 + a) (nI v_20)))] H := hP
        have hD : va_D A [(zo14irriiiiiirriirrrrlriiii m0 th aS aI im (nI a) (nI p_21) (nI E) 0 0 aB aT se dn aG aO aN aD bv aY rn kd nu tv), (zaI aS cS 901 (upd fS (191 + a) (nI v_20)))] := hD
        rw [hQ]
        have hP9 := hP.sub (ws' := [(zo14irriiiiiirriirrrrlriiii m0 th aS aI im (nI a) (nI p_21) (nI E) 0 0 aB aT se dn aG aO aN aD bv aY rn kd nu tv), (zaI aS cS 901 (upd fS (191 + a) (nI v_20)))]) [0, 1] rfl
        have hD9 := hD.sub (ws' := [(zo14irriiiiiirriirrrrlriiii m0 th aS aI im (nI a) (nI p_21) (nI E) 0 0 aB aT se dn aG aO aN aD bv aY rn kd nu tv), (zaI aS cS 901 (upd fS (191 + a) (nI v_20)))]) [0, 1] (by decide) rfl
        have hK9 := hK.sub (tys' := [(cS, .int)]) [0] rfl
        exact W.vret hx hb hr (fun tQ htQ hWQ => ⟨⟨((upd fS (191 + a) (nI v_20)), (nI p_21), 0), rfl, ⟨p_21, rfl, by omega, by omega, PQ_191, Or.inr ⟨rfl, (2, v_20, []), (cl_s2 g115 hs1).trans (sg_3 hm_15 hN), (by have h9 := hI_30; rw [show K ++ fl1 (2, v_20, []) = K from List.append_nil K]; exact h9), pk_us⟩⟩, by rw [htQ]; exact hP9, va_K.moved hWQ.alike hK9, hD9⟩, hS.F htQ⟩) hS.2.2 dX12_clauseOfS_56
    · skip
      refine lv_aload_n hx hb dX12_clauseOfS_30 rfl (lv_at hl 0 rfl) ?_
      have hPc := hP.sub (ws' := [(zo14irriiiiiirriirrrrlriiii m0 th aS aI im (nI a) (nI (p0 + 1 + mlen ss (p0 + 1) (sTx 9))) (nI E) 1 0 aB aT se dn aG aO aN aD bv aY rn kd nu tv), (zaI aS cS 901 fS)]) [0, 1] rfl
      have hDc := hD.sub (ws' := [(zo14irriiiiiirriirrrrlriiii m0 th aS aI im (nI a) (nI (p0 + 1 + mlen ss (p0 + 1) (sTx 9))) (nI E) 1 0 aB aT se dn aG aO aN aD bv aY rn kd nu tv), (zaI aS cS 901 fS)]) [0, 1] (by decide) rfl
      have hKc := hK.sub (tys' := [(cS, .int)]) [0] rfl
      have hFc := va_free (wc := [(zo14irriiiiiirriirrrrlriiii m0 th aS aI im (nI a) (nI (p0 + 1 + mlen ss (p0 + 1) (sTx 9))) (nI E) 1 0 aB aT se dn aG aO aN aD bv aY rn kd nu tv), (zaI aS cS 901 fS)]) hD hS hA [0, 1] rfl
      refine va_calli (va_runV (As := []) (rest := []) ⟨hx, hb, hml, hown, hts⟩ (c_figures l dC dI m0 aS aI aB aT aG aO aN aD aY th im (nI a) (nI (p0 + 1 + mlen ss (p0 + 1) (sTx 9))) (nI E) 1 0 se dn rn kd nu tv bv cS fS a (p0 + 1 + mlen ss (p0 + 1) (sTx 9)) E ss H.size (by omega) (by omega) (by omega) (Or.inr rfl) (gT)) (cwV 0 hts gX12_clauseOfS_X12_figures rfl rfl rfl hd_yX12_figures ⟨Nat.le_of_ble_eq_true rfl, Nat.le_of_ble_eq_true rfl⟩) ⟨fun a U g mk q => by obtain ⟨q0, q1, qP, qK, qD⟩ := q; exact ⟨q0, mvz g mk a q1, mvP g mk a qP, mvK g mk a qK, qD⟩, va_recv hK hP (ci := 14) (q := (RX12, TX12, 23)) (q0 := 0) rfl rfl, fun U hU hW => ⟨rfl, by rw [hU], by rw [hU]; exact hPc, va_K.moved hW.alike hKc, hDc.weaken (fun _ _ _ _ => trivial)⟩⟩ rfl rfl hl.1 rfl (lv_room (Nat.le_of_ble_eq_true rfl)) dX12_clauseOfS_31 ⟨Nat.le_of_ble_eq_true rfl, Nat.le_of_ble_eq_true rfl⟩) hS (fun q _ h => hFc q h) hFc (fun r_31 u tC H1 locs htC hvm hw_32 hB hz1 hk1 hS => ?_)
      obtain ⟨sp9_33, wg9_34⟩ := u
      try dsimp only at hw_32 hB
      obtain ⟨hP1, hK1, hD1⟩ := hB
      rw [htC] at hP1
      have hK1 := va_K.moved hvm.symm hK1
      obtain ⟨hP, hD⟩ := va_join (wr := []) (w1 := [(zo14irriiiiiirriirrrrlriiii m0 th aS aI im (nI a) sp9_33 (nI E) wg9_34 0 aB aT se dn aG aO aN aD bv aY rn kd nu tv), (zaI aS cS 901 fS)]) hP hD [0, 1] [] rfl rfl (by decide) (by decide) hk1 hFc hP1 hD1
      have hK := (hK.sub (tys' := []) [] rfl).app hK1
      generalize H1 = H at hP hS ⊢
      have hP : va_P (dC, dI) vwCl [(zo14irriiiiiirriirrrrlriiii m0 th aS aI im (nI a) sp9_33 (nI E) wg9_34 0 aB aT se dn aG aO aN aD bv aY rn kd nu tv), (zaI aS cS 901 fS)] H := hP
      have hD : va_D A [(zo14irriiiiiirriirrrrlriiii m0 th aS aI im (nI a) sp9_33 (nI E) wg9_34 0 aB aT se dn aG aO aN aD bv aY rn kd nu tv), (zaI aS cS 901 fS)] := hD
      have hK : va_K (dC, dI) vwCl [(cS, .int)] s := hK
      rcases hw_32 with ⟨rfl, rfl, hN_42, v_35, h_37, rfl⟩ | ⟨rfl, h_41, v_35, p_36, h_37, h_38, h_39, rfl, rfl, hN_42⟩
      · skip
        refine lv_istore_n (lv' := [(1, .int (nI v_35)), (0, .ref m0)]) hx hb dX12_clauseOfS_34 rfl hl (by decide) rfl (fun ls hl => ?_)
        refine lv_aload_n hx hb dX12_clauseOfS_35 rfl (lv_at hl 1 rfl) ?_
        refine va_get (D := (dC, dI)) (ci := 14) (v := .int 1) (C := RX12) (T := TX12) (N := 23) hx hb hts kc_clauseOfS_0 hown hK hP 0 rfl rfl 7 (by decide) (hts (.fieldLink RX12 65 "MistHeapsModel" "isWrong" "Z") kc_clauseOfS_1) (fun _ h9 => h9) rfl dX12_clauseOfS_36 ?_
        refine lv_if_ne (tgt := 56) hx hb dX12_clauseOfS_39 (by decide) (fun _ => ?_) (fun c_43 => absurd c_43 (by decide))
        rw [hQ]
        have hP9 := hP.sub (ws' := [(zo14irriiiiiirriirrrrlriiii m0 th aS aI im (nI a) (nI (p0 + 1 + mlen ss (p0 + 1) (sTx 9))) (nI E) 1 0 aB aT se dn aG aO aN aD bv aY rn kd nu tv), (zaI aS cS 901 fS)]) [0, 1] rfl
        have hD9 := hD.sub (ws' := [(zo14irriiiiiirriirrrrlriiii m0 th aS aI im (nI a) (nI (p0 + 1 + mlen ss (p0 + 1) (sTx 9))) (nI E) 1 0 aB aT se dn aG aO aN aD bv aY rn kd nu tv), (zaI aS cS 901 fS)]) [0, 1] (by decide) rfl
        have hK9 := hK.sub (tys' := [(cS, .int)]) [0] rfl
        exact W.vret hx hb hr (fun tQ htQ hWQ => ⟨⟨(fS, (nI (p0 + 1 + mlen ss (p0 + 1) (sTx 9))), 1), rfl, ⟨p0 + 1 + mlen ss (p0 + 1) (sTx 9), rfl, by omega, by omega, PQ.rf, Or.inl ⟨rfl, (cl_s2 g115 hs1).trans (sg_1 (fun z => by have := (show mlen ss (p0 + 1) (sTx 9) < 5 from hm_15); exact absurd z (Nat.ne_of_lt this)))⟩⟩, by rw [htQ]; exact hP9, va_K.moved hWQ.alike hK9, hD9⟩, hS.F htQ⟩) hS.2.2 dX12_clauseOfS_56
      · skip
        exact absurd h_41 (by decide)
  · skip
    have hs1 : ss (p0 + 1) = 101 := (gT.eq (c := 101) (by omega) (by omega)).mp (by rw [← hw_8, c_9]; rfl)
    refine lv_aload_n hx hb dX12_clauseOfS_15 rfl (lv_at hl 0 rfl) ?_
    refine lv_bipush (v := (-10)) hx hb dX12_clauseOfS_16 (by decide) ?_
    refine qi_as (y := nI 0 - nI 10) (by decide) ?_
    refine va_ldcS hx hb hown (show vk_R RX12 119 "ee " (sK 8) s from hE.1 8 (by decide)) dX12_clauseOfS_18 ?_
    have hPc := hP.sub (ws' := [(zo14irriiiiiirriirrrrlriiii m0 th aS aI im (nI a) (nI (p0 + 1)) (nI E) 0 0 aB aT se dn aG aO aN aD bv aY rn kd nu tv), (zaI aS cS 901 fS)]) [0, 1] rfl
    have hDc := hD.sub (ws' := [(zo14irriiiiiirriirrrrlriiii m0 th aS aI im (nI a) (nI (p0 + 1)) (nI E) 0 0 aB aT se dn aG aO aN aD bv aY rn kd nu tv), (zaI aS cS 901 fS)]) [0, 1] (by decide) rfl
    have hKc := hK.sub (tys' := [(cS, .int)]) [0] rfl
    have hFc := va_free (wc := [(zo14irriiiiiirriirrrrlriiii m0 th aS aI im (nI a) (nI (p0 + 1)) (nI E) 0 0 aB aT se dn aG aO aN aD bv aY rn kd nu tv), (zaI aS cS 901 fS)]) hD hS hA [0, 1] rfl
    refine va_callv (va_runV (As := [.int (nI 0 - nI 10), .ref (sK 8)]) (rest := []) ⟨hx, hb, hml, hown, hts⟩ (c_much l dC dI sK sV m0 aS aI aB aT aG aO aN aD aY th im (nI a) (nI (p0 + 1)) (nI E) 0 0 se dn rn kd nu tv bv cS fS a (p0 + 1) E K ss 10 8 0 H.size (by omega) (by omega) (by omega) ((gI).mono (by omega) (by omega)) (gT) (by decide) (by decide)) (cwV 2 hts gX12_clauseOfS_X12_much rfl rfl rfl hd_yX12_much ⟨Nat.le_of_ble_eq_true rfl, Nat.le_of_ble_eq_true rfl⟩) ⟨fun a U g mk q => by obtain ⟨q0, q1, qP, qK, qD, qhE⟩ := q; exact ⟨q0, mvz g mk a q1, mvP g mk a qP, mvK g mk a qK, qD, qhE.mv g mk a⟩, va_recv hK hP (ci := 14) (q := (RX12, TX12, 23)) (q0 := 0) rfl rfl, fun U hU hW => ⟨rfl, by rw [hU], by rw [hU]; exact hPc, va_K.moved hW.alike hKc, hDc.weaken (fun _ _ _ _ => trivial), hE.call hS hU hW (fun q h => hFc q h)⟩⟩ rfl rfl hl.1 rfl (lv_room (Nat.le_of_ble_eq_true rfl)) dX12_clauseOfS_20 ⟨Nat.le_of_ble_eq_true rfl, Nat.le_of_ble_eq_true rfl⟩) hS (fun q _ h => hFc q h) hFc (fun u tC H1 locs htC hvm hw_45 hB hz1 hk1 hS => ?_)
    obtain ⟨fS9_46, sp9_47, wg9_48⟩ := u
    try dsimp only at hw_45 hB
    obtain ⟨hP1, hK1, hD1⟩ := hB
    rw [htC] at hP1
    have hK1 := va_K.moved hvm.symm hK1
    obtain ⟨hP, hD⟩ := va_join (wr := []) (w1 := [(zo14irriiiiiirriirrrrlriiii m0 th aS aI im (nI a) sp9_47 (nI E) wg9_48 0 aB aT se dn aG aO aN aD bv aY rn kd nu tv), (zaI aS cS 901 fS9_46)]) hP hD [0, 1] [] rfl rfl (by decide) (by decide) hk1 hFc hP1 hD1
    have hK := (hK.sub (tys' := []) [] rfl).app hK1
    generalize H1 = H at hP hS ⊢
    have hP : va_P (dC, dI) vwCl [(zo14irriiiiiirriirrrrlriiii m0 th aS aI im (nI a) sp9_47 (nI E) wg9_48 0 aB aT se dn aG aO aN aD bv aY rn kd nu tv), (zaI aS cS 901 fS9_46)] H := hP
    have hD : va_D A [(zo14irriiiiiirriirrrrlriiii m0 th aS aI im (nI a) sp9_47 (nI E) wg9_48 0 aB aT se dn aG aO aN aD bv aY rn kd nu tv), (zaI aS cS 901 fS9_46)] := hD
    have hK : va_K (dC, dI) vwCl [(cS, .int)] s := hK
    obtain ⟨p_49, rfl, h_52, h_53, hF_54, q9⟩ := hw_45
    rcases q9 with ⟨rfl, eM_56⟩ | ⟨rfl, v_50, L_51, eM_56, hI_55⟩
    · skip
      rw [hQ]
      have hP9 := hP.sub (ws' := [(zo14irriiiiiirriirrrrlriiii m0 th aS aI im (nI a) (nI p_49) (nI E) 1 0 aB aT se dn aG aO aN aD bv aY rn kd nu tv), (zaI aS cS 901 fS9_46)]) [0, 1] rfl
      have hD9 := hD.sub (ws' := [(zo14irriiiiiirriirrrrlriiii m0 th aS aI im (nI a) (nI p_49) (nI E) 1 0 aB aT se dn aG aO aN aD bv aY rn kd nu tv), (zaI aS cS 901 fS9_46)]) [0, 1] (by decide) rfl
      have hK9 := hK.sub (tys' := [(cS, .int)]) [0] rfl
      exact W.vret hx hb hr (fun tQ htQ hWQ => ⟨⟨(fS9_46, (nI p_49), 1), rfl, ⟨p_49, rfl, by omega, by omega, ((PF.rf).tr hF_54).q, Or.inl ⟨rfl, (cl_s1 g115 hs1).trans eM_56⟩⟩, by rw [htQ]; exact hP9, va_K.moved hWQ.alike hK9, hD9⟩, hS.F htQ⟩) hS.2.2 dX12_clauseOfS_23
    · skip
      rw [hQ]
      have hP9 := hP.sub (ws' := [(zo14irriiiiiirriirrrrlriiii m0 th aS aI im (nI a) (nI p_49) (nI E) 0 0 aB aT se dn aG aO aN aD bv aY rn kd nu tv), (zaI aS cS 901 fS9_46)]) [0, 1] rfl
      have hD9 := hD.sub (ws' := [(zo14irriiiiiirriirrrrlriiii m0 th aS aI im (nI a) (nI p_49) (nI E) 0 0 aB aT se dn aG aO aN aD bv aY rn kd nu tv), (zaI aS cS 901 fS9_46)]) [0, 1] (by decide) rfl
      have hK9 := hK.sub (tys' := [(cS, .int)]) [0] rfl
      exact W.vret hx hb hr (fun tQ htQ hWQ => ⟨⟨(fS9_46, (nI p_49), 0), rfl, ⟨p_49, rfl, by omega, by omega, ((PF.rf).tr hF_54).q, Or.inr ⟨rfl, (0, v_50, L_51), (cl_s1 g115 hs1).trans eM_56, hI_55, ((PF.rf).tr hF_54) _ (by omega) (by omega)⟩⟩, by rw [htQ]; exact hP9, va_K.moved hWQ.alike hK9, hD9⟩, hS.F htQ⟩) hS.2.2 dX12_clauseOfS_23
end mg13a
section mg13a
theorem ggX12_clauseHere_X12_here : GoodIn wsX12_clauseHere wsX12_here := gga_of 1229 rfl rfl rfl
theorem gX12_clauseHere_X12_here : GoodIn wsX12_clauseHere (wsV RX12 69 RX12 yX12_here wsX12_here) := goodIn_app (ggh_of [1226, 1228, 22, 72] rfl rfl rfl) ggX12_clauseHere_X12_here
theorem ggX12_clauseHere_X12_much : GoodIn wsX12_clauseHere wsX12_much := gga_of 1242 rfl rfl rfl
theorem gX12_clauseHere_X12_much : GoodIn wsX12_clauseHere (wsV RX12 121 RX12 yX12_much wsX12_much) := goodIn_app (ggh_of [1239, 1241, 25, 72] rfl rfl rfl) ggX12_clauseHere_X12_much
theorem ggX12_clauseHere_X12_clauseOfS : GoodIn wsX12_clauseHere wsX12_clauseOfS := gga_of 1233 rfl rfl rfl
theorem gX12_clauseHere_X12_clauseOfS : GoodIn wsX12_clauseHere (wsV RX12 127 RX12 yX12_clauseOfS wsX12_clauseOfS) := goodIn_app (ggh_of [1230, 1232, 23, 72] rfl rfl rfl) ggX12_clauseHere_X12_clauseOfS
noncomputable def dk13chill_cX12_clauseHere_0 : List (Nat × List Nat) := [(0, [42]), (1, [182, 0, 69]), (40, [42]), (41, [182, 0, 127]), (44, [167, 0, 32]), (47, [42]), (48, [17, 255, 56]), (51, [18, 130]), (53, [182, 0, 121]), (56, [167, 0, 20]), (59, [42]), (60, [17, 254, 112]), (63, [18, 132]), (65, [182, 0, 121]), (68, [167, 0, 8]), (71, [42]), (72, [4]), (73, [181, 0, 65]), (76, [177])]
set_option maxRecDepth 100000 in
theorem dk13chill_cX12_clauseHere_0_a : btA cX12_clauseHere dk13chill_cX12_clauseHere_0 = true := by decide +kernel
theorem dX12_clauseHere_0 : decode cX12_clauseHere 0 = .ok (.aload_n 0, 1) := bd42 (btAt dk13chill_cX12_clauseHere_0_a 0 rfl)
theorem dX12_clauseHere_1 : decode cX12_clauseHere 1 = .ok (.invokevirtual 69, 3) := bd182 (a := 0) (b := 69) (btAt dk13chill_cX12_clauseHere_0_a 1 rfl)
theorem dX12_clauseHere_40 : decode cX12_clauseHere 40 = .ok (.aload_n 0, 1) := bd42 (btAt dk13chill_cX12_clauseHere_0_a 2 rfl)
theorem dX12_clauseHere_41 : decode cX12_clauseHere 41 = .ok (.invokevirtual 127, 3) := bd182 (a := 0) (b := 127) (btAt dk13chill_cX12_clauseHere_0_a 3 rfl)
theorem dX12_clauseHere_44 : decode cX12_clauseHere 44 = .ok (.goto 32, 3) := bd167 (a := 0) (b := 32) (btAt dk13chill_cX12_clauseHere_0_a 4 rfl)
theorem dX12_clauseHere_47 : decode cX12_clauseHere 47 = .ok (.aload_n 0, 1) := bd42 (btAt dk13chill_cX12_clauseHere_0_a 5 rfl)
theorem dX12_clauseHere_48 : decode cX12_clauseHere 48 = .ok (.sipush (-200), 3) := bd17 (a := 255) (b := 56) (btAt dk13chill_cX12_clauseHere_0_a 6 rfl)
theorem dX12_clauseHere_51 : decode cX12_clauseHere 51 = .ok (.ldc 130, 2) := bd18 (a := 130) (btAt dk13chill_cX12_clauseHere_0_a 7 rfl)
theorem dX12_clauseHere_53 : decode cX12_clauseHere 53 = .ok (.invokevirtual 121, 3) := bd182 (a := 0) (b := 121) (btAt dk13chill_cX12_clauseHere_0_a 8 rfl)
theorem dX12_clauseHere_56 : decode cX12_clauseHere 56 = .ok (.goto 20, 3) := bd167 (a := 0) (b := 20) (btAt dk13chill_cX12_clauseHere_0_a 9 rfl)
theorem dX12_clauseHere_59 : decode cX12_clauseHere 59 = .ok (.aload_n 0, 1) := bd42 (btAt dk13chill_cX12_clauseHere_0_a 10 rfl)
theorem dX12_clauseHere_60 : decode cX12_clauseHere 60 = .ok (.sipush (-400), 3) := bd17 (a := 254) (b := 112) (btAt dk13chill_cX12_clauseHere_0_a 11 rfl)
theorem dX12_clauseHere_63 : decode cX12_clauseHere 63 = .ok (.ldc 132, 2) := bd18 (a := 132) (btAt dk13chill_cX12_clauseHere_0_a 12 rfl)
theorem dX12_clauseHere_65 : decode cX12_clauseHere 65 = .ok (.invokevirtual 121, 3) := bd182 (a := 0) (b := 121) (btAt dk13chill_cX12_clauseHere_0_a 13 rfl)
theorem dX12_clauseHere_68 : decode cX12_clauseHere 68 = .ok (.goto 8, 3) := bd167 (a := 0) (b := 8) (btAt dk13chill_cX12_clauseHere_0_a 14 rfl)
theorem dX12_clauseHere_71 : decode cX12_clauseHere 71 = .ok (.aload_n 0, 1) := bd42 (btAt dk13chill_cX12_clauseHere_0_a 15 rfl)
theorem dX12_clauseHere_72 : decode cX12_clauseHere 72 = .ok (.iconst 1, 1) := bd4 (btAt dk13chill_cX12_clauseHere_0_a 16 rfl)
theorem dX12_clauseHere_73 : decode cX12_clauseHere 73 = .ok (.putfield 65, 3) := bd181 (a := 0) (b := 65) (btAt dk13chill_cX12_clauseHere_0_a 17 rfl)
theorem dX12_clauseHere_76 : decode cX12_clauseHere 76 = .ok (.return_, 1) := bd177 (btAt dk13chill_cX12_clauseHere_0_a 18 rfl)
set_option maxRecDepth 100000 in
theorem dX12_clauseHere_4 : decode cX12_clauseHere 4 = .ok (.lookupswitch 67 #[(100, 55), (104, 43), (115, 36)], 36) := by decide +kernel
theorem kc_clauseHere_0 : ∀ w ∈ wsX120, w ∈ wsX12_clauseHere := fun w h => List.mem_cons_of_mem _ (gin_wsX120 w h)
theorem kc_clauseHere_1 : (.fieldLink RX12 65 "MistHeapsModel" "isWrong" "Z" : Cond) ∈ wsX12_clauseHere := kc_of 1147 rfl rfl rfl
set_option maxHeartbeats 4000000 in
set_option maxRecDepth 100000 in
theorem c_clauseHere (l : Launch) (dC : Nat → ClassId) (dI : Nat → Nat → Nat) (sK sV : Nat → Nat) (m0 aS aI aB aT aG aO aN aD aY : Nat) (th im ac sp en wg op se dn rn kd nu tv : Int32) (bv : Int64) (cS : ClassId) (fS : Nat → Int32) (a p0 E : Nat) (K : List Nat) (ss : Nat → Nat) (sz : Nat) (ga : a < 5) (gE : E ≤ 100) (gp : p0 ≤ E) (gI : PI fS a K 0 p0 E) (gT : TP fS E ss) : Met l yX12_clauseHere wsX12_clauseHere ({ frames := 25, cells := 0, slots := 0, locals := 535 } : Room) (va_Pc [.ref m0] (fun U => U.heap.size = sz ∧ va_P (dC, dI) vwCl [(zo14irriiiiiirriirrrrlriiii m0 th aS aI im (nI a) (nI p0) (nI E) 0 0 aB aT se dn aG aO aN aD bv aY rn kd nu tv), (zaI aS cS 901 fS)] U.heap ∧ va_K (dC, dI) vwCl [(cS, .int)] U ∧ va_D (fun _ => True) [(zo14irriiiiiirriirrrrlriiii m0 th aS aI im (nI a) (nI p0) (nI E) 0 0 aB aT se dn aG aO aN aD bv aY rn kd nu tv), (zaI aS cS 901 fS)] ∧ Gs sK sV (va_A [(zo14irriiiiiirriirrrrlriiii m0 th aS aI im (nI a) (nI p0) (nI E) 0 0 aB aT se dn aG aO aN aD bv aY rn kd nu tv), (zaI aS cS 901 fS)] sz) U)) (va_Qv (fun (u : (Nat → Int32) × (Int32) × (Int32)) => match u with | (fS9, sp9, wg9) => ∃ p9 : Nat, sp9 = nI p9 ∧ p0 ≤ p9 ∧ p9 ≤ E ∧ PQ a fS fS9 ∧ ((wg9 = 1 ∧ pCl ss p0 = (none, p9)) ∨ (wg9 = 0 ∧ ∃ c9 : pCla, pCl ss p0 = (some c9, p9) ∧ PI fS9 a (K ++ fl1 c9) 0 p9 E ∧ fS9 (191 + a) = if c9.1 = 2 then nI c9.2.1 else fS (191 + a)))) (fun (u : (Nat → Int32) × (Int32) × (Int32)) (t : State) => match u with | (fS9, sp9, wg9) => va_P (dC, dI) vwCl [(zo14irriiiiiirriirrrrlriiii m0 th aS aI im (nI a) sp9 (nI E) wg9 0 aB aT se dn aG aO aN aD bv aY rn kd nu tv), (zaI aS cS 901 fS9)] t.heap ∧ va_K (dC, dI) vwCl [(cS, .int)] t ∧ va_D (va_A [(zo14irriiiiiirriirrrrlriiii m0 th aS aI im (nI a) (nI p0) (nI E) 0 0 aB aT se dn aG aO aN aD bv aY rn kd nu tv), (zaI aS cS 901 fS)] sz) [(zo14irriiiiiirriirrrrlriiii m0 th aS aI im (nI a) sp9 (nI E) wg9 0 aB aT se dn aG aO aN aD bv aY rn kd nu tv), (zaI aS cS 901 fS9)]) (va_A [(zo14irriiiiiirriirrrrlriiii m0 th aS aI im (nI a) (nI p0) (nI E) 0 0 aB aT se dn aG aO aN aD bv aY rn kd nu tv), (zaI aS cS 901 fS)] sz)) 0 0 (va_A [(zo14irriiiiiirriirrrrlriiii m0 th aS aI im (nI a) (nI p0) (nI E) 0 0 aB aT se dn aG aO aN aD bv aY rn kd nu tv), (zaI aS cS 901 fS)] sz) := by
  refine met_ofQ (cc := cX12_clauseHere) (maxL := 1) (ret := none) (by decide) rfl ?_
  intro p e s m args below meth c s₁ Q B hml hv hQ
  obtain ⟨rfl, hsz, hP, hK, hD0, hE⟩ := hv
  have hx := B.exec
  have hb := B.bytes
  have hr := B.returns
  have hts := atoms_spec (ws := wsX12_clauseHere) B.pre
  have hown : s.vm.findClass RX12 = some m.cls := findClass_of_methodNamed B.named
  have hlocks := B.notSynchronized
  subst hsz
  have hD := hD0.self (sz := s.heap.size)
  generalize hAe : va_A [(zo14irriiiiiirriirrrrlriiii m0 th aS aI im (nI a) (nI p0) (nI E) 0 0 aB aT se dn aG aO aN aD bv aY rn kd nu tv), (zaI aS cS 901 fS)] s.heap.size = A at hD hQ hE ⊢
  have hA : ∀ q : Nat, s.heap.size ≤ q → A q := fun q h => by rw [← hAe]; exact Or.inr h
  have hS : va_S A s.heap s.heap [] := va_S.rf
  have hl := lv_entry [.ref m0] (n := 1) (Nat.le_of_ble_eq_true rfl)
  rw [lg_entry_eq]
  generalize (lg_sl [.ref m0] ++ List.replicate (1 - (lg_sl [.ref m0]).length) Slot.unset).toArray = ls at hl ⊢
  generalize hag : ([.ref m0] : List Value).toArray = args at hts hQ ⊢
  have hl : lv_has ls 1 [(0, .ref m0)] := hl
  obtain ⟨H, hH⟩ : ∃ H : Heap, H = s.heap := ⟨_, rfl⟩
  rw [← hH] at hP
  rw [← hH]
  have hS : va_S A s.heap H [] := by rw [hH]; exact hS
  obtain ⟨locs, hlo⟩ : ∃ L : List Loc, L = [] := ⟨_, rfl⟩
  rw [← hlo] at hS
  rw [← hlo]
  clear hH hlo
  have k5 := gI.2.2.2.2.1
  refine lv_aload_n hx hb dX12_clauseHere_0 rfl (lv_at hl 0 rfl) ?_
  have hPc := hP.sub (ws' := [(zo14irriiiiiirriirrrrlriiii m0 th aS aI im (nI a) (nI p0) (nI E) 0 0 aB aT se dn aG aO aN aD bv aY rn kd nu tv), (zaI aS cS 901 fS)]) [0, 1] rfl
  have hKc := hK.sub (tys' := [(cS, .int)]) [0] rfl
  refine vp_callSi (va_runV (As := []) (rest := []) ⟨hx, hb, hml, hown, hts⟩ (c_here l dC dI m0 aS aI aB aT aG aO aN aD aY th im (nI a) (nI p0) (nI E) 0 0 se dn rn kd nu tv bv cS fS a p0 E (by omega) (by omega) (by omega)) (cwV 0 hts gX12_clauseHere_X12_here rfl rfl rfl hd_yX12_here ⟨Nat.le_of_ble_eq_true rfl, Nat.le_of_ble_eq_true rfl⟩) ⟨fun a U g mk q => by obtain ⟨q0, qP, qK⟩ := q; exact ⟨q0, mvP g mk a qP, mvK g mk a qK⟩, va_recv hK hP (ci := 14) (q := (RX12, TX12, 23)) (q0 := 0) rfl rfl, fun U hU hW => ⟨rfl, by rw [hU]; exact hPc, va_K.moved hW.alike hKc⟩⟩ rfl rfl hl.1 rfl (lv_room (Nat.le_of_ble_eq_true rfl)) dX12_clauseHere_1 ⟨Nat.le_of_ble_eq_true rfl, Nat.le_of_ble_eq_true rfl⟩).run (fun r_1 hw_2 => ?_)
  by_cases c_3_100 : r_1 = 100
  · skip
    refine lv_lookup (tgt := 59) hx hb dX12_clauseHere_4 (by decide) (by rw [c_3_100]; first | done | rfl) (by decide) ?_
    have hs0 : ss p0 = 100 := (gT.eq (c := 100) (by omega) (by omega)).mp (by rw [← hw_2, c_3_100]; rfl)
    refine lv_aload_n hx hb dX12_clauseHere_59 rfl (lv_at hl 0 rfl) ?_
    refine lv_sipush (v := (-400)) hx hb dX12_clauseHere_60 (by decide) ?_
    refine qi_as (y := nI 0 - nI 400) (by decide) ?_
    refine va_ldcS hx hb hown (show vk_R RX12 132 "drift " (sK 11) s from hE.1 11 (by decide)) dX12_clauseHere_63 ?_
    have hPc := hP.sub (ws' := [(zo14irriiiiiirriirrrrlriiii m0 th aS aI im (nI a) (nI p0) (nI E) 0 0 aB aT se dn aG aO aN aD bv aY rn kd nu tv), (zaI aS cS 901 fS)]) [0, 1] rfl
    have hDc := hD.sub (ws' := [(zo14irriiiiiirriirrrrlriiii m0 th aS aI im (nI a) (nI p0) (nI E) 0 0 aB aT se dn aG aO aN aD bv aY rn kd nu tv), (zaI aS cS 901 fS)]) [0, 1] (by decide) rfl
    have hKc := hK.sub (tys' := [(cS, .int)]) [0] rfl
    have hFc := va_free (wc := [(zo14irriiiiiirriirrrrlriiii m0 th aS aI im (nI a) (nI p0) (nI E) 0 0 aB aT se dn aG aO aN aD bv aY rn kd nu tv), (zaI aS cS 901 fS)]) hD hS hA [0, 1] rfl
    refine va_callv (va_runV (As := [.int (nI 0 - nI 400), .ref (sK 11)]) (rest := []) ⟨hx, hb, hml, hown, hts⟩ (c_much l dC dI sK sV m0 aS aI aB aT aG aO aN aD aY th im (nI a) (nI p0) (nI E) 0 0 se dn rn kd nu tv bv cS fS a p0 E K ss 400 11 3 H.size (by omega) (by omega) (by omega) ((gI).mono (by omega) (by omega)) (gT) (by decide) (by decide)) (cwV 2 hts gX12_clauseHere_X12_much rfl rfl rfl hd_yX12_much ⟨Nat.le_of_ble_eq_true rfl, Nat.le_of_ble_eq_true rfl⟩) ⟨fun a U g mk q => by obtain ⟨q0, q1, qP, qK, qD, qhE⟩ := q; exact ⟨q0, mvz g mk a q1, mvP g mk a qP, mvK g mk a qK, qD, qhE.mv g mk a⟩, va_recv hK hP (ci := 14) (q := (RX12, TX12, 23)) (q0 := 0) rfl rfl, fun U hU hW => ⟨rfl, by rw [hU], by rw [hU]; exact hPc, va_K.moved hW.alike hKc, hDc.weaken (fun _ _ _ _ => trivial), hE.call hS hU hW (fun q h => hFc q h)⟩⟩ rfl rfl hl.1 rfl (lv_room (Nat.le_of_ble_eq_true rfl)) dX12_clauseHere_65 ⟨Nat.le_of_ble_eq_true rfl, Nat.le_of_ble_eq_true rfl⟩) hS (fun q _ h => hFc q h) hFc (fun u tC H1 locs htC hvm hw_5 hB hz1 hk1 hS => ?_)
    obtain ⟨fS9_6, sp9_7, wg9_8⟩ := u
    try dsimp only at hw_5 hB
    obtain ⟨hP1, hK1, hD1⟩ := hB
    rw [htC] at hP1
    have hK1 := va_K.moved hvm.symm hK1
    obtain ⟨hP, hD⟩ := va_join (wr := []) (w1 := [(zo14irriiiiiirriirrrrlriiii m0 th aS aI im (nI a) sp9_7 (nI E) wg9_8 0 aB aT se dn aG aO aN aD bv aY rn kd nu tv), (zaI aS cS 901 fS9_6)]) hP hD [0, 1] [] rfl rfl (by decide) (by decide) hk1 hFc hP1 hD1
    have hK := (hK.sub (tys' := []) [] rfl).app hK1
    generalize H1 = H at hP hS ⊢
    have hP : va_P (dC, dI) vwCl [(zo14irriiiiiirriirrrrlriiii m0 th aS aI im (nI a) sp9_7 (nI E) wg9_8 0 aB aT se dn aG aO aN aD bv aY rn kd nu tv), (zaI aS cS 901 fS9_6)] H := hP
    have hD : va_D A [(zo14irriiiiiirriirrrrlriiii m0 th aS aI im (nI a) sp9_7 (nI E) wg9_8 0 aB aT se dn aG aO aN aD bv aY rn kd nu tv), (zaI aS cS 901 fS9_6)] := hD
    have hK : va_K (dC, dI) vwCl [(cS, .int)] s := hK
    obtain ⟨p_9, rfl, h_12, h_13, hF_14, q9⟩ := hw_5
    rcases q9 with ⟨rfl, eM_16⟩ | ⟨rfl, v_10, L_11, eM_16, hI_15⟩
    · skip
      refine lv_goto (tgt := 76) hx hb dX12_clauseHere_68 (by decide) ?_
      rw [hQ]
      have hP9 := hP.sub (ws' := [(zo14irriiiiiirriirrrrlriiii m0 th aS aI im (nI a) (nI p_9) (nI E) 1 0 aB aT se dn aG aO aN aD bv aY rn kd nu tv), (zaI aS cS 901 fS9_6)]) [0, 1] rfl
      have hD9 := hD.sub (ws' := [(zo14irriiiiiirriirrrrlriiii m0 th aS aI im (nI a) (nI p_9) (nI E) 1 0 aB aT se dn aG aO aN aD bv aY rn kd nu tv), (zaI aS cS 901 fS9_6)]) [0, 1] (by decide) rfl
      have hK9 := hK.sub (tys' := [(cS, .int)]) [0] rfl
      exact W.vret hx hb hr (fun tQ htQ hWQ => ⟨⟨(fS9_6, (nI p_9), 1), rfl, ⟨p_9, rfl, by omega, by omega, ((PF.rf).tr hF_14).q, Or.inl ⟨rfl, (cl_d hs0).trans eM_16⟩⟩, by rw [htQ]; exact hP9, va_K.moved hWQ.alike hK9, hD9⟩, hS.F htQ⟩) hS.2.2 dX12_clauseHere_76
    · skip
      refine lv_goto (tgt := 76) hx hb dX12_clauseHere_68 (by decide) ?_
      rw [hQ]
      have hP9 := hP.sub (ws' := [(zo14irriiiiiirriirrrrlriiii m0 th aS aI im (nI a) (nI p_9) (nI E) 0 0 aB aT se dn aG aO aN aD bv aY rn kd nu tv), (zaI aS cS 901 fS9_6)]) [0, 1] rfl
      have hD9 := hD.sub (ws' := [(zo14irriiiiiirriirrrrlriiii m0 th aS aI im (nI a) (nI p_9) (nI E) 0 0 aB aT se dn aG aO aN aD bv aY rn kd nu tv), (zaI aS cS 901 fS9_6)]) [0, 1] (by decide) rfl
      have hK9 := hK.sub (tys' := [(cS, .int)]) [0] rfl
      exact W.vret hx hb hr (fun tQ htQ hWQ => ⟨⟨(fS9_6, (nI p_9), 0), rfl, ⟨p_9, rfl, by omega, by omega, ((PF.rf).tr hF_14).q, Or.inr ⟨rfl, (3, v_10, L_11), (cl_d hs0).trans eM_16, hI_15, ((PF.rf).tr hF_14) _ (by omega) (by omega)⟩⟩, by rw [htQ]; exact hP9, va_K.moved hWQ.alike hK9, hD9⟩, hS.F htQ⟩) hS.2.2 dX12_clauseHere_76
  by_cases c_3_104 : r_1 = 104
  · skip
    refine lv_lookup (tgt := 47) hx hb dX12_clauseHere_4 (by decide) (by rw [c_3_104]; first | done | rfl) (by decide) ?_
    have hs0 : ss p0 = 104 := (gT.eq (c := 104) (by omega) (by omega)).mp (by rw [← hw_2, c_3_104]; rfl)
    refine lv_aload_n hx hb dX12_clauseHere_47 rfl (lv_at hl 0 rfl) ?_
    refine lv_sipush (v := (-200)) hx hb dX12_clauseHere_48 (by decide) ?_
    refine qi_as (y := nI 0 - nI 200) (by decide) ?_
    refine va_ldcS hx hb hown (show vk_R RX12 130 "hide " (sK 10) s from hE.1 10 (by decide)) dX12_clauseHere_51 ?_
    have hPc := hP.sub (ws' := [(zo14irriiiiiirriirrrrlriiii m0 th aS aI im (nI a) (nI p0) (nI E) 0 0 aB aT se dn aG aO aN aD bv aY rn kd nu tv), (zaI aS cS 901 fS)]) [0, 1] rfl
    have hDc := hD.sub (ws' := [(zo14irriiiiiirriirrrrlriiii m0 th aS aI im (nI a) (nI p0) (nI E) 0 0 aB aT se dn aG aO aN aD bv aY rn kd nu tv), (zaI aS cS 901 fS)]) [0, 1] (by decide) rfl
    have hKc := hK.sub (tys' := [(cS, .int)]) [0] rfl
    have hFc := va_free (wc := [(zo14irriiiiiirriirrrrlriiii m0 th aS aI im (nI a) (nI p0) (nI E) 0 0 aB aT se dn aG aO aN aD bv aY rn kd nu tv), (zaI aS cS 901 fS)]) hD hS hA [0, 1] rfl
    refine va_callv (va_runV (As := [.int (nI 0 - nI 200), .ref (sK 10)]) (rest := []) ⟨hx, hb, hml, hown, hts⟩ (c_much l dC dI sK sV m0 aS aI aB aT aG aO aN aD aY th im (nI a) (nI p0) (nI E) 0 0 se dn rn kd nu tv bv cS fS a p0 E K ss 200 10 1 H.size (by omega) (by omega) (by omega) ((gI).mono (by omega) (by omega)) (gT) (by decide) (by decide)) (cwV 2 hts gX12_clauseHere_X12_much rfl rfl rfl hd_yX12_much ⟨Nat.le_of_ble_eq_true rfl, Nat.le_of_ble_eq_true rfl⟩) ⟨fun a U g mk q => by obtain ⟨q0, q1, qP, qK, qD, qhE⟩ := q; exact ⟨q0, mvz g mk a q1, mvP g mk a qP, mvK g mk a qK, qD, qhE.mv g mk a⟩, va_recv hK hP (ci := 14) (q := (RX12, TX12, 23)) (q0 := 0) rfl rfl, fun U hU hW => ⟨rfl, by rw [hU], by rw [hU]; exact hPc, va_K.moved hW.alike hKc, hDc.weaken (fun _ _ _ _ => trivial), hE.call hS hU hW (fun q h => hFc q h)⟩⟩ rfl rfl hl.1 rfl (lv_room (Nat.le_of_ble_eq_true rfl)) dX12_clauseHere_53 ⟨Nat.le_of_ble_eq_true rfl, Nat.le_of_ble_eq_true rfl⟩) hS (fun q _ h => hFc q h) hFc (fun u tC H1 locs htC hvm hw_18 hB hz1 hk1 hS => ?_)
    obtain ⟨fS9_19, sp9_20, wg9_21⟩ := u
    try dsimp only at hw_18 hB
    obtain ⟨hP1, hK1, hD1⟩ := hB
    rw [htC] at hP1
    have hK1 := va_K.moved hvm.symm hK1
    obtain ⟨hP, hD⟩ := va_join (wr := []) (w1 := [(zo14irriiiiiirriirrrrlriiii m0 th aS aI im (nI a) sp9_20 (nI E) wg9_21 0 aB aT se dn aG aO aN aD bv aY rn kd nu tv), (zaI aS cS 901 fS9_19)]) hP hD [0, 1] [] rfl rfl (by decide) (by decide) hk1 hFc hP1 hD1
    have hK := (hK.sub (tys' := []) [] rfl).app hK1
    generalize H1 = H at hP hS ⊢
    have hP : va_P (dC, dI) vwCl [(zo14irriiiiiirriirrrrlriiii m0 th aS aI im (nI a) sp9_20 (nI E) wg9_21 0 aB aT se dn aG aO aN aD bv aY rn kd nu tv), (zaI aS cS 901 fS9_19)] H := hP
    have hD : va_D A [(zo14irriiiiiirriirrrrlriiii m0 th aS aI im (nI a) sp9_20 (nI E) wg9_21 0 aB aT se dn aG aO aN aD bv aY rn kd nu tv), (zaI aS cS 901 fS9_19)] := hD
    have hK : va_K (dC, dI) vwCl [(cS, .int)] s := hK
    obtain ⟨p_22, rfl, h_25, h_26, hF_27, q9⟩ := hw_18
    rcases q9 with ⟨rfl, eM_29⟩ | ⟨rfl, v_23, L_24, eM_29, hI_28⟩
    · skip
      refine lv_goto (tgt := 76) hx hb dX12_clauseHere_56 (by decide) ?_
      rw [hQ]
      have hP9 := hP.sub (ws' := [(zo14irriiiiiirriirrrrlriiii m0 th aS aI im (nI a) (nI p_22) (nI E) 1 0 aB aT se dn aG aO aN aD bv aY rn kd nu tv), (zaI aS cS 901 fS9_19)]) [0, 1] rfl
      have hD9 := hD.sub (ws' := [(zo14irriiiiiirriirrrrlriiii m0 th aS aI im (nI a) (nI p_22) (nI E) 1 0 aB aT se dn aG aO aN aD bv aY rn kd nu tv), (zaI aS cS 901 fS9_19)]) [0, 1] (by decide) rfl
      have hK9 := hK.sub (tys' := [(cS, .int)]) [0] rfl
      exact W.vret hx hb hr (fun tQ htQ hWQ => ⟨⟨(fS9_19, (nI p_22), 1), rfl, ⟨p_22, rfl, by omega, by omega, ((PF.rf).tr hF_27).q, Or.inl ⟨rfl, (cl_h hs0).trans eM_29⟩⟩, by rw [htQ]; exact hP9, va_K.moved hWQ.alike hK9, hD9⟩, hS.F htQ⟩) hS.2.2 dX12_clauseHere_76
    · skip
      refine lv_goto (tgt := 76) hx hb dX12_clauseHere_56 (by decide) ?_
      rw [hQ]
      have hP9 := hP.sub (ws' := [(zo14irriiiiiirriirrrrlriiii m0 th aS aI im (nI a) (nI p_22) (nI E) 0 0 aB aT se dn aG aO aN aD bv aY rn kd nu tv), (zaI aS cS 901 fS9_19)]) [0, 1] rfl
      have hD9 := hD.sub (ws' := [(zo14irriiiiiirriirrrrlriiii m0 th aS aI im (nI a) (nI p_22) (nI E) 0 0 aB aT se dn aG aO aN aD bv aY rn kd nu tv), (zaI aS cS 901 fS9_19)]) [0, 1] (by decide) rfl
      have hK9 := hK.sub (tys' := [(cS, .int)]) [0] rfl
      exact W.vret hx hb hr (fun tQ htQ hWQ => ⟨⟨(fS9_19, (nI p_22), 0), rfl, ⟨p_22, rfl, by omega, by omega, ((PF.rf).tr hF_27).q, Or.inr ⟨rfl, (1, v_23, L_24), (cl_h hs0).trans eM_29, hI_28, ((PF.rf).tr hF_27) _ (by omega) (by omega)⟩⟩, by rw [htQ]; exact hP9, va_K.moved hWQ.alike hK9, hD9⟩, hS.F htQ⟩) hS.2.2 dX12_clauseHere_76
  by_cases c_3_115 : r_1 = 115
  · skip
    refine lv_lookup (tgt := 40) hx hb dX12_clauseHere_4 (by decide) (by rw [c_3_115]; first | done | rfl) (by decide) ?_
    have hs0 : ss p0 = 115 := (gT.eq (c := 115) (by omega) (by omega)).mp (by rw [← hw_2, c_3_115]; rfl)
    refine lv_aload_n hx hb dX12_clauseHere_40 rfl (lv_at hl 0 rfl) ?_
    have hPc := hP.sub (ws' := [(zo14irriiiiiirriirrrrlriiii m0 th aS aI im (nI a) (nI p0) (nI E) 0 0 aB aT se dn aG aO aN aD bv aY rn kd nu tv), (zaI aS cS 901 fS)]) [0, 1] rfl
    have hDc := hD.sub (ws' := [(zo14irriiiiiirriirrrrlriiii m0 th aS aI im (nI a) (nI p0) (nI E) 0 0 aB aT se dn aG aO aN aD bv aY rn kd nu tv), (zaI aS cS 901 fS)]) [0, 1] (by decide) rfl
    have hKc := hK.sub (tys' := [(cS, .int)]) [0] rfl
    have hFc := va_free (wc := [(zo14irriiiiiirriirrrrlriiii m0 th aS aI im (nI a) (nI p0) (nI E) 0 0 aB aT se dn aG aO aN aD bv aY rn kd nu tv), (zaI aS cS 901 fS)]) hD hS hA [0, 1] rfl
    refine va_callv (va_runV (As := []) (rest := []) ⟨hx, hb, hml, hown, hts⟩ (c_clauseOfS l dC dI sK sV m0 aS aI aB aT aG aO aN aD aY th im (nI a) (nI p0) (nI E) 0 0 se dn rn kd nu tv bv cS fS a p0 E K ss H.size (by omega) (by omega) (by omega) (gI) (gT) (hs0)) (cwV 0 hts gX12_clauseHere_X12_clauseOfS rfl rfl rfl hd_yX12_clauseOfS ⟨Nat.le_of_ble_eq_true rfl, Nat.le_of_ble_eq_true rfl⟩) ⟨fun a U g mk q => by obtain ⟨q0, q1, qP, qK, qD, qhE⟩ := q; exact ⟨q0, mvz g mk a q1, mvP g mk a qP, mvK g mk a qK, qD, qhE.mv g mk a⟩, va_recv hK hP (ci := 14) (q := (RX12, TX12, 23)) (q0 := 0) rfl rfl, fun U hU hW => ⟨rfl, by rw [hU], by rw [hU]; exact hPc, va_K.moved hW.alike hKc, hDc.weaken (fun _ _ _ _ => trivial), hE.call hS hU hW (fun q h => hFc q h)⟩⟩ rfl rfl hl.1 rfl (lv_room (Nat.le_of_ble_eq_true rfl)) dX12_clauseHere_41 ⟨Nat.le_of_ble_eq_true rfl, Nat.le_of_ble_eq_true rfl⟩) hS (fun q _ h => hFc q h) hFc (fun u tC H1 locs htC hvm hw_31 hB hz1 hk1 hS => ?_)
    obtain ⟨fS9_32, sp9_33, wg9_34⟩ := u
    try dsimp only at hw_31 hB
    obtain ⟨hP1, hK1, hD1⟩ := hB
    rw [htC] at hP1
    have hK1 := va_K.moved hvm.symm hK1
    obtain ⟨hP, hD⟩ := va_join (wr := []) (w1 := [(zo14irriiiiiirriirrrrlriiii m0 th aS aI im (nI a) sp9_33 (nI E) wg9_34 0 aB aT se dn aG aO aN aD bv aY rn kd nu tv), (zaI aS cS 901 fS9_32)]) hP hD [0, 1] [] rfl rfl (by decide) (by decide) hk1 hFc hP1 hD1
    have hK := (hK.sub (tys' := []) [] rfl).app hK1
    generalize H1 = H at hP hS ⊢
    have hP : va_P (dC, dI) vwCl [(zo14irriiiiiirriirrrrlriiii m0 th aS aI im (nI a) sp9_33 (nI E) wg9_34 0 aB aT se dn aG aO aN aD bv aY rn kd nu tv), (zaI aS cS 901 fS9_32)] H := hP
    have hD : va_D A [(zo14irriiiiiirriirrrrlriiii m0 th aS aI im (nI a) sp9_33 (nI E) wg9_34 0 aB aT se dn aG aO aN aD bv aY rn kd nu tv), (zaI aS cS 901 fS9_32)] := hD
    have hK : va_K (dC, dI) vwCl [(cS, .int)] s := hK
    obtain ⟨p_35, rfl, h_37, h_38, hF_39, q9⟩ := hw_31
    rcases q9 with ⟨rfl, eC_42⟩ | ⟨rfl, c_36, eC_42, hI_40, h_41⟩
    · skip
      refine lv_goto (tgt := 76) hx hb dX12_clauseHere_44 (by decide) ?_
      rw [hQ]
      have hP9 := hP.sub (ws' := [(zo14irriiiiiirriirrrrlriiii m0 th aS aI im (nI a) (nI p_35) (nI E) 1 0 aB aT se dn aG aO aN aD bv aY rn kd nu tv), (zaI aS cS 901 fS9_32)]) [0, 1] rfl
      have hD9 := hD.sub (ws' := [(zo14irriiiiiirriirrrrlriiii m0 th aS aI im (nI a) (nI p_35) (nI E) 1 0 aB aT se dn aG aO aN aD bv aY rn kd nu tv), (zaI aS cS 901 fS9_32)]) [0, 1] (by decide) rfl
      have hK9 := hK.sub (tys' := [(cS, .int)]) [0] rfl
      exact W.vret hx hb hr (fun tQ htQ hWQ => ⟨⟨(fS9_32, (nI p_35), 1), rfl, ⟨p_35, rfl, by omega, by omega, hF_39, Or.inl ⟨rfl, eC_42⟩⟩, by rw [htQ]; exact hP9, va_K.moved hWQ.alike hK9, hD9⟩, hS.F htQ⟩) hS.2.2 dX12_clauseHere_76
    · skip
      refine lv_goto (tgt := 76) hx hb dX12_clauseHere_44 (by decide) ?_
      rw [hQ]
      have hP9 := hP.sub (ws' := [(zo14irriiiiiirriirrrrlriiii m0 th aS aI im (nI a) (nI p_35) (nI E) 0 0 aB aT se dn aG aO aN aD bv aY rn kd nu tv), (zaI aS cS 901 fS9_32)]) [0, 1] rfl
      have hD9 := hD.sub (ws' := [(zo14irriiiiiirriirrrrlriiii m0 th aS aI im (nI a) (nI p_35) (nI E) 0 0 aB aT se dn aG aO aN aD bv aY rn kd nu tv), (zaI aS cS 901 fS9_32)]) [0, 1] (by decide) rfl
      have hK9 := hK.sub (tys' := [(cS, .int)]) [0] rfl
      exact W.vret hx hb hr (fun tQ htQ hWQ => ⟨⟨(fS9_32, (nI p_35), 0), rfl, ⟨p_35, rfl, by omega, by omega, hF_39, Or.inr ⟨rfl, c_36, eC_42, hI_40, h_41⟩⟩, by rw [htQ]; exact hP9, va_K.moved hWQ.alike hK9, hD9⟩, hS.F htQ⟩) hS.2.2 dX12_clauseHere_76
  refine lv_lookup (tgt := 71) hx hb dX12_clauseHere_4 (by decide) (lk_out c_3_100 c_3_104 c_3_115) (by decide) ?_
  refine lv_aload_n hx hb dX12_clauseHere_71 rfl (lv_at hl 0 rfl) ?_
  refine lv_iconst (v := 1) hx hb dX12_clauseHere_72 (by decide) ?_
  refine va_put (D := (dC, dI)) (ci := 14) (v := .int 1) (ty := .boolean) (C := RX12) (T := TX12) (N := 23) hx hb hts kc_clauseHere_0 tyX12 tyX12_ok nmX12 hown hK hP hD hS 0 rfl rfl 7 (by decide) (hts (.fieldLink RX12 65 "MistHeapsModel" "isWrong" "Z") kc_clauseHere_1) (fun _ h9 => h9) rfl (by decide +kernel) rfl rfl (Nat.le_of_ble_eq_true rfl) dX12_clauseHere_73 (fun H locs hP hD hS => ?_)
  have hP : va_P (dC, dI) vwCl [(zo14irriiiiiirriirrrrlriiii m0 th aS aI im (nI a) (nI p0) (nI E) 1 0 aB aT se dn aG aO aN aD bv aY rn kd nu tv), (zaI aS cS 901 fS)] H := hP
  have hD : va_D A [(zo14irriiiiiirriirrrrlriiii m0 th aS aI im (nI a) (nI p0) (nI E) 1 0 aB aT se dn aG aO aN aD bv aY rn kd nu tv), (zaI aS cS 901 fS)] := hD
  rw [hQ]
  have hP9 := hP.sub (ws' := [(zo14irriiiiiirriirrrrlriiii m0 th aS aI im (nI a) (nI p0) (nI E) 1 0 aB aT se dn aG aO aN aD bv aY rn kd nu tv), (zaI aS cS 901 fS)]) [0, 1] rfl
  have hD9 := hD.sub (ws' := [(zo14irriiiiiirriirrrrlriiii m0 th aS aI im (nI a) (nI p0) (nI E) 1 0 aB aT se dn aG aO aN aD bv aY rn kd nu tv), (zaI aS cS 901 fS)]) [0, 1] (by decide) rfl
  have hK9 := hK.sub (tys' := [(cS, .int)]) [0] rfl
  exact W.vret hx hb hr (fun tQ htQ hWQ => ⟨⟨(fS, (nI p0), 1), rfl, ⟨p0, rfl, by omega, by omega, PQ.rf, Or.inl ⟨rfl, cl_n (fun z => c_3_115 (hw_2.trans ((gT.eq (c := 115) (by omega) (by omega)).mpr z))) (fun z => c_3_104 (hw_2.trans ((gT.eq (c := 104) (by omega) (by omega)).mpr z))) (fun z => c_3_100 (hw_2.trans ((gT.eq (c := 100) (by omega) (by omega)).mpr z)))⟩⟩, by rw [htQ]; exact hP9, va_K.moved hWQ.alike hK9, hD9⟩, hS.F htQ⟩) hS.2.2 dX12_clauseHere_76
end mg13a
section mg13a

noncomputable def holdH (f : Nat → Int32) (hl : Nat) : Prop := f 5 = -1 ∨ ∃ h : Nat, h < hl ∧ f 5 = nI h ∧ okP f h
theorem holdH.hold {f : Nat → Int32} {hl : Nat} (h : holdH f hl) (hl5 : hl ≤ 5) : hold f := by
  rcases h with h | ⟨k, hk, h⟩
  · exact Or.inl h
  · exact Or.inr ⟨k, by omega, h⟩
theorem okP_of {f g : Nat → Int32} {h : Nat} (hp : okP f h) (he : ∀ i, (i = 196 + h ∨ (201 + 140 * h ≤ i ∧ i < 201 + 140 * h + 140)) → g i = f i) : okP g h := by
  obtain ⟨n, hn, h2, h3⟩ := hp
  refine ⟨n, hn, (he _ (Or.inl rfl)).trans h2, ?_⟩
  rw [sdep_cong (f := fun i => f (201 + 140 * h + i)) (fun i hi => he _ (Or.inr (by omega)))]; exact h3
theorem holdH_of {f g : Nat → Int32} {hl : Nat} (h : holdH f hl) (hl5 : hl ≤ 5) (he : ∀ i, (i = 5 ∨ (196 ≤ i ∧ i < 196 + hl) ∨ (201 ≤ i ∧ i < 201 + 140 * hl)) → g i = f i) : holdH g hl := by
  rcases h with h | ⟨k, hk, h, hp⟩
  · exact Or.inl ((he 5 (Or.inl rfl)).trans h)
  · exact Or.inr ⟨k, hk, (he 5 (Or.inl rfl)).trans h, okP_of hp (fun i hi => he i (by omega))⟩
theorem PI.ok {f : Nat → Int32} {a d p E : Nat} {K : List Nat} (h : PI f a K d p E) : okP f a := by
  obtain ⟨a1, a2, a3, a4, a5, a6, a7, a8⟩ := h
  exact ⟨K.length, by omega, a4, by rw [a7]; exact Option.some_ne_none _⟩
theorem h0_PI {f : Nat → Int32} {a E : Nat} {x : Int32} (ha : a < 5) (hE : E ≤ 100) : PI (upd (upd f (191 + a) x) (196 + a) 0) a [] 0 0 E := ⟨ha, by omega, hE, pk_us, Nat.le_refl _, Nat.le_refl _, rfl, fun i hi => absurd hi (Nat.not_lt_zero i)⟩
theorem sg_stp {f : Int32} {C : List pCla} {c : pCla} {x : Int32} (h : x = if c.1 = 2 then nI c.2.1 else f) (h2 : f = nI (sgC C)) : x = nI (sgC (C ++ [c])) := by
  rw [sgC_add, h]
  split
  · rfl
  · exact h2
theorem hl_s1 {s : Nat → Nat} {E q : Nat} {c : pCla} (h : pCl s 0 = (some c, q)) : pHl s E = pAf s E (10 - 1) ([] ++ [c]) q := by
  rw [show 10 - 1 = 9 from rfl, List.nil_append]; exact hl_s h
theorem PI.fl {f : Nat → Int32} {a d p E : Nat} {C : List pCla} {c : pCla} (h : PI f a (flC C ++ fl1 c) d p E) : PI f a (flC (C ++ [c])) d p E := by rw [flC_add]; exact h
/-- behind a hill: what is kept -/
noncomputable def HQ (f g : Nat → Int32) : Prop := (∃ hl : Nat, hl ≤ 5 ∧ g 1 = nI hl ∧ holdH g hl) ∧ (∃ t : Nat, t ≤ 100 ∧ g 4 = nI t) ∧ ∀ i, i ≠ 1 → i ≠ 4 → i ≠ 5 → i < 191 → g i = f i
theorem HQ_bad {f f0 g : Nat → Int32} {hl : Nat} (h5 : hl < 5) (z1 : f 1 = nI hl) (hH : holdH f hl) (z0 : f0 4 = 0) (hF0 : ∀ i, i ≠ 4 → i ≠ 191 + hl → i ≠ 196 + hl → f0 i = f i) (hF : PQ hl f0 g) : HQ f g := by
  have e : ∀ i, i ≠ 4 → i ≠ 191 + hl → i ≠ 196 + hl → ¬ (201 + 140 * hl ≤ i ∧ i < 201 + 140 * hl + 140) → g i = f i := fun i a b c d => (hF i b c d).trans (hF0 i a b c)
  refine ⟨⟨hl, by omega, (e 1 (by omega) (by omega) (by omega) (by omega)).trans z1, holdH_of hH (by omega) (fun i hi => e i (by omega) (by omega) (by omega) (by omega))⟩, ⟨0, by omega, (hF 4 (by omega) (by omega) (by omega)).trans z0⟩, fun i _ a _ b => e i a (by omega) (by omega) (by omega)⟩
theorem HQ_good {f f0 g : Nat → Int32} {hl p E : Nat} {K : List Nat} (h5 : hl < 5) (z0 : f0 4 = 0) (hF0 : ∀ i, i ≠ 4 → i ≠ 191 + hl → i ≠ 196 + hl → f0 i = f i) (hF : PQ hl f0 g) (hI : PI g hl K 0 p E) : HQ f (upd (upd g 1 (nI (hl + 1))) 5 (nI hl)) := by
  have e : ∀ i, i ≠ 4 → i ≠ 191 + hl → i ≠ 196 + hl → ¬ (201 + 140 * hl ≤ i ∧ i < 201 + 140 * hl + 140) → g i = f i := fun i a b c d => (hF i b c d).trans (hF0 i a b c)
  refine ⟨⟨hl + 1, by omega, (pk_un (by omega)).trans pk_us, Or.inr ⟨hl, by omega, pk_us, okP_of hI.ok (fun i hi => by rw [pk_un (by omega), pk_un (by omega)])⟩⟩, ⟨0, by omega, ?_⟩, fun i a b c d => ?_⟩
  · rw [pk_un (by omega), pk_un (by omega)]; exact (hF 4 (by omega) (by omega) (by omega)).trans z0
  · rw [pk_un c, pk_un a]; exact e i b (by omega) (by omega) (by omega)
end mg13a
section mg13a
theorem ggX12_hill_X12_clauseHere : GoodIn wsX12_hill wsX12_clauseHere := gga_of 1225 rfl rfl rfl
theorem gX12_hill_X12_clauseHere : GoodIn wsX12_hill (wsV RX12 134 RX12 yX12_clauseHere wsX12_clauseHere) := goodIn_app (ggh_of [1222, 1224, 21, 72] rfl rfl rfl) ggX12_hill_X12_clauseHere
theorem ggX12_hill_X12_here : GoodIn wsX12_hill wsX12_here := gga_of 1229 rfl rfl rfl
theorem gX12_hill_X12_here : GoodIn wsX12_hill (wsV RX12 69 RX12 yX12_here wsX12_here) := goodIn_app (ggh_of [1226, 1228, 22, 72] rfl rfl rfl) ggX12_hill_X12_here
noncomputable def dk13ehill_cX12_hill_0 : List (Nat × List Nat) := [(0, [42]), (1, [180, 0, 9]), (4, [4]), (5, [46]), (6, [8]), (7, [160, 0, 6]), (13, [42]), (14, [42]), (15, [180, 0, 9]), (18, [4]), (19, [46]), (20, [181, 0, 86]), (23, [42]), (24, [42]), (25, [180, 0, 9]), (28, [7]), (29, [46]), (30, [181, 0, 62]), (33, [42]), (34, [180, 0, 9]), (37, [7]), (38, [3]), (39, [79]), (40, [42]), (41, [180, 0, 9]), (44, [17, 0, 191]), (47, [42]), (48, [180, 0, 86]), (51, [96]), (52, [6]), (53, [79]), (54, [42]), (55, [180, 0, 9]), (58, [17, 0, 196]), (61, [42]), (62, [180, 0, 86]), (65, [96]), (66, [3]), (67, [79]), (68, [42])]
set_option maxRecDepth 100000 in
theorem dk13ehill_cX12_hill_0_a : btA cX12_hill dk13ehill_cX12_hill_0 = true := by decide +kernel
theorem dX12_hill_0 : decode cX12_hill 0 = .ok (.aload_n 0, 1) := bd42 (btAt dk13ehill_cX12_hill_0_a 0 rfl)
theorem dX12_hill_1 : decode cX12_hill 1 = .ok (.getfield 9, 3) := bd180 (a := 0) (b := 9) (btAt dk13ehill_cX12_hill_0_a 1 rfl)
theorem dX12_hill_4 : decode cX12_hill 4 = .ok (.iconst 1, 1) := bd4 (btAt dk13ehill_cX12_hill_0_a 2 rfl)
theorem dX12_hill_5 : decode cX12_hill 5 = .ok (.iaload, 1) := bd46 (btAt dk13ehill_cX12_hill_0_a 3 rfl)
theorem dX12_hill_6 : decode cX12_hill 6 = .ok (.iconst 5, 1) := bd8 (btAt dk13ehill_cX12_hill_0_a 4 rfl)
theorem dX12_hill_7 : decode cX12_hill 7 = .ok (.if_icmp .ne 6, 3) := bd160 (a := 0) (b := 6) (btAt dk13ehill_cX12_hill_0_a 5 rfl)
theorem dX12_hill_13 : decode cX12_hill 13 = .ok (.aload_n 0, 1) := bd42 (btAt dk13ehill_cX12_hill_0_a 6 rfl)
theorem dX12_hill_14 : decode cX12_hill 14 = .ok (.aload_n 0, 1) := bd42 (btAt dk13ehill_cX12_hill_0_a 7 rfl)
theorem dX12_hill_15 : decode cX12_hill 15 = .ok (.getfield 9, 3) := bd180 (a := 0) (b := 9) (btAt dk13ehill_cX12_hill_0_a 8 rfl)
theorem dX12_hill_18 : decode cX12_hill 18 = .ok (.iconst 1, 1) := bd4 (btAt dk13ehill_cX12_hill_0_a 9 rfl)
theorem dX12_hill_19 : decode cX12_hill 19 = .ok (.iaload, 1) := bd46 (btAt dk13ehill_cX12_hill_0_a 10 rfl)
theorem dX12_hill_20 : decode cX12_hill 20 = .ok (.putfield 86, 3) := bd181 (a := 0) (b := 86) (btAt dk13ehill_cX12_hill_0_a 11 rfl)
theorem dX12_hill_23 : decode cX12_hill 23 = .ok (.aload_n 0, 1) := bd42 (btAt dk13ehill_cX12_hill_0_a 12 rfl)
theorem dX12_hill_24 : decode cX12_hill 24 = .ok (.aload_n 0, 1) := bd42 (btAt dk13ehill_cX12_hill_0_a 13 rfl)
theorem dX12_hill_25 : decode cX12_hill 25 = .ok (.getfield 9, 3) := bd180 (a := 0) (b := 9) (btAt dk13ehill_cX12_hill_0_a 14 rfl)
theorem dX12_hill_28 : decode cX12_hill 28 = .ok (.iconst 4, 1) := bd7 (btAt dk13ehill_cX12_hill_0_a 15 rfl)
theorem dX12_hill_29 : decode cX12_hill 29 = .ok (.iaload, 1) := bd46 (btAt dk13ehill_cX12_hill_0_a 16 rfl)
theorem dX12_hill_30 : decode cX12_hill 30 = .ok (.putfield 62, 3) := bd181 (a := 0) (b := 62) (btAt dk13ehill_cX12_hill_0_a 17 rfl)
theorem dX12_hill_33 : decode cX12_hill 33 = .ok (.aload_n 0, 1) := bd42 (btAt dk13ehill_cX12_hill_0_a 18 rfl)
theorem dX12_hill_34 : decode cX12_hill 34 = .ok (.getfield 9, 3) := bd180 (a := 0) (b := 9) (btAt dk13ehill_cX12_hill_0_a 19 rfl)
theorem dX12_hill_37 : decode cX12_hill 37 = .ok (.iconst 4, 1) := bd7 (btAt dk13ehill_cX12_hill_0_a 20 rfl)
theorem dX12_hill_38 : decode cX12_hill 38 = .ok (.iconst 0, 1) := bd3 (btAt dk13ehill_cX12_hill_0_a 21 rfl)
theorem dX12_hill_39 : decode cX12_hill 39 = .ok (.iastore, 1) := bd79 (btAt dk13ehill_cX12_hill_0_a 22 rfl)
theorem dX12_hill_40 : decode cX12_hill 40 = .ok (.aload_n 0, 1) := bd42 (btAt dk13ehill_cX12_hill_0_a 23 rfl)
theorem dX12_hill_41 : decode cX12_hill 41 = .ok (.getfield 9, 3) := bd180 (a := 0) (b := 9) (btAt dk13ehill_cX12_hill_0_a 24 rfl)
theorem dX12_hill_44 : decode cX12_hill 44 = .ok (.sipush 191, 3) := bd17 (a := 0) (b := 191) (btAt dk13ehill_cX12_hill_0_a 25 rfl)
theorem dX12_hill_47 : decode cX12_hill 47 = .ok (.aload_n 0, 1) := bd42 (btAt dk13ehill_cX12_hill_0_a 26 rfl)
theorem dX12_hill_48 : decode cX12_hill 48 = .ok (.getfield 86, 3) := bd180 (a := 0) (b := 86) (btAt dk13ehill_cX12_hill_0_a 27 rfl)
theorem dX12_hill_51 : decode cX12_hill 51 = .ok (.iadd, 1) := bd96 (btAt dk13ehill_cX12_hill_0_a 28 rfl)
theorem dX12_hill_52 : decode cX12_hill 52 = .ok (.iconst 3, 1) := bd6 (btAt dk13ehill_cX12_hill_0_a 29 rfl)
theorem dX12_hill_53 : decode cX12_hill 53 = .ok (.iastore, 1) := bd79 (btAt dk13ehill_cX12_hill_0_a 30 rfl)
theorem dX12_hill_54 : decode cX12_hill 54 = .ok (.aload_n 0, 1) := bd42 (btAt dk13ehill_cX12_hill_0_a 31 rfl)
theorem dX12_hill_55 : decode cX12_hill 55 = .ok (.getfield 9, 3) := bd180 (a := 0) (b := 9) (btAt dk13ehill_cX12_hill_0_a 32 rfl)
theorem dX12_hill_58 : decode cX12_hill 58 = .ok (.sipush 196, 3) := bd17 (a := 0) (b := 196) (btAt dk13ehill_cX12_hill_0_a 33 rfl)
theorem dX12_hill_61 : decode cX12_hill 61 = .ok (.aload_n 0, 1) := bd42 (btAt dk13ehill_cX12_hill_0_a 34 rfl)
theorem dX12_hill_62 : decode cX12_hill 62 = .ok (.getfield 86, 3) := bd180 (a := 0) (b := 86) (btAt dk13ehill_cX12_hill_0_a 35 rfl)
theorem dX12_hill_65 : decode cX12_hill 65 = .ok (.iadd, 1) := bd96 (btAt dk13ehill_cX12_hill_0_a 36 rfl)
theorem dX12_hill_66 : decode cX12_hill 66 = .ok (.iconst 0, 1) := bd3 (btAt dk13ehill_cX12_hill_0_a 37 rfl)
theorem dX12_hill_67 : decode cX12_hill 67 = .ok (.iastore, 1) := bd79 (btAt dk13ehill_cX12_hill_0_a 38 rfl)
theorem dX12_hill_68 : decode cX12_hill 68 = .ok (.aload_n 0, 1) := bd42 (btAt dk13ehill_cX12_hill_0_a 39 rfl)
noncomputable def dk13ehill_cX12_hill_40 : List (Nat × List Nat) := [(69, [3]), (70, [181, 0, 59]), (73, [42]), (74, [3]), (75, [181, 0, 65]), (78, [42]), (79, [3]), (80, [181, 0, 89]), (83, [4]), (84, [60]), (85, [42]), (86, [182, 0, 134]), (89, [42]), (90, [180, 0, 65]), (93, [154, 0, 38]), (96, [27]), (97, [16, 10]), (99, [162, 0, 32]), (131, [42]), (132, [180, 0, 65]), (135, [154, 0, 14]), (138, [42]), (139, [180, 0, 59]), (142, [42]), (143, [180, 0, 62]), (146, [159, 0, 11]), (149, [16, 246]), (151, [42]), (152, [180, 0, 59]), (155, [100]), (156, [172]), (157, [42]), (158, [180, 0, 9]), (161, [4]), (162, [92]), (163, [46]), (164, [4]), (165, [96]), (166, [79]), (167, [42])]
set_option maxRecDepth 100000 in
theorem dk13ehill_cX12_hill_40_a : btA cX12_hill dk13ehill_cX12_hill_40 = true := by decide +kernel
theorem dX12_hill_69 : decode cX12_hill 69 = .ok (.iconst 0, 1) := bd3 (btAt dk13ehill_cX12_hill_40_a 0 rfl)
theorem dX12_hill_70 : decode cX12_hill 70 = .ok (.putfield 59, 3) := bd181 (a := 0) (b := 59) (btAt dk13ehill_cX12_hill_40_a 1 rfl)
theorem dX12_hill_73 : decode cX12_hill 73 = .ok (.aload_n 0, 1) := bd42 (btAt dk13ehill_cX12_hill_40_a 2 rfl)
theorem dX12_hill_74 : decode cX12_hill 74 = .ok (.iconst 0, 1) := bd3 (btAt dk13ehill_cX12_hill_40_a 3 rfl)
theorem dX12_hill_75 : decode cX12_hill 75 = .ok (.putfield 65, 3) := bd181 (a := 0) (b := 65) (btAt dk13ehill_cX12_hill_40_a 4 rfl)
theorem dX12_hill_78 : decode cX12_hill 78 = .ok (.aload_n 0, 1) := bd42 (btAt dk13ehill_cX12_hill_40_a 5 rfl)
theorem dX12_hill_79 : decode cX12_hill 79 = .ok (.iconst 0, 1) := bd3 (btAt dk13ehill_cX12_hill_40_a 6 rfl)
theorem dX12_hill_80 : decode cX12_hill 80 = .ok (.putfield 89, 3) := bd181 (a := 0) (b := 89) (btAt dk13ehill_cX12_hill_40_a 7 rfl)
theorem dX12_hill_83 : decode cX12_hill 83 = .ok (.iconst 1, 1) := bd4 (btAt dk13ehill_cX12_hill_40_a 8 rfl)
theorem dX12_hill_84 : decode cX12_hill 84 = .ok (.istore_n 1, 1) := bd60 (btAt dk13ehill_cX12_hill_40_a 9 rfl)
theorem dX12_hill_85 : decode cX12_hill 85 = .ok (.aload_n 0, 1) := bd42 (btAt dk13ehill_cX12_hill_40_a 10 rfl)
theorem dX12_hill_86 : decode cX12_hill 86 = .ok (.invokevirtual 134, 3) := bd182 (a := 0) (b := 134) (btAt dk13ehill_cX12_hill_40_a 11 rfl)
theorem dX12_hill_89 : decode cX12_hill 89 = .ok (.aload_n 0, 1) := bd42 (btAt dk13ehill_cX12_hill_40_a 12 rfl)
theorem dX12_hill_90 : decode cX12_hill 90 = .ok (.getfield 65, 3) := bd180 (a := 0) (b := 65) (btAt dk13ehill_cX12_hill_40_a 13 rfl)
theorem dX12_hill_93 : decode cX12_hill 93 = .ok (.ifCond .ne 38, 3) := bd154 (a := 0) (b := 38) (btAt dk13ehill_cX12_hill_40_a 14 rfl)
theorem dX12_hill_96 : decode cX12_hill 96 = .ok (.iload_n 1, 1) := bd27 (btAt dk13ehill_cX12_hill_40_a 15 rfl)
theorem dX12_hill_97 : decode cX12_hill 97 = .ok (.bipush 10, 2) := bd16 (a := 10) (btAt dk13ehill_cX12_hill_40_a 16 rfl)
theorem dX12_hill_99 : decode cX12_hill 99 = .ok (.if_icmp .ge 32, 3) := bd162 (a := 0) (b := 32) (btAt dk13ehill_cX12_hill_40_a 17 rfl)
theorem dX12_hill_131 : decode cX12_hill 131 = .ok (.aload_n 0, 1) := bd42 (btAt dk13ehill_cX12_hill_40_a 18 rfl)
theorem dX12_hill_132 : decode cX12_hill 132 = .ok (.getfield 65, 3) := bd180 (a := 0) (b := 65) (btAt dk13ehill_cX12_hill_40_a 19 rfl)
theorem dX12_hill_135 : decode cX12_hill 135 = .ok (.ifCond .ne 14, 3) := bd154 (a := 0) (b := 14) (btAt dk13ehill_cX12_hill_40_a 20 rfl)
theorem dX12_hill_138 : decode cX12_hill 138 = .ok (.aload_n 0, 1) := bd42 (btAt dk13ehill_cX12_hill_40_a 21 rfl)
theorem dX12_hill_139 : decode cX12_hill 139 = .ok (.getfield 59, 3) := bd180 (a := 0) (b := 59) (btAt dk13ehill_cX12_hill_40_a 22 rfl)
theorem dX12_hill_142 : decode cX12_hill 142 = .ok (.aload_n 0, 1) := bd42 (btAt dk13ehill_cX12_hill_40_a 23 rfl)
theorem dX12_hill_143 : decode cX12_hill 143 = .ok (.getfield 62, 3) := bd180 (a := 0) (b := 62) (btAt dk13ehill_cX12_hill_40_a 24 rfl)
theorem dX12_hill_146 : decode cX12_hill 146 = .ok (.if_icmp .eq 11, 3) := bd159 (a := 0) (b := 11) (btAt dk13ehill_cX12_hill_40_a 25 rfl)
theorem dX12_hill_149 : decode cX12_hill 149 = .ok (.bipush (-10), 2) := bd16 (a := 246) (btAt dk13ehill_cX12_hill_40_a 26 rfl)
theorem dX12_hill_151 : decode cX12_hill 151 = .ok (.aload_n 0, 1) := bd42 (btAt dk13ehill_cX12_hill_40_a 27 rfl)
theorem dX12_hill_152 : decode cX12_hill 152 = .ok (.getfield 59, 3) := bd180 (a := 0) (b := 59) (btAt dk13ehill_cX12_hill_40_a 28 rfl)
theorem dX12_hill_155 : decode cX12_hill 155 = .ok (.isub, 1) := bd100 (btAt dk13ehill_cX12_hill_40_a 29 rfl)
theorem dX12_hill_156 : decode cX12_hill 156 = .ok (.ireturn, 1) := bd172 (btAt dk13ehill_cX12_hill_40_a 30 rfl)
theorem dX12_hill_157 : decode cX12_hill 157 = .ok (.aload_n 0, 1) := bd42 (btAt dk13ehill_cX12_hill_40_a 31 rfl)
theorem dX12_hill_158 : decode cX12_hill 158 = .ok (.getfield 9, 3) := bd180 (a := 0) (b := 9) (btAt dk13ehill_cX12_hill_40_a 32 rfl)
theorem dX12_hill_161 : decode cX12_hill 161 = .ok (.iconst 1, 1) := bd4 (btAt dk13ehill_cX12_hill_40_a 33 rfl)
theorem dX12_hill_162 : decode cX12_hill 162 = .ok (.dup2, 1) := bd92 (btAt dk13ehill_cX12_hill_40_a 34 rfl)
theorem dX12_hill_163 : decode cX12_hill 163 = .ok (.iaload, 1) := bd46 (btAt dk13ehill_cX12_hill_40_a 35 rfl)
theorem dX12_hill_164 : decode cX12_hill 164 = .ok (.iconst 1, 1) := bd4 (btAt dk13ehill_cX12_hill_40_a 36 rfl)
theorem dX12_hill_165 : decode cX12_hill 165 = .ok (.iadd, 1) := bd96 (btAt dk13ehill_cX12_hill_40_a 37 rfl)
theorem dX12_hill_166 : decode cX12_hill 166 = .ok (.iastore, 1) := bd79 (btAt dk13ehill_cX12_hill_40_a 38 rfl)
theorem dX12_hill_167 : decode cX12_hill 167 = .ok (.aload_n 0, 1) := bd42 (btAt dk13ehill_cX12_hill_40_a 39 rfl)
noncomputable def dk13ehill_cX12_hill_80 : List (Nat × List Nat) := [(10, [16, 252]), (12, [172]), (102, [42]), (103, [182, 0, 69]), (106, [16, 59]), (108, [160, 0, 23]), (111, [42]), (112, [89]), (113, [180, 0, 59]), (116, [4]), (117, [96]), (118, [181, 0, 59]), (121, [42]), (122, [182, 0, 134]), (125, [132, 1, 1]), (128, [167, 255, 217]), (168, [180, 0, 9]), (171, [8]), (172, [42]), (173, [180, 0, 86]), (176, [79]), (177, [42]), (178, [180, 0, 86]), (181, [172])]
set_option maxRecDepth 100000 in
theorem dk13ehill_cX12_hill_80_a : btA cX12_hill dk13ehill_cX12_hill_80 = true := by decide +kernel
theorem dX12_hill_10 : decode cX12_hill 10 = .ok (.bipush (-4), 2) := bd16 (a := 252) (btAt dk13ehill_cX12_hill_80_a 0 rfl)
theorem dX12_hill_12 : decode cX12_hill 12 = .ok (.ireturn, 1) := bd172 (btAt dk13ehill_cX12_hill_80_a 1 rfl)
theorem dX12_hill_102 : decode cX12_hill 102 = .ok (.aload_n 0, 1) := bd42 (btAt dk13ehill_cX12_hill_80_a 2 rfl)
theorem dX12_hill_103 : decode cX12_hill 103 = .ok (.invokevirtual 69, 3) := bd182 (a := 0) (b := 69) (btAt dk13ehill_cX12_hill_80_a 3 rfl)
theorem dX12_hill_106 : decode cX12_hill 106 = .ok (.bipush 59, 2) := bd16 (a := 59) (btAt dk13ehill_cX12_hill_80_a 4 rfl)
theorem dX12_hill_108 : decode cX12_hill 108 = .ok (.if_icmp .ne 23, 3) := bd160 (a := 0) (b := 23) (btAt dk13ehill_cX12_hill_80_a 5 rfl)
theorem dX12_hill_111 : decode cX12_hill 111 = .ok (.aload_n 0, 1) := bd42 (btAt dk13ehill_cX12_hill_80_a 6 rfl)
theorem dX12_hill_112 : decode cX12_hill 112 = .ok (.dup, 1) := bd89 (btAt dk13ehill_cX12_hill_80_a 7 rfl)
theorem dX12_hill_113 : decode cX12_hill 113 = .ok (.getfield 59, 3) := bd180 (a := 0) (b := 59) (btAt dk13ehill_cX12_hill_80_a 8 rfl)
theorem dX12_hill_116 : decode cX12_hill 116 = .ok (.iconst 1, 1) := bd4 (btAt dk13ehill_cX12_hill_80_a 9 rfl)
theorem dX12_hill_117 : decode cX12_hill 117 = .ok (.iadd, 1) := bd96 (btAt dk13ehill_cX12_hill_80_a 10 rfl)
theorem dX12_hill_118 : decode cX12_hill 118 = .ok (.putfield 59, 3) := bd181 (a := 0) (b := 59) (btAt dk13ehill_cX12_hill_80_a 11 rfl)
theorem dX12_hill_121 : decode cX12_hill 121 = .ok (.aload_n 0, 1) := bd42 (btAt dk13ehill_cX12_hill_80_a 12 rfl)
theorem dX12_hill_122 : decode cX12_hill 122 = .ok (.invokevirtual 134, 3) := bd182 (a := 0) (b := 134) (btAt dk13ehill_cX12_hill_80_a 13 rfl)
theorem dX12_hill_125 : decode cX12_hill 125 = .ok (.iinc 1 1, 3) := bd132 (a := 1) (b := 1) (btAt dk13ehill_cX12_hill_80_a 14 rfl)
theorem dX12_hill_128 : decode cX12_hill 128 = .ok (.goto (-39), 3) := bd167 (a := 255) (b := 217) (btAt dk13ehill_cX12_hill_80_a 15 rfl)
theorem dX12_hill_168 : decode cX12_hill 168 = .ok (.getfield 9, 3) := bd180 (a := 0) (b := 9) (btAt dk13ehill_cX12_hill_80_a 16 rfl)
theorem dX12_hill_171 : decode cX12_hill 171 = .ok (.iconst 5, 1) := bd8 (btAt dk13ehill_cX12_hill_80_a 17 rfl)
theorem dX12_hill_172 : decode cX12_hill 172 = .ok (.aload_n 0, 1) := bd42 (btAt dk13ehill_cX12_hill_80_a 18 rfl)
theorem dX12_hill_173 : decode cX12_hill 173 = .ok (.getfield 86, 3) := bd180 (a := 0) (b := 86) (btAt dk13ehill_cX12_hill_80_a 19 rfl)
theorem dX12_hill_176 : decode cX12_hill 176 = .ok (.iastore, 1) := bd79 (btAt dk13ehill_cX12_hill_80_a 20 rfl)
theorem dX12_hill_177 : decode cX12_hill 177 = .ok (.aload_n 0, 1) := bd42 (btAt dk13ehill_cX12_hill_80_a 21 rfl)
theorem dX12_hill_178 : decode cX12_hill 178 = .ok (.getfield 86, 3) := bd180 (a := 0) (b := 86) (btAt dk13ehill_cX12_hill_80_a 22 rfl)
theorem dX12_hill_181 : decode cX12_hill 181 = .ok (.ireturn, 1) := bd172 (btAt dk13ehill_cX12_hill_80_a 23 rfl)
theorem kc_mHill_0 : ∀ w ∈ wsX120, w ∈ wsX12_hill := fun w h => List.mem_cons_of_mem _ (gin_wsX120 w h)
theorem kc_mHill_1 : (.fieldLink RX12 9 "MistHeapsModel" "s" "[I" : Cond) ∈ wsX12_hill := kc_of 1141 rfl rfl rfl
theorem kc_mHill_2 : (.fieldLink RX12 86 "MistHeapsModel" "act" "I" : Cond) ∈ wsX12_hill := kc_of 1144 rfl rfl rfl
theorem kc_mHill_3 : (.fieldLink RX12 62 "MistHeapsModel" "end" "I" : Cond) ∈ wsX12_hill := kc_of 1146 rfl rfl rfl
theorem kc_mHill_4 : (.fieldLink RX12 59 "MistHeapsModel" "spot" "I" : Cond) ∈ wsX12_hill := kc_of 1145 rfl rfl rfl
theorem kc_mHill_5 : (.fieldLink RX12 65 "MistHeapsModel" "isWrong" "Z" : Cond) ∈ wsX12_hill := kc_of 1147 rfl rfl rfl
theorem kc_mHill_6 : (.fieldLink RX12 89 "MistHeapsModel" "open" "I" : Cond) ∈ wsX12_hill := kc_of 1148 rfl rfl rfl
set_option maxHeartbeats 4000000 in
set_option maxRecDepth 100000 in
theorem c_mHill (l : Launch) (dC : Nat → ClassId) (dI : Nat → Nat → Nat) (sK sV : Nat → Nat) (m0 aS aI aB aT aG aO aN aD aY : Nat) (th im ac sp en wg op se dn rn kd nu tv : Int32) (bv : Int64) (cS : ClassId) (fS : Nat → Int32) (nl tp : Nat) (ss : Nat → Nat) (sz : Nat) (z1 : fS 1 = nI nl) (h5 : nl ≤ 5) (zt : fS 4 = nI tp) (ht : tp ≤ 100) (hHd : holdH fS nl) (gT : TP fS tp ss) : Met l yX12_hill wsX12_hill ({ frames := 26, cells := 0, slots := 0, locals := 555 } : Room) (va_Pc [.ref m0] (fun U => U.heap.size = sz ∧ va_P (dC, dI) vwCl [(zo14irriiiiiirriirrrrlriiii m0 th aS aI im ac sp en wg op aB aT se dn aG aO aN aD bv aY rn kd nu tv), (zaI aS cS 901 fS)] U.heap ∧ va_K (dC, dI) vwCl [(cS, .int)] U ∧ va_D (fun _ => True) [(zo14irriiiiiirriirrrrlriiii m0 th aS aI im ac sp en wg op aB aT se dn aG aO aN aD bv aY rn kd nu tv), (zaI aS cS 901 fS)] ∧ Gs sK sV (va_A [(zo14irriiiiiirriirrrrlriiii m0 th aS aI im ac sp en wg op aB aT se dn aG aO aN aD bv aY rn kd nu tv), (zaI aS cS 901 fS)] sz) U)) (va_Qi (fun (r : Int32) (u : (Nat → Int32) × (Int32) × (Int32) × (Int32) × (Int32) × (Int32)) => match u with | (fS9, ac9, sp9, en9, wg9, op9) => (nl = 5 ∧ r = -4 ∧ fS9 = fS) ∨ (nl < 5 ∧ HQ fS fS9 ∧ fS9 4 = 0 ∧ ((∃ q : Nat, q ≤ 100 ∧ pHl ss tp = (none, q) ∧ r = -10 - nI q ∧ ∀ i, i ≠ 4 → i ≠ 191 + nl → i ≠ 196 + nl → ¬ (201 + 140 * nl ≤ i ∧ i < 201 + 140 * nl + 140) → fS9 i = fS i) ∨ (∃ (C : List pCla) (q : Nat), pHl ss tp = (some C, q) ∧ r = nI nl ∧ fS9 1 = nI (nl + 1) ∧ fS9 5 = nI nl ∧ CDh fS9 nl C)))) (fun (u : (Nat → Int32) × (Int32) × (Int32) × (Int32) × (Int32) × (Int32)) (t : State) => match u with | (fS9, ac9, sp9, en9, wg9, op9) => va_P (dC, dI) vwCl [(zo14irriiiiiirriirrrrlriiii m0 th aS aI im ac9 sp9 en9 wg9 op9 aB aT se dn aG aO aN aD bv aY rn kd nu tv), (zaI aS cS 901 fS9)] t.heap ∧ va_K (dC, dI) vwCl [(cS, .int)] t ∧ va_D (va_A [(zo14irriiiiiirriirrrrlriiii m0 th aS aI im ac sp en wg op aB aT se dn aG aO aN aD bv aY rn kd nu tv), (zaI aS cS 901 fS)] sz) [(zo14irriiiiiirriirrrrlriiii m0 th aS aI im ac9 sp9 en9 wg9 op9 aB aT se dn aG aO aN aD bv aY rn kd nu tv), (zaI aS cS 901 fS9)]) (va_A [(zo14irriiiiiirriirrrrlriiii m0 th aS aI im ac sp en wg op aB aT se dn aG aO aN aD bv aY rn kd nu tv), (zaI aS cS 901 fS)] sz)) 0 0 (va_A [(zo14irriiiiiirriirrrrlriiii m0 th aS aI im ac sp en wg op aB aT se dn aG aO aN aD bv aY rn kd nu tv), (zaI aS cS 901 fS)] sz) := by
  refine met_ofQ (cc := cX12_hill) (maxL := 2) (ret := (some .int)) (by decide) rfl ?_
  intro p e s m args below meth c s₁ Q B hml hv hQ
  obtain ⟨rfl, hsz, hP, hK, hD0, hE⟩ := hv
  have hx := B.exec
  have hb := B.bytes
  have hr := B.returns
  have hts := atoms_spec (ws := wsX12_hill) B.pre
  have hown : s.vm.findClass RX12 = some m.cls := findClass_of_methodNamed B.named
  have hlocks := B.notSynchronized
  subst hsz
  have hD := hD0.self (sz := s.heap.size)
  generalize hAe : va_A [(zo14irriiiiiirriirrrrlriiii m0 th aS aI im ac sp en wg op aB aT se dn aG aO aN aD bv aY rn kd nu tv), (zaI aS cS 901 fS)] s.heap.size = A at hD hQ hE ⊢
  have hA : ∀ q : Nat, s.heap.size ≤ q → A q := fun q h => by rw [← hAe]; exact Or.inr h
  have hS : va_S A s.heap s.heap [] := va_S.rf
  have hl := lv_entry [.ref m0] (n := 2) (Nat.le_of_ble_eq_true rfl)
  rw [lg_entry_eq]
  generalize (lg_sl [.ref m0] ++ List.replicate (2 - (lg_sl [.ref m0]).length) Slot.unset).toArray = ls at hl ⊢
  generalize hag : ([.ref m0] : List Value).toArray = args at hts hQ ⊢
  have hl : lv_has ls 2 [(0, .ref m0)] := hl
  obtain ⟨H, hH⟩ : ∃ H : Heap, H = s.heap := ⟨_, rfl⟩
  rw [← hH] at hP
  rw [← hH]
  have hS : va_S A s.heap H [] := by rw [hH]; exact hS
  obtain ⟨locs, hlo⟩ : ∃ L : List Loc, L = [] := ⟨_, rfl⟩
  rw [← hlo] at hS
  rw [← hlo]
  clear hH hlo
  refine lv_aload_n hx hb dX12_hill_0 rfl (lv_at hl 0 rfl) ?_
  refine va_get (D := (dC, dI)) (ci := 14) (v := .ref aS) (C := RX12) (T := TX12) (N := 23) hx hb hts kc_mHill_0 hown hK hP 0 rfl rfl 1 (by decide) (hts (.fieldLink RX12 9 "MistHeapsModel" "s" "[I") kc_mHill_1) (fun _ h9 => h9) rfl dX12_hill_1 ?_
  refine lv_iconst (v := 1) hx hb dX12_hill_4 (by decide) ?_
  refine va_iald hx hb hK hP 1 0 rfl rfl (vp_in_nI (n := 1) (N := 901) (by omega) (by omega)) dX12_hill_5 ?_
  refine qi_as (y := nI nl) ((show fS (1 : Int32).toNatClampNeg = fS 1 from rfl).trans (z1)) ?_
  refine lv_iconst (v := 5) hx hb dX12_hill_6 (by decide) ?_
  refine lv_icmp_ne (tgt := 13) hx hb dX12_hill_7 (by decide) (fun c_1 => ?_) (fun c_1 => ?_)
  · skip
    have c_1 : ¬ nl = 5 := fun q => c_1 ((nI_eq (a := nl) (b := 5) (by omega) (by omega)).mpr q)
    refine lv_aload_n hx hb dX12_hill_13 rfl (lv_at hl 0 rfl) ?_
    refine lv_aload_n hx hb dX12_hill_14 rfl (lv_at hl 0 rfl) ?_
    refine va_get (D := (dC, dI)) (ci := 14) (v := .ref aS) (C := RX12) (T := TX12) (N := 23) hx hb hts kc_mHill_0 hown hK hP 0 rfl rfl 1 (by decide) (hts (.fieldLink RX12 9 "MistHeapsModel" "s" "[I") kc_mHill_1) (fun _ h9 => h9) rfl dX12_hill_15 ?_
    refine lv_iconst (v := 1) hx hb dX12_hill_18 (by decide) ?_
    refine va_iald hx hb hK hP 1 0 rfl rfl (vp_in_nI (n := 1) (N := 901) (by omega) (by omega)) dX12_hill_19 ?_
    refine qi_as (y := nI nl) ((show fS (1 : Int32).toNatClampNeg = fS 1 from rfl).trans (z1)) ?_
    refine va_put (D := (dC, dI)) (ci := 14) (v := .int (nI nl)) (ty := .int) (C := RX12) (T := TX12) (N := 23) hx hb hts kc_mHill_0 tyX12 tyX12_ok nmX12 hown hK hP hD hS 0 rfl rfl 4 (by decide) (hts (.fieldLink RX12 86 "MistHeapsModel" "act" "I") kc_mHill_2) (fun _ h9 => h9) rfl (by decide +kernel) rfl rfl (Nat.le_of_ble_eq_true rfl) dX12_hill_20 (fun H locs hP hD hS => ?_)
    have hP : va_P (dC, dI) vwCl [(zo14irriiiiiirriirrrrlriiii m0 th aS aI im (nI nl) sp en wg op aB aT se dn aG aO aN aD bv aY rn kd nu tv), (zaI aS cS 901 fS)] H := hP
    have hD : va_D A [(zo14irriiiiiirriirrrrlriiii m0 th aS aI im (nI nl) sp en wg op aB aT se dn aG aO aN aD bv aY rn kd nu tv), (zaI aS cS 901 fS)] := hD
    refine lv_aload_n hx hb dX12_hill_23 rfl (lv_at hl 0 rfl) ?_
    refine lv_aload_n hx hb dX12_hill_24 rfl (lv_at hl 0 rfl) ?_
    refine va_get (D := (dC, dI)) (ci := 14) (v := .ref aS) (C := RX12) (T := TX12) (N := 23) hx hb hts kc_mHill_0 hown hK hP 0 rfl rfl 1 (by decide) (hts (.fieldLink RX12 9 "MistHeapsModel" "s" "[I") kc_mHill_1) (fun _ h9 => h9) rfl dX12_hill_25 ?_
    refine lv_iconst (v := 4) hx hb dX12_hill_28 (by decide) ?_
    refine va_iald hx hb hK hP 1 0 rfl rfl (vp_in_nI (n := 4) (N := 901) (by omega) (by omega)) dX12_hill_29 ?_
    refine qi_as (y := nI tp) ((show fS (4 : Int32).toNatClampNeg = fS 4 from rfl).trans (zt)) ?_
    refine va_put (D := (dC, dI)) (ci := 14) (v := .int (nI tp)) (ty := .int) (C := RX12) (T := TX12) (N := 23) hx hb hts kc_mHill_0 tyX12 tyX12_ok nmX12 hown hK hP hD hS 0 rfl rfl 6 (by decide) (hts (.fieldLink RX12 62 "MistHeapsModel" "end" "I") kc_mHill_3) (fun _ h9 => h9) rfl (by decide +kernel) rfl rfl (Nat.le_of_ble_eq_true rfl) dX12_hill_30 (fun H locs hP hD hS => ?_)
    have hP : va_P (dC, dI) vwCl [(zo14irriiiiiirriirrrrlriiii m0 th aS aI im (nI nl) sp (nI tp) wg op aB aT se dn aG aO aN aD bv aY rn kd nu tv), (zaI aS cS 901 fS)] H := hP
    have hD : va_D A [(zo14irriiiiiirriirrrrlriiii m0 th aS aI im (nI nl) sp (nI tp) wg op aB aT se dn aG aO aN aD bv aY rn kd nu tv), (zaI aS cS 901 fS)] := hD
    refine lv_aload_n hx hb dX12_hill_33 rfl (lv_at hl 0 rfl) ?_
    refine va_get (D := (dC, dI)) (ci := 14) (v := .ref aS) (C := RX12) (T := TX12) (N := 23) hx hb hts kc_mHill_0 hown hK hP 0 rfl rfl 1 (by decide) (hts (.fieldLink RX12 9 "MistHeapsModel" "s" "[I") kc_mHill_1) (fun _ h9 => h9) rfl dX12_hill_34 ?_
    refine lv_iconst (v := 4) hx hb dX12_hill_37 (by decide) ?_
    refine lv_iconst (v := 0) hx hb dX12_hill_38 (by decide) ?_
    refine va_iast hx hb hK hP hD hS 1 0 rfl rfl (vp_in_nI (n := 4) (N := 901) (by omega) (by omega)) dX12_hill_39 (fun H locs hP hD hS => ?_)
    have hP : va_P (dC, dI) vwCl [(zo14irriiiiiirriirrrrlriiii m0 th aS aI im (nI nl) sp (nI tp) wg op aB aT se dn aG aO aN aD bv aY rn kd nu tv), (zaI aS cS 901 (upd fS 4 0))] H := hP
    have hD : va_D A [(zo14irriiiiiirriirrrrlriiii m0 th aS aI im (nI nl) sp (nI tp) wg op aB aT se dn aG aO aN aD bv aY rn kd nu tv), (zaI aS cS 901 (upd fS 4 0))] := hD
    refine lv_aload_n hx hb dX12_hill_40 rfl (lv_at hl 0 rfl) ?_
    refine va_get (D := (dC, dI)) (ci := 14) (v := .ref aS) (C := RX12) (T := TX12) (N := 23) hx hb hts kc_mHill_0 hown hK hP 0 rfl rfl 1 (by decide) (hts (.fieldLink RX12 9 "MistHeapsModel" "s" "[I") kc_mHill_1) (fun _ h9 => h9) rfl dX12_hill_41 ?_
    refine lv_sipush (v := 191) hx hb dX12_hill_44 (by decide) ?_
    refine lv_aload_n hx hb dX12_hill_47 rfl (lv_at hl 0 rfl) ?_
    refine va_get (D := (dC, dI)) (ci := 14) (v := .int (nI nl)) (C := RX12) (T := TX12) (N := 23) hx hb hts kc_mHill_0 hown hK hP 0 rfl rfl 4 (by decide) (hts (.fieldLink RX12 86 "MistHeapsModel" "act" "I") kc_mHill_2) (fun _ h9 => h9) rfl dX12_hill_48 ?_
    refine lv_iadd hx hb dX12_hill_51 ?_
    refine qi_as (y := nI (191 + nl)) (nI_add 191 nl) ?_
    refine lv_iconst (v := 3) hx hb dX12_hill_52 (by decide) ?_
    refine va_iast hx hb hK hP hD hS 1 0 rfl rfl (vp_in_nI (n := 191 + nl) (N := 901) (by omega) (by omega)) dX12_hill_53 (fun H locs hP hD hS => ?_)
    rw [nI_clamp (n := 191 + nl) (by omega)] at hP hD
    have hP : va_P (dC, dI) vwCl [(zo14irriiiiiirriirrrrlriiii m0 th aS aI im (nI nl) sp (nI tp) wg op aB aT se dn aG aO aN aD bv aY rn kd nu tv), (zaI aS cS 901 (upd (upd fS 4 0) (191 + nl) 3))] H := hP
    have hD : va_D A [(zo14irriiiiiirriirrrrlriiii m0 th aS aI im (nI nl) sp (nI tp) wg op aB aT se dn aG aO aN aD bv aY rn kd nu tv), (zaI aS cS 901 (upd (upd fS 4 0) (191 + nl) 3))] := hD
    refine lv_aload_n hx hb dX12_hill_54 rfl (lv_at hl 0 rfl) ?_
    refine va_get (D := (dC, dI)) (ci := 14) (v := .ref aS) (C := RX12) (T := TX12) (N := 23) hx hb hts kc_mHill_0 hown hK hP 0 rfl rfl 1 (by decide) (hts (.fieldLink RX12 9 "MistHeapsModel" "s" "[I") kc_mHill_1) (fun _ h9 => h9) rfl dX12_hill_55 ?_
    refine lv_sipush (v := 196) hx hb dX12_hill_58 (by decide) ?_
    refine lv_aload_n hx hb dX12_hill_61 rfl (lv_at hl 0 rfl) ?_
    refine va_get (D := (dC, dI)) (ci := 14) (v := .int (nI nl)) (C := RX12) (T := TX12) (N := 23) hx hb hts kc_mHill_0 hown hK hP 0 rfl rfl 4 (by decide) (hts (.fieldLink RX12 86 "MistHeapsModel" "act" "I") kc_mHill_2) (fun _ h9 => h9) rfl dX12_hill_62 ?_
    refine lv_iadd hx hb dX12_hill_65 ?_
    refine qi_as (y := nI (196 + nl)) (nI_add 196 nl) ?_
    refine lv_iconst (v := 0) hx hb dX12_hill_66 (by decide) ?_
    refine va_iast hx hb hK hP hD hS 1 0 rfl rfl (vp_in_nI (n := 196 + nl) (N := 901) (by omega) (by omega)) dX12_hill_67 (fun H locs hP hD hS => ?_)
    rw [nI_clamp (n := 196 + nl) (by omega)] at hP hD
    have hP : va_P (dC, dI) vwCl [(zo14irriiiiiirriirrrrlriiii m0 th aS aI im (nI nl) sp (nI tp) wg op aB aT se dn aG aO aN aD bv aY rn kd nu tv), (zaI aS cS 901 (upd (upd (upd fS 4 0) (191 + nl) 3) (196 + nl) 0))] H := hP
    have hD : va_D A [(zo14irriiiiiirriirrrrlriiii m0 th aS aI im (nI nl) sp (nI tp) wg op aB aT se dn aG aO aN aD bv aY rn kd nu tv), (zaI aS cS 901 (upd (upd (upd fS 4 0) (191 + nl) 3) (196 + nl) 0))] := hD
    obtain ⟨f0, ef0⟩ : ∃ g : Nat → Int32, g = upd (upd (upd fS 4 0) (191 + nl) 3) (196 + nl) 0 := ⟨_, rfl⟩
    have hI0 : PI f0 nl (flC []) 0 0 tp := by rw [ef0]; exact h0_PI (by omega) ht
    have z0 : f0 4 = 0 := by rw [ef0, pk_un (by omega), pk_un (by omega)]; exact pk_us
    have zs0 : f0 (191 + nl) = nI (sgC []) := by rw [ef0, pk_un (by omega)]; exact pk_us
    have hF0 : ∀ i, i ≠ 4 → i ≠ 191 + nl → i ≠ 196 + nl → f0 i = fS i := fun i a1 a2 a3 => by rw [ef0, pk_un a3, pk_un a2, pk_un a1]
    have gT0 : TP f0 tp ss := ⟨fun p hp => (hF0 _ (by omega) (by omega) (by omega)).trans (gT.1 p hp), gT.2.1, gT.2.2⟩
    rw [show upd (upd (upd fS 4 0) (191 + nl) 3) (196 + nl) 0 = f0 from ef0.symm] at hP hD
    have hP : va_P (dC, dI) vwCl [(zo14irriiiiiirriirrrrlriiii m0 th aS aI im (nI nl) sp (nI tp) wg op aB aT se dn aG aO aN aD bv aY rn kd nu tv), (zaI aS cS 901 f0)] H := hP
    have hD : va_D A [(zo14irriiiiiirriirrrrlriiii m0 th aS aI im (nI nl) sp (nI tp) wg op aB aT se dn aG aO aN aD bv aY rn kd nu tv), (zaI aS cS 901 f0)] := hD
    refine lv_aload_n hx hb dX12_hill_68 rfl (lv_at hl 0 rfl) ?_
    refine lv_iconst (v := 0) hx hb dX12_hill_69 (by decide) ?_
    refine va_put (D := (dC, dI)) (ci := 14) (v := .int 0) (ty := .int) (C := RX12) (T := TX12) (N := 23) hx hb hts kc_mHill_0 tyX12 tyX12_ok nmX12 hown hK hP hD hS 0 rfl rfl 5 (by decide) (hts (.fieldLink RX12 59 "MistHeapsModel" "spot" "I") kc_mHill_4) (fun _ h9 => h9) rfl (by decide +kernel) rfl rfl (Nat.le_of_ble_eq_true rfl) dX12_hill_70 (fun H locs hP hD hS => ?_)
    have hP : va_P (dC, dI) vwCl [(zo14irriiiiiirriirrrrlriiii m0 th aS aI im (nI nl) 0 (nI tp) wg op aB aT se dn aG aO aN aD bv aY rn kd nu tv), (zaI aS cS 901 f0)] H := hP
    have hD : va_D A [(zo14irriiiiiirriirrrrlriiii m0 th aS aI im (nI nl) 0 (nI tp) wg op aB aT se dn aG aO aN aD bv aY rn kd nu tv), (zaI aS cS 901 f0)] := hD
    refine lv_aload_n hx hb dX12_hill_73 rfl (lv_at hl 0 rfl) ?_
    refine lv_iconst (v := 0) hx hb dX12_hill_74 (by decide) ?_
    refine va_put (D := (dC, dI)) (ci := 14) (v := .int 0) (ty := .boolean) (C := RX12) (T := TX12) (N := 23) hx hb hts kc_mHill_0 tyX12 tyX12_ok nmX12 hown hK hP hD hS 0 rfl rfl 7 (by decide) (hts (.fieldLink RX12 65 "MistHeapsModel" "isWrong" "Z") kc_mHill_5) (fun _ h9 => h9) rfl (by decide +kernel) rfl rfl (Nat.le_of_ble_eq_true rfl) dX12_hill_75 (fun H locs hP hD hS => ?_)
    have hP : va_P (dC, dI) vwCl [(zo14irriiiiiirriirrrrlriiii m0 th aS aI im (nI nl) 0 (nI tp) 0 op aB aT se dn aG aO aN aD bv aY rn kd nu tv), (zaI aS cS 901 f0)] H := hP
    have hD : va_D A [(zo14irriiiiiirriirrrrlriiii m0 th aS aI im (nI nl) 0 (nI tp) 0 op aB aT se dn aG aO aN aD bv aY rn kd nu tv), (zaI aS cS 901 f0)] := hD
    refine lv_aload_n hx hb dX12_hill_78 rfl (lv_at hl 0 rfl) ?_
    refine lv_iconst (v := 0) hx hb dX12_hill_79 (by decide) ?_
    refine va_put (D := (dC, dI)) (ci := 14) (v := .int 0) (ty := .int) (C := RX12) (T := TX12) (N := 23) hx hb hts kc_mHill_0 tyX12 tyX12_ok nmX12 hown hK hP hD hS 0 rfl rfl 8 (by decide) (hts (.fieldLink RX12 89 "MistHeapsModel" "open" "I") kc_mHill_6) (fun _ h9 => h9) rfl (by decide +kernel) rfl rfl (Nat.le_of_ble_eq_true rfl) dX12_hill_80 (fun H locs hP hD hS => ?_)
    have hP : va_P (dC, dI) vwCl [(zo14irriiiiiirriirrrrlriiii m0 th aS aI im (nI nl) 0 (nI tp) 0 0 aB aT se dn aG aO aN aD bv aY rn kd nu tv), (zaI aS cS 901 f0)] H := hP
    have hD : va_D A [(zo14irriiiiiirriirrrrlriiii m0 th aS aI im (nI nl) 0 (nI tp) 0 0 aB aT se dn aG aO aN aD bv aY rn kd nu tv), (zaI aS cS 901 f0)] := hD
    refine lv_iconst (v := 1) hx hb dX12_hill_83 (by decide) ?_
    refine lv_istore_n (lv' := [(1, .int 1), (0, .ref m0)]) hx hb dX12_hill_84 rfl hl (by decide) rfl (fun ls hl => ?_)
    refine lv_aload_n hx hb dX12_hill_85 rfl (lv_at hl 1 rfl) ?_
    have hPc := hP.sub (ws' := [(zo14irriiiiiirriirrrrlriiii m0 th aS aI im (nI nl) 0 (nI tp) 0 0 aB aT se dn aG aO aN aD bv aY rn kd nu tv), (zaI aS cS 901 f0)]) [0, 1] rfl
    have hDc := hD.sub (ws' := [(zo14irriiiiiirriirrrrlriiii m0 th aS aI im (nI nl) 0 (nI tp) 0 0 aB aT se dn aG aO aN aD bv aY rn kd nu tv), (zaI aS cS 901 f0)]) [0, 1] (by decide) rfl
    have hKc := hK.sub (tys' := [(cS, .int)]) [0] rfl
    have hFc := va_free (wc := [(zo14irriiiiiirriirrrrlriiii m0 th aS aI im (nI nl) 0 (nI tp) 0 0 aB aT se dn aG aO aN aD bv aY rn kd nu tv), (zaI aS cS 901 f0)]) hD hS hA [0, 1] rfl
    refine va_callv (va_runV (As := []) (rest := []) ⟨hx, hb, hml, hown, hts⟩ (c_clauseHere l dC dI sK sV m0 aS aI aB aT aG aO aN aD aY th im (nI nl) 0 (nI tp) 0 0 se dn rn kd nu tv bv cS f0 nl 0 tp (flC ([])) ss H.size (by omega) (by omega) (by omega) ((hI0).mono (by omega) (by omega)) (gT0)) (cwV 0 hts gX12_hill_X12_clauseHere rfl rfl rfl hd_yX12_clauseHere ⟨Nat.le_of_ble_eq_true rfl, Nat.le_of_ble_eq_true rfl⟩) ⟨fun a U g mk q => by obtain ⟨q0, q1, qP, qK, qD, qhE⟩ := q; exact ⟨q0, mvz g mk a q1, mvP g mk a qP, mvK g mk a qK, qD, qhE.mv g mk a⟩, va_recv hK hP (ci := 14) (q := (RX12, TX12, 23)) (q0 := 0) rfl rfl, fun U hU hW => ⟨rfl, by rw [hU], by rw [hU]; exact hPc, va_K.moved hW.alike hKc, hDc.weaken (fun _ _ _ _ => trivial), hE.call hS hU hW (fun q h => hFc q h)⟩⟩ rfl rfl hl.1 rfl (lv_room (Nat.le_of_ble_eq_true rfl)) dX12_hill_86 ⟨Nat.le_of_ble_eq_true rfl, Nat.le_of_ble_eq_true rfl⟩) hS (fun q _ h => hFc q h) hFc (fun u tC H1 locs htC hvm hw_3 hB hz1 hk1 hS => ?_)
    obtain ⟨fS9_4, sp9_5, wg9_6⟩ := u
    try dsimp only at hw_3 hB
    obtain ⟨hP1, hK1, hD1⟩ := hB
    rw [htC] at hP1
    have hK1 := va_K.moved hvm.symm hK1
    obtain ⟨hP, hD⟩ := va_join (wr := []) (w1 := [(zo14irriiiiiirriirrrrlriiii m0 th aS aI im (nI nl) sp9_5 (nI tp) wg9_6 0 aB aT se dn aG aO aN aD bv aY rn kd nu tv), (zaI aS cS 901 fS9_4)]) hP hD [0, 1] [] rfl rfl (by decide) (by decide) hk1 hFc hP1 hD1
    have hK := (hK.sub (tys' := []) [] rfl).app hK1
    generalize H1 = H at hP hS ⊢
    have hP : va_P (dC, dI) vwCl [(zo14irriiiiiirriirrrrlriiii m0 th aS aI im (nI nl) sp9_5 (nI tp) wg9_6 0 aB aT se dn aG aO aN aD bv aY rn kd nu tv), (zaI aS cS 901 fS9_4)] H := hP
    have hD : va_D A [(zo14irriiiiiirriirrrrlriiii m0 th aS aI im (nI nl) sp9_5 (nI tp) wg9_6 0 aB aT se dn aG aO aN aD bv aY rn kd nu tv), (zaI aS cS 901 fS9_4)] := hD
    have hK : va_K (dC, dI) vwCl [(cS, .int)] s := hK
    obtain ⟨p_7, rfl, h_9, h_10, hF_11, q9⟩ := hw_3
    rcases q9 with ⟨rfl, eC_14⟩ | ⟨rfl, c_8, eC_14, hI_12, h_13⟩
    · skip
      have L89 : ∀ (nF : Nat) (n1 : Nat) (p1 : Nat) (C1 : List pCla) (w1 : Int32) (f1 : Nat → Int32), tp - p1 < nF → (1 ≤ n1 ∧ n1 ≤ 10) → (p1 ≤ tp) → (PQ nl f0 f1) → ((w1 = 1 ∧ pHl ss tp = (none, p1)) ∨ (w1 = 0 ∧ pHl ss tp = pAf ss tp (10 - n1) C1 p1 ∧ PI f1 nl (flC C1) 0 p1 tp ∧ f1 (191 + nl) = nI (sgC C1))) → ∀ (H : Heap) (locs : List Loc), va_K (dC, dI) vwCl [(cS, .int)] s → va_P (dC, dI) vwCl [(zo14irriiiiiirriirrrrlriiii m0 th aS aI im (nI nl) (nI p1) (nI tp) w1 0 aB aT se dn aG aO aN aD bv aY rn kd nu tv), (zaI aS cS 901 f1)] H → va_D A [(zo14irriiiiiirriirrrrlriiii m0 th aS aI im (nI nl) (nI p1) (nI tp) w1 0 aB aT se dn aG aO aN aD bv aY rn kd nu tv), (zaI aS cS 901 f1)] → va_S A s.heap H locs → ∀ (ls : Array Slot), lv_has ls 2 [(0, .ref m0), (1, .int (nI n1))] → W p l e ({ frames := 26, cells := 0, slots := 0, locals := 555 } : Room) s m args below meth c H locs 0 0 Q (F0 m 89 ls []) := by
        intro nF
        induction nF with
        | zero => intro n1 p1 C1 w1 f1 hm; exact absurd hm (Nat.not_lt_zero _)
        | succ nF ih89 =>
          intro n1 p1 C1 w1 f1 hm hn1 h1 hF hw1 H locs hK hP hD hS ls hl
          rcases hw1 with ⟨rfl, hE9⟩ | ⟨rfl, hE9, hI, hsg⟩
          · skip
            refine lv_aload_n hx hb dX12_hill_89 rfl (lv_at hl 0 rfl) ?_
            refine va_get (D := (dC, dI)) (ci := 14) (v := .int 1) (C := RX12) (T := TX12) (N := 23) hx hb hts kc_mHill_0 hown hK hP 0 rfl rfl 7 (by decide) (hts (.fieldLink RX12 65 "MistHeapsModel" "isWrong" "Z") kc_mHill_5) (fun _ h9 => h9) rfl dX12_hill_90 ?_
            refine lv_if_ne (tgt := 131) hx hb dX12_hill_93 (by decide) (fun _ => ?_) (fun c_15 => absurd c_15 (by decide))
            refine lv_aload_n hx hb dX12_hill_131 rfl (lv_at hl 0 rfl) ?_
            refine va_get (D := (dC, dI)) (ci := 14) (v := .int 1) (C := RX12) (T := TX12) (N := 23) hx hb hts kc_mHill_0 hown hK hP 0 rfl rfl 7 (by decide) (hts (.fieldLink RX12 65 "MistHeapsModel" "isWrong" "Z") kc_mHill_5) (fun _ h9 => h9) rfl dX12_hill_132 ?_
            refine lv_if_ne (tgt := 149) hx hb dX12_hill_135 (by decide) (fun _ => ?_) (fun c_16 => absurd c_16 (by decide))
            refine lv_bipush (v := (-10)) hx hb dX12_hill_149 (by decide) ?_
            refine lv_aload_n hx hb dX12_hill_151 rfl (lv_at hl 0 rfl) ?_
            refine va_get (D := (dC, dI)) (ci := 14) (v := .int (nI p1)) (C := RX12) (T := TX12) (N := 23) hx hb hts kc_mHill_0 hown hK hP 0 rfl rfl 5 (by decide) (hts (.fieldLink RX12 59 "MistHeapsModel" "spot" "I") kc_mHill_4) (fun _ h9 => h9) rfl dX12_hill_152 ?_
            refine lv_isub hx hb dX12_hill_155 ?_
            rw [hQ]
            have hP9 := hP.sub (ws' := [(zo14irriiiiiirriirrrrlriiii m0 th aS aI im (nI nl) (nI p1) (nI tp) 1 0 aB aT se dn aG aO aN aD bv aY rn kd nu tv), (zaI aS cS 901 f1)]) [0, 1] rfl
            have hD9 := hD.sub (ws' := [(zo14irriiiiiirriirrrrlriiii m0 th aS aI im (nI nl) (nI p1) (nI tp) 1 0 aB aT se dn aG aO aN aD bv aY rn kd nu tv), (zaI aS cS 901 f1)]) [0, 1] (by decide) rfl
            have hK9 := hK.sub (tys' := [(cS, .int)]) [0] rfl
            exact W.iret (v := (-10) - (nI p1)) hx hb hr (fun tQ htQ hWQ => ⟨⟨((-10) - (nI p1)), (f1, (nI nl), (nI p1), (nI tp), 1, 0), rfl, Or.inr ⟨by omega, HQ_bad (by omega) z1 hHd z0 hF0 hF, (hF 4 (by omega) (by omega) (by omega)).trans z0, Or.inl ⟨p1, by omega, hE9, rfl, fun i b1 b2 b3 b4 => (hF i b2 b3 b4).trans (hF0 i b1 b2 b3)⟩⟩, by rw [htQ]; exact hP9, va_K.moved hWQ.alike hK9, hD9⟩, hS.F htQ⟩) hS.2.2 dX12_hill_156
          · skip
            refine lv_aload_n hx hb dX12_hill_89 rfl (lv_at hl 0 rfl) ?_
            refine va_get (D := (dC, dI)) (ci := 14) (v := .int 0) (C := RX12) (T := TX12) (N := 23) hx hb hts kc_mHill_0 hown hK hP 0 rfl rfl 7 (by decide) (hts (.fieldLink RX12 65 "MistHeapsModel" "isWrong" "Z") kc_mHill_5) (fun _ h9 => h9) rfl dX12_hill_90 ?_
            refine lv_if_ne (tgt := 131) hx hb dX12_hill_93 (by decide) (fun c_17 => absurd c_17 (by decide)) (fun _ => ?_)
            refine lv_iload_n hx hb dX12_hill_96 rfl (lv_at hl 1 rfl) ?_
            refine lv_bipush (v := 10) hx hb dX12_hill_97 (by decide) ?_
            refine lv_icmp_ge (tgt := 131) hx hb dX12_hill_99 (by decide) (fun c_18 => ?_) (fun c_18 => ?_)
            · skip
              have c_18 : 10 ≤ n1 := (nI_leI (a := 10) (b := n1) (by omega) (by omega)).mp c_18
              refine lv_aload_n hx hb dX12_hill_131 rfl (lv_at hl 0 rfl) ?_
              refine va_get (D := (dC, dI)) (ci := 14) (v := .int 0) (C := RX12) (T := TX12) (N := 23) hx hb hts kc_mHill_0 hown hK hP 0 rfl rfl 7 (by decide) (hts (.fieldLink RX12 65 "MistHeapsModel" "isWrong" "Z") kc_mHill_5) (fun _ h9 => h9) rfl dX12_hill_132 ?_
              refine lv_if_ne (tgt := 149) hx hb dX12_hill_135 (by decide) (fun c_19 => absurd c_19 (by decide)) (fun _ => ?_)
              refine lv_aload_n hx hb dX12_hill_138 rfl (lv_at hl 0 rfl) ?_
              refine va_get (D := (dC, dI)) (ci := 14) (v := .int (nI p1)) (C := RX12) (T := TX12) (N := 23) hx hb hts kc_mHill_0 hown hK hP 0 rfl rfl 5 (by decide) (hts (.fieldLink RX12 59 "MistHeapsModel" "spot" "I") kc_mHill_4) (fun _ h9 => h9) rfl dX12_hill_139 ?_
              refine lv_aload_n hx hb dX12_hill_142 rfl (lv_at hl 0 rfl) ?_
              refine va_get (D := (dC, dI)) (ci := 14) (v := .int (nI tp)) (C := RX12) (T := TX12) (N := 23) hx hb hts kc_mHill_0 hown hK hP 0 rfl rfl 6 (by decide) (hts (.fieldLink RX12 62 "MistHeapsModel" "end" "I") kc_mHill_3) (fun _ h9 => h9) rfl dX12_hill_143 ?_
              refine lv_icmp_eq (tgt := 157) hx hb dX12_hill_146 (by decide) (fun c_20 => ?_) (fun c_20 => ?_)
              · skip
                have c_20 : p1 = tp := (nI_eq (a := p1) (b := tp) (by omega) (by omega)).mp c_20
                refine lv_aload_n hx hb dX12_hill_157 rfl (lv_at hl 0 rfl) ?_
                refine va_get (D := (dC, dI)) (ci := 14) (v := .ref aS) (C := RX12) (T := TX12) (N := 23) hx hb hts kc_mHill_0 hown hK hP 0 rfl rfl 1 (by decide) (hts (.fieldLink RX12 9 "MistHeapsModel" "s" "[I") kc_mHill_1) (fun _ h9 => h9) rfl dX12_hill_158 ?_
                refine lv_iconst (v := 1) hx hb dX12_hill_161 (by decide) ?_
                refine lv_dup2_11 hx hb dX12_hill_162 rfl rfl ?_
                refine va_iald hx hb hK hP 1 0 rfl rfl (vp_in_nI (n := 1) (N := 901) (by omega) (by omega)) dX12_hill_163 ?_
                refine qi_as (y := nI nl) ((show f1 (1 : Int32).toNatClampNeg = f1 1 from rfl).trans ((hF 1 (by omega) (by omega) (by omega)).trans ((hF0 1 (by omega) (by omega) (by omega)).trans z1))) ?_
                refine lv_iconst (v := 1) hx hb dX12_hill_164 (by decide) ?_
                refine lv_iadd hx hb dX12_hill_165 ?_
                refine qi_as (y := nI (nl + 1)) (nI_add nl 1) ?_
                refine va_iast hx hb hK hP hD hS 1 0 rfl rfl (vp_in_nI (n := 1) (N := 901) (by omega) (by omega)) dX12_hill_166 (fun H locs hP hD hS => ?_)
                have hP : va_P (dC, dI) vwCl [(zo14irriiiiiirriirrrrlriiii m0 th aS aI im (nI nl) (nI p1) (nI tp) 0 0 aB aT se dn aG aO aN aD bv aY rn kd nu tv), (zaI aS cS 901 (upd f1 1 (nI (nl + 1))))] H := hP
                have hD : va_D A [(zo14irriiiiiirriirrrrlriiii m0 th aS aI im (nI nl) (nI p1) (nI tp) 0 0 aB aT se dn aG aO aN aD bv aY rn kd nu tv), (zaI aS cS 901 (upd f1 1 (nI (nl + 1))))] := hD
                refine lv_aload_n hx hb dX12_hill_167 rfl (lv_at hl 0 rfl) ?_
                refine va_get (D := (dC, dI)) (ci := 14) (v := .ref aS) (C := RX12) (T := TX12) (N := 23) hx hb hts kc_mHill_0 hown hK hP 0 rfl rfl 1 (by decide) (hts (.fieldLink RX12 9 "MistHeapsModel" "s" "[I") kc_mHill_1) (fun _ h9 => h9) rfl dX12_hill_168 ?_
                refine lv_iconst (v := 5) hx hb dX12_hill_171 (by decide) ?_
                refine lv_aload_n hx hb dX12_hill_172 rfl (lv_at hl 0 rfl) ?_
                refine va_get (D := (dC, dI)) (ci := 14) (v := .int (nI nl)) (C := RX12) (T := TX12) (N := 23) hx hb hts kc_mHill_0 hown hK hP 0 rfl rfl 4 (by decide) (hts (.fieldLink RX12 86 "MistHeapsModel" "act" "I") kc_mHill_2) (fun _ h9 => h9) rfl dX12_hill_173 ?_
                refine va_iast hx hb hK hP hD hS 1 0 rfl rfl (vp_in_nI (n := 5) (N := 901) (by omega) (by omega)) dX12_hill_176 (fun H locs hP hD hS => ?_)
                have hP : va_P (dC, dI) vwCl [(zo14irriiiiiirriirrrrlriiii m0 th aS aI im (nI nl) (nI p1) (nI tp) 0 0 aB aT se dn aG aO aN aD bv aY rn kd nu tv), (zaI aS cS 901 (upd (upd f1 1 (nI (nl + 1))) 5 (nI nl)))] H := hP
                have hD : va_D A [(zo14irriiiiiirriirrrrlriiii m0 th aS aI im (nI nl) (nI p1) (nI tp) 0 0 aB aT se dn aG aO aN aD bv aY rn kd nu tv), (zaI aS cS 901 (upd (upd f1 1 (nI (nl + 1))) 5 (nI nl)))] := hD
                refine lv_aload_n hx hb dX12_hill_177 rfl (lv_at hl 0 rfl) ?_
                refine va_get (D := (dC, dI)) (ci := 14) (v := .int (nI nl)) (C := RX12) (T := TX12) (N := 23) hx hb hts kc_mHill_0 hown hK hP 0 rfl rfl 4 (by decide) (hts (.fieldLink RX12 86 "MistHeapsModel" "act" "I") kc_mHill_2) (fun _ h9 => h9) rfl dX12_hill_178 ?_
                rw [hQ]
                have hP9 := hP.sub (ws' := [(zo14irriiiiiirriirrrrlriiii m0 th aS aI im (nI nl) (nI p1) (nI tp) 0 0 aB aT se dn aG aO aN aD bv aY rn kd nu tv), (zaI aS cS 901 (upd (upd f1 1 (nI (nl + 1))) 5 (nI nl)))]) [0, 1] rfl
                have hD9 := hD.sub (ws' := [(zo14irriiiiiirriirrrrlriiii m0 th aS aI im (nI nl) (nI p1) (nI tp) 0 0 aB aT se dn aG aO aN aD bv aY rn kd nu tv), (zaI aS cS 901 (upd (upd f1 1 (nI (nl + 1))) 5 (nI nl)))]) [0, 1] (by decide) rfl
                have hK9 := hK.sub (tys' := [(cS, .int)]) [0] rfl
                exact W.iret (v := nI nl) hx hb hr (fun tQ htQ hWQ => ⟨⟨(nI nl), ((upd (upd f1 1 (nI (nl + 1))) 5 (nI nl)), (nI nl), (nI p1), (nI tp), 0, 0), rfl, Or.inr ⟨by omega, HQ_good (by omega) z0 hF0 hF hI, (by rw [pk_un (by omega), pk_un (by omega)]; exact (hF 4 (by omega) (by omega) (by omega)).trans z0), Or.inr ⟨C1, p1, hE9.trans (af_e (by omega)), rfl, (pk_un (by omega)).trans pk_us, pk_us, ⟨by rw [pk_un (by omega), pk_un (by omega)]; exact hI.2.2.2.1, fun i hi => by have := hI.2.2.2.2.1; rw [pk_un (by omega), pk_un (by omega)]; exact hI.2.2.2.2.2.2.2 i hi, by have := hI.2.2.2.2.1; omega, by rw [pk_un (by omega), pk_un (by omega)]; exact hsg⟩⟩⟩, by rw [htQ]; exact hP9, va_K.moved hWQ.alike hK9, hD9⟩, hS.F htQ⟩) hS.2.2 dX12_hill_181
              · skip
                have c_20 : ¬ p1 = tp := fun q => c_20 ((nI_eq (a := p1) (b := tp) (by omega) (by omega)).mpr q)
                refine lv_bipush (v := (-10)) hx hb dX12_hill_149 (by decide) ?_
                refine lv_aload_n hx hb dX12_hill_151 rfl (lv_at hl 0 rfl) ?_
                refine va_get (D := (dC, dI)) (ci := 14) (v := .int (nI p1)) (C := RX12) (T := TX12) (N := 23) hx hb hts kc_mHill_0 hown hK hP 0 rfl rfl 5 (by decide) (hts (.fieldLink RX12 59 "MistHeapsModel" "spot" "I") kc_mHill_4) (fun _ h9 => h9) rfl dX12_hill_152 ?_
                refine lv_isub hx hb dX12_hill_155 ?_
                rw [hQ]
                have hP9 := hP.sub (ws' := [(zo14irriiiiiirriirrrrlriiii m0 th aS aI im (nI nl) (nI p1) (nI tp) 0 0 aB aT se dn aG aO aN aD bv aY rn kd nu tv), (zaI aS cS 901 f1)]) [0, 1] rfl
                have hD9 := hD.sub (ws' := [(zo14irriiiiiirriirrrrlriiii m0 th aS aI im (nI nl) (nI p1) (nI tp) 0 0 aB aT se dn aG aO aN aD bv aY rn kd nu tv), (zaI aS cS 901 f1)]) [0, 1] (by decide) rfl
                have hK9 := hK.sub (tys' := [(cS, .int)]) [0] rfl
                exact W.iret (v := (-10) - (nI p1)) hx hb hr (fun tQ htQ hWQ => ⟨⟨((-10) - (nI p1)), (f1, (nI nl), (nI p1), (nI tp), 0, 0), rfl, Or.inr ⟨by omega, HQ_bad (by omega) z1 hHd z0 hF0 hF, (hF 4 (by omega) (by omega) (by omega)).trans z0, Or.inl ⟨p1, by omega, hE9.trans (by rw [show 10 - n1 = 0 by omega]; exact af_0 (by omega)), rfl, fun i b1 b2 b3 b4 => (hF i b2 b3 b4).trans (hF0 i b1 b2 b3)⟩⟩, by rw [htQ]; exact hP9, va_K.moved hWQ.alike hK9, hD9⟩, hS.F htQ⟩) hS.2.2 dX12_hill_156
            · skip
              have c_18 : ¬ 10 ≤ n1 := fun q => c_18 ((nI_leI (a := 10) (b := n1) (by omega) (by omega)).mpr q)
              refine lv_aload_n hx hb dX12_hill_102 rfl (lv_at hl 0 rfl) ?_
              have hPc := hP.sub (ws' := [(zo14irriiiiiirriirrrrlriiii m0 th aS aI im (nI nl) (nI p1) (nI tp) 0 0 aB aT se dn aG aO aN aD bv aY rn kd nu tv), (zaI aS cS 901 f1)]) [0, 1] rfl
              have hKc := hK.sub (tys' := [(cS, .int)]) [0] rfl
              refine vp_callSi (va_runV (As := []) (rest := []) ⟨hx, hb, hml, hown, hts⟩ (c_here l dC dI m0 aS aI aB aT aG aO aN aD aY th im (nI nl) (nI p1) (nI tp) 0 0 se dn rn kd nu tv bv cS f1 nl p1 tp (by omega) (by omega) (by omega)) (cwV 0 hts gX12_hill_X12_here rfl rfl rfl hd_yX12_here ⟨Nat.le_of_ble_eq_true rfl, Nat.le_of_ble_eq_true rfl⟩) ⟨fun a U g mk q => by obtain ⟨q0, qP, qK⟩ := q; exact ⟨q0, mvP g mk a qP, mvK g mk a qK⟩, va_recv hK hP (ci := 14) (q := (RX12, TX12, 23)) (q0 := 0) rfl rfl, fun U hU hW => ⟨rfl, by rw [hU]; exact hPc, va_K.moved hW.alike hKc⟩⟩ rfl rfl hl.1 rfl (lv_room (Nat.le_of_ble_eq_true rfl)) dX12_hill_103 ⟨Nat.le_of_ble_eq_true rfl, Nat.le_of_ble_eq_true rfl⟩).run (fun r_21 hw_22 => ?_)
              refine lv_bipush (v := 59) hx hb dX12_hill_106 (by decide) ?_
              refine lv_icmp_ne (tgt := 131) hx hb dX12_hill_108 (by decide) (fun c_23 => ?_) (fun c_23 => ?_)
              · skip
                have hn9 : ¬ ss p1 = 59 := fun z => c_23 (by rw [hw_22]; exact ((TP_PQ gT0 ht hF).eq (c := 59) (by omega) (by omega)).mpr z)
                refine lv_aload_n hx hb dX12_hill_131 rfl (lv_at hl 0 rfl) ?_
                refine va_get (D := (dC, dI)) (ci := 14) (v := .int 0) (C := RX12) (T := TX12) (N := 23) hx hb hts kc_mHill_0 hown hK hP 0 rfl rfl 7 (by decide) (hts (.fieldLink RX12 65 "MistHeapsModel" "isWrong" "Z") kc_mHill_5) (fun _ h9 => h9) rfl dX12_hill_132 ?_
                refine lv_if_ne (tgt := 149) hx hb dX12_hill_135 (by decide) (fun c_24 => absurd c_24 (by decide)) (fun _ => ?_)
                refine lv_aload_n hx hb dX12_hill_138 rfl (lv_at hl 0 rfl) ?_
                refine va_get (D := (dC, dI)) (ci := 14) (v := .int (nI p1)) (C := RX12) (T := TX12) (N := 23) hx hb hts kc_mHill_0 hown hK hP 0 rfl rfl 5 (by decide) (hts (.fieldLink RX12 59 "MistHeapsModel" "spot" "I") kc_mHill_4) (fun _ h9 => h9) rfl dX12_hill_139 ?_
                refine lv_aload_n hx hb dX12_hill_142 rfl (lv_at hl 0 rfl) ?_
                refine va_get (D := (dC, dI)) (ci := 14) (v := .int (nI tp)) (C := RX12) (T := TX12) (N := 23) hx hb hts kc_mHill_0 hown hK hP 0 rfl rfl 6 (by decide) (hts (.fieldLink RX12 62 "MistHeapsModel" "end" "I") kc_mHill_3) (fun _ h9 => h9) rfl dX12_hill_143 ?_
                refine lv_icmp_eq (tgt := 157) hx hb dX12_hill_146 (by decide) (fun c_25 => ?_) (fun c_25 => ?_)
                · skip
                  have c_25 : p1 = tp := (nI_eq (a := p1) (b := tp) (by omega) (by omega)).mp c_25
                  refine lv_aload_n hx hb dX12_hill_157 rfl (lv_at hl 0 rfl) ?_
                  refine va_get (D := (dC, dI)) (ci := 14) (v := .ref aS) (C := RX12) (T := TX12) (N := 23) hx hb hts kc_mHill_0 hown hK hP 0 rfl rfl 1 (by decide) (hts (.fieldLink RX12 9 "MistHeapsModel" "s" "[I") kc_mHill_1) (fun _ h9 => h9) rfl dX12_hill_158 ?_
                  refine lv_iconst (v := 1) hx hb dX12_hill_161 (by decide) ?_
                  refine lv_dup2_11 hx hb dX12_hill_162 rfl rfl ?_
                  refine va_iald hx hb hK hP 1 0 rfl rfl (vp_in_nI (n := 1) (N := 901) (by omega) (by omega)) dX12_hill_163 ?_
                  refine qi_as (y := nI nl) ((show f1 (1 : Int32).toNatClampNeg = f1 1 from rfl).trans ((hF 1 (by omega) (by omega) (by omega)).trans ((hF0 1 (by omega) (by omega) (by omega)).trans z1))) ?_
                  refine lv_iconst (v := 1) hx hb dX12_hill_164 (by decide) ?_
                  refine lv_iadd hx hb dX12_hill_165 ?_
                  refine qi_as (y := nI (nl + 1)) (nI_add nl 1) ?_
                  refine va_iast hx hb hK hP hD hS 1 0 rfl rfl (vp_in_nI (n := 1) (N := 901) (by omega) (by omega)) dX12_hill_166 (fun H locs hP hD hS => ?_)
                  have hP : va_P (dC, dI) vwCl [(zo14irriiiiiirriirrrrlriiii m0 th aS aI im (nI nl) (nI p1) (nI tp) 0 0 aB aT se dn aG aO aN aD bv aY rn kd nu tv), (zaI aS cS 901 (upd f1 1 (nI (nl + 1))))] H := hP
                  have hD : va_D A [(zo14irriiiiiirriirrrrlriiii m0 th aS aI im (nI nl) (nI p1) (nI tp) 0 0 aB aT se dn aG aO aN aD bv aY rn kd nu tv), (zaI aS cS 901 (upd f1 1 (nI (nl + 1))))] := hD
                  refine lv_aload_n hx hb dX12_hill_167 rfl (lv_at hl 0 rfl) ?_
                  refine va_get (D := (dC, dI)) (ci := 14) (v := .ref aS) (C := RX12) (T := TX12) (N := 23) hx hb hts kc_mHill_0 hown hK hP 0 rfl rfl 1 (by decide) (hts (.fieldLink RX12 9 "MistHeapsModel" "s" "[I") kc_mHill_1) (fun _ h9 => h9) rfl dX12_hill_168 ?_
                  refine lv_iconst (v := 5) hx hb dX12_hill_171 (by decide) ?_
                  refine lv_aload_n hx hb dX12_hill_172 rfl (lv_at hl 0 rfl) ?_
                  refine va_get (D := (dC, dI)) (ci := 14) (v := .int (nI nl)) (C := RX12) (T := TX12) (N := 23) hx hb hts kc_mHill_0 hown hK hP 0 rfl rfl 4 (by decide) (hts (.fieldLink RX12 86 "MistHeapsModel" "act" "I") kc_mHill_2) (fun _ h9 => h9) rfl dX12_hill_173 ?_
                  refine va_iast hx hb hK hP hD hS 1 0 rfl rfl (vp_in_nI (n := 5) (N := 901) (by omega) (by omega)) dX12_hill_176 (fun H locs hP hD hS => ?_)
                  have hP : va_P (dC, dI) vwCl [(zo14irriiiiiirriirrrrlriiii m0 th aS aI im (nI nl) (nI p1) (nI tp) 0 0 aB aT se dn aG aO aN aD bv aY rn kd nu tv), (zaI aS cS 901 (upd (upd f1 1 (nI (nl + 1))) 5 (nI nl)))] H := hP
                  have hD : va_D A [(zo14irriiiiiirriirrrrlriiii m0 th aS aI im (nI nl) (nI p1) (nI tp) 0 0 aB aT se dn aG aO aN aD bv aY rn kd nu tv), (zaI aS cS 901 (upd (upd f1 1 (nI (nl + 1))) 5 (nI nl)))] := hD
                  refine lv_aload_n hx hb dX12_hill_177 rfl (lv_at hl 0 rfl) ?_
                  refine va_get (D := (dC, dI)) (ci := 14) (v := .int (nI nl)) (C := RX12) (T := TX12) (N := 23) hx hb hts kc_mHill_0 hown hK hP 0 rfl rfl 4 (by decide) (hts (.fieldLink RX12 86 "MistHeapsModel" "act" "I") kc_mHill_2) (fun _ h9 => h9) rfl dX12_hill_178 ?_
                  rw [hQ]
                  have hP9 := hP.sub (ws' := [(zo14irriiiiiirriirrrrlriiii m0 th aS aI im (nI nl) (nI p1) (nI tp) 0 0 aB aT se dn aG aO aN aD bv aY rn kd nu tv), (zaI aS cS 901 (upd (upd f1 1 (nI (nl + 1))) 5 (nI nl)))]) [0, 1] rfl
                  have hD9 := hD.sub (ws' := [(zo14irriiiiiirriirrrrlriiii m0 th aS aI im (nI nl) (nI p1) (nI tp) 0 0 aB aT se dn aG aO aN aD bv aY rn kd nu tv), (zaI aS cS 901 (upd (upd f1 1 (nI (nl + 1))) 5 (nI nl)))]) [0, 1] (by decide) rfl
                  have hK9 := hK.sub (tys' := [(cS, .int)]) [0] rfl
                  exact W.iret (v := nI nl) hx hb hr (fun tQ htQ hWQ => ⟨⟨(nI nl), ((upd (upd f1 1 (nI (nl + 1))) 5 (nI nl)), (nI nl), (nI p1), (nI tp), 0, 0), rfl, Or.inr ⟨by omega, HQ_good (by omega) z0 hF0 hF hI, (by rw [pk_un (by omega), pk_un (by omega)]; exact (hF 4 (by omega) (by omega) (by omega)).trans z0), Or.inr ⟨C1, p1, hE9.trans (af_e (by omega)), rfl, (pk_un (by omega)).trans pk_us, pk_us, ⟨by rw [pk_un (by omega), pk_un (by omega)]; exact hI.2.2.2.1, fun i hi => by have := hI.2.2.2.2.1; rw [pk_un (by omega), pk_un (by omega)]; exact hI.2.2.2.2.2.2.2 i hi, by have := hI.2.2.2.2.1; omega, by rw [pk_un (by omega), pk_un (by omega)]; exact hsg⟩⟩⟩, by rw [htQ]; exact hP9, va_K.moved hWQ.alike hK9, hD9⟩, hS.F htQ⟩) hS.2.2 dX12_hill_181
                · skip
                  have c_25 : ¬ p1 = tp := fun q => c_25 ((nI_eq (a := p1) (b := tp) (by omega) (by omega)).mpr q)
                  refine lv_bipush (v := (-10)) hx hb dX12_hill_149 (by decide) ?_
                  refine lv_aload_n hx hb dX12_hill_151 rfl (lv_at hl 0 rfl) ?_
                  refine va_get (D := (dC, dI)) (ci := 14) (v := .int (nI p1)) (C := RX12) (T := TX12) (N := 23) hx hb hts kc_mHill_0 hown hK hP 0 rfl rfl 5 (by decide) (hts (.fieldLink RX12 59 "MistHeapsModel" "spot" "I") kc_mHill_4) (fun _ h9 => h9) rfl dX12_hill_152 ?_
                  refine lv_isub hx hb dX12_hill_155 ?_
                  rw [hQ]
                  have hP9 := hP.sub (ws' := [(zo14irriiiiiirriirrrrlriiii m0 th aS aI im (nI nl) (nI p1) (nI tp) 0 0 aB aT se dn aG aO aN aD bv aY rn kd nu tv), (zaI aS cS 901 f1)]) [0, 1] rfl
                  have hD9 := hD.sub (ws' := [(zo14irriiiiiirriirrrrlriiii m0 th aS aI im (nI nl) (nI p1) (nI tp) 0 0 aB aT se dn aG aO aN aD bv aY rn kd nu tv), (zaI aS cS 901 f1)]) [0, 1] (by decide) rfl
                  have hK9 := hK.sub (tys' := [(cS, .int)]) [0] rfl
                  exact W.iret (v := (-10) - (nI p1)) hx hb hr (fun tQ htQ hWQ => ⟨⟨((-10) - (nI p1)), (f1, (nI nl), (nI p1), (nI tp), 0, 0), rfl, Or.inr ⟨by omega, HQ_bad (by omega) z1 hHd z0 hF0 hF, (hF 4 (by omega) (by omega) (by omega)).trans z0, Or.inl ⟨p1, by omega, hE9.trans (af_n (by omega) hn9), rfl, fun i b1 b2 b3 b4 => (hF i b2 b3 b4).trans (hF0 i b1 b2 b3)⟩⟩, by rw [htQ]; exact hP9, va_K.moved hWQ.alike hK9, hD9⟩, hS.F htQ⟩) hS.2.2 dX12_hill_156
              · skip
                have hs9 : ss p1 = 59 := ((TP_PQ gT0 ht hF).eq (c := 59) (by omega) (by omega)).mp (by rw [← hw_22, c_23]; rfl)
                have hlt : p1 < tp := Nat.lt_of_not_le (fun z => by have := gT.2.1 p1 z; omega)
                have hne : ¬ p1 = tp := by omega
                rw [show 10 - n1 = (10 - (n1 + 1)) + 1 by omega] at hE9
                refine lv_aload_n hx hb dX12_hill_111 rfl (lv_at hl 0 rfl) ?_
                refine lv_dup hx hb dX12_hill_112 rfl ?_
                refine va_get (D := (dC, dI)) (ci := 14) (v := .int (nI p1)) (C := RX12) (T := TX12) (N := 23) hx hb hts kc_mHill_0 hown hK hP 0 rfl rfl 5 (by decide) (hts (.fieldLink RX12 59 "MistHeapsModel" "spot" "I") kc_mHill_4) (fun _ h9 => h9) rfl dX12_hill_113 ?_
                refine lv_iconst (v := 1) hx hb dX12_hill_116 (by decide) ?_
                refine lv_iadd hx hb dX12_hill_117 ?_
                refine qi_as (y := nI (p1 + 1)) (nI_add p1 1) ?_
                refine va_put (D := (dC, dI)) (ci := 14) (v := .int (nI (p1 + 1))) (ty := .int) (C := RX12) (T := TX12) (N := 23) hx hb hts kc_mHill_0 tyX12 tyX12_ok nmX12 hown hK hP hD hS 0 rfl rfl 5 (by decide) (hts (.fieldLink RX12 59 "MistHeapsModel" "spot" "I") kc_mHill_4) (fun _ h9 => h9) rfl (by decide +kernel) rfl rfl (Nat.le_of_ble_eq_true rfl) dX12_hill_118 (fun H locs hP hD hS => ?_)
                have hP : va_P (dC, dI) vwCl [(zo14irriiiiiirriirrrrlriiii m0 th aS aI im (nI nl) (nI (p1 + 1)) (nI tp) 0 0 aB aT se dn aG aO aN aD bv aY rn kd nu tv), (zaI aS cS 901 f1)] H := hP
                have hD : va_D A [(zo14irriiiiiirriirrrrlriiii m0 th aS aI im (nI nl) (nI (p1 + 1)) (nI tp) 0 0 aB aT se dn aG aO aN aD bv aY rn kd nu tv), (zaI aS cS 901 f1)] := hD
                refine lv_aload_n hx hb dX12_hill_121 rfl (lv_at hl 0 rfl) ?_
                have hPc := hP.sub (ws' := [(zo14irriiiiiirriirrrrlriiii m0 th aS aI im (nI nl) (nI (p1 + 1)) (nI tp) 0 0 aB aT se dn aG aO aN aD bv aY rn kd nu tv), (zaI aS cS 901 f1)]) [0, 1] rfl
                have hDc := hD.sub (ws' := [(zo14irriiiiiirriirrrrlriiii m0 th aS aI im (nI nl) (nI (p1 + 1)) (nI tp) 0 0 aB aT se dn aG aO aN aD bv aY rn kd nu tv), (zaI aS cS 901 f1)]) [0, 1] (by decide) rfl
                have hKc := hK.sub (tys' := [(cS, .int)]) [0] rfl
                have hFc := va_free (wc := [(zo14irriiiiiirriirrrrlriiii m0 th aS aI im (nI nl) (nI (p1 + 1)) (nI tp) 0 0 aB aT se dn aG aO aN aD bv aY rn kd nu tv), (zaI aS cS 901 f1)]) hD hS hA [0, 1] rfl
                refine va_callv (va_runV (As := []) (rest := []) ⟨hx, hb, hml, hown, hts⟩ (c_clauseHere l dC dI sK sV m0 aS aI aB aT aG aO aN aD aY th im (nI nl) (nI (p1 + 1)) (nI tp) 0 0 se dn rn kd nu tv bv cS f1 nl (p1 + 1) tp (flC C1) ss H.size (by omega) (by omega) (by omega) ((hI).mono (by omega) (by omega)) ((TP_PQ gT0 ht (hF)))) (cwV 0 hts gX12_hill_X12_clauseHere rfl rfl rfl hd_yX12_clauseHere ⟨Nat.le_of_ble_eq_true rfl, Nat.le_of_ble_eq_true rfl⟩) ⟨fun a U g mk q => by obtain ⟨q0, q1, qP, qK, qD, qhE⟩ := q; exact ⟨q0, mvz g mk a q1, mvP g mk a qP, mvK g mk a qK, qD, qhE.mv g mk a⟩, va_recv hK hP (ci := 14) (q := (RX12, TX12, 23)) (q0 := 0) rfl rfl, fun U hU hW => ⟨rfl, by rw [hU], by rw [hU]; exact hPc, va_K.moved hW.alike hKc, hDc.weaken (fun _ _ _ _ => trivial), hE.call hS hU hW (fun q h => hFc q h)⟩⟩ rfl rfl hl.1 rfl (lv_room (Nat.le_of_ble_eq_true rfl)) dX12_hill_122 ⟨Nat.le_of_ble_eq_true rfl, Nat.le_of_ble_eq_true rfl⟩) hS (fun q _ h => hFc q h) hFc (fun u tC H1 locs htC hvm hw_27 hB hz1 hk1 hS => ?_)
                obtain ⟨fS9_28, sp9_29, wg9_30⟩ := u
                try dsimp only at hw_27 hB
                obtain ⟨hP1, hK1, hD1⟩ := hB
                rw [htC] at hP1
                have hK1 := va_K.moved hvm.symm hK1
                obtain ⟨hP, hD⟩ := va_join (wr := []) (w1 := [(zo14irriiiiiirriirrrrlriiii m0 th aS aI im (nI nl) sp9_29 (nI tp) wg9_30 0 aB aT se dn aG aO aN aD bv aY rn kd nu tv), (zaI aS cS 901 fS9_28)]) hP hD [0, 1] [] rfl rfl (by decide) (by decide) hk1 hFc hP1 hD1
                have hK := (hK.sub (tys' := []) [] rfl).app hK1
                generalize H1 = H at hP hS ⊢
                have hP : va_P (dC, dI) vwCl [(zo14irriiiiiirriirrrrlriiii m0 th aS aI im (nI nl) sp9_29 (nI tp) wg9_30 0 aB aT se dn aG aO aN aD bv aY rn kd nu tv), (zaI aS cS 901 fS9_28)] H := hP
                have hD : va_D A [(zo14irriiiiiirriirrrrlriiii m0 th aS aI im (nI nl) sp9_29 (nI tp) wg9_30 0 aB aT se dn aG aO aN aD bv aY rn kd nu tv), (zaI aS cS 901 fS9_28)] := hD
                have hK : va_K (dC, dI) vwCl [(cS, .int)] s := hK
                obtain ⟨p_31, rfl, h_33, h_34, hF_35, q9⟩ := hw_27
                rcases q9 with ⟨rfl, eC_38⟩ | ⟨rfl, c_32, eC_38, hI_36, h_37⟩
                · skip
                  refine lv_iinc (v := nI (n1 + 1)) (lv' := [(1, .int (nI (n1 + 1))), (0, .ref m0)]) hx hb dX12_hill_125 hl (k := 1) rfl (nI_add n1 1) (by decide) rfl (fun ls hl => ?_)
                  refine lv_goto (tgt := 89) hx hb dX12_hill_128 (by decide) ?_
                  exact ih89 (n1 + 1) (p_31) ([]) (1) (fS9_28) (by omega) (by omega) (by omega) ((hF).tr hF_35) (Or.inl ⟨rfl, hE9.trans (af_b hne hs9 eC_38)⟩) _ _ (hK.sub [0] rfl) (hP.sub [0, 1] rfl) (hD.sub [0, 1] (by decide) rfl) hS ls (lv_sub hl [1, 0] rfl)
                · skip
                  refine lv_iinc (v := nI (n1 + 1)) (lv' := [(1, .int (nI (n1 + 1))), (0, .ref m0)]) hx hb dX12_hill_125 hl (k := 1) rfl (nI_add n1 1) (by decide) rfl (fun ls hl => ?_)
                  refine lv_goto (tgt := 89) hx hb dX12_hill_128 (by decide) ?_
                  exact ih89 (n1 + 1) (p_31) ((C1 ++ [c_32])) (0) (fS9_28) (by omega) (by omega) (by omega) ((hF).tr hF_35) (Or.inr ⟨rfl, hE9.trans (af_g hne hs9 eC_38), (PI.fl hI_36), (sg_stp h_37 hsg)⟩) _ _ (hK.sub [0] rfl) (hP.sub [0, 1] rfl) (hD.sub [0, 1] (by decide) rfl) hS ls (lv_sub hl [1, 0] rfl)
      exact L89 _ (1) (p_7) ([]) (1) (fS9_4) (Nat.lt_succ_self _) (by omega) (by omega) ((PQ.rf).tr hF_11) (Or.inl ⟨rfl, hl_n eC_14⟩) _ _ (hK.sub [0] rfl) (hP.sub [0, 1] rfl) (hD.sub [0, 1] (by decide) rfl) hS ls (lv_sub hl [1, 0] rfl)
    · skip
      have L89 : ∀ (nF : Nat) (n1 : Nat) (p1 : Nat) (C1 : List pCla) (w1 : Int32) (f1 : Nat → Int32), tp - p1 < nF → (1 ≤ n1 ∧ n1 ≤ 10) → (p1 ≤ tp) → (PQ nl f0 f1) → ((w1 = 1 ∧ pHl ss tp = (none, p1)) ∨ (w1 = 0 ∧ pHl ss tp = pAf ss tp (10 - n1) C1 p1 ∧ PI f1 nl (flC C1) 0 p1 tp ∧ f1 (191 + nl) = nI (sgC C1))) → ∀ (H : Heap) (locs : List Loc), va_K (dC, dI) vwCl [(cS, .int)] s → va_P (dC, dI) vwCl [(zo14irriiiiiirriirrrrlriiii m0 th aS aI im (nI nl) (nI p1) (nI tp) w1 0 aB aT se dn aG aO aN aD bv aY rn kd nu tv), (zaI aS cS 901 f1)] H → va_D A [(zo14irriiiiiirriirrrrlriiii m0 th aS aI im (nI nl) (nI p1) (nI tp) w1 0 aB aT se dn aG aO aN aD bv aY rn kd nu tv), (zaI aS cS 901 f1)] → va_S A s.heap H locs → ∀ (ls : Array Slot), lv_has ls 2 [(0, .ref m0), (1, .int (nI n1))] → W p l e ({ frames := 26, cells := 0, slots := 0, locals := 555 } : Room) s m args below meth c H locs 0 0 Q (F0 m 89 ls []) := by
        intro nF
        induction nF with
        | zero => intro n1 p1 C1 w1 f1 hm; exact absurd hm (Nat.not_lt_zero _)
        | succ nF ih89 =>
          intro n1 p1 C1 w1 f1 hm hn1 h1 hF hw1 H locs hK hP hD hS ls hl
          rcases hw1 with ⟨rfl, hE9⟩ | ⟨rfl, hE9, hI, hsg⟩
          · skip
            refine lv_aload_n hx hb dX12_hill_89 rfl (lv_at hl 0 rfl) ?_
            refine va_get (D := (dC, dI)) (ci := 14) (v := .int 1) (C := RX12) (T := TX12) (N := 23) hx hb hts kc_mHill_0 hown hK hP 0 rfl rfl 7 (by decide) (hts (.fieldLink RX12 65 "MistHeapsModel" "isWrong" "Z") kc_mHill_5) (fun _ h9 => h9) rfl dX12_hill_90 ?_
            refine lv_if_ne (tgt := 131) hx hb dX12_hill_93 (by decide) (fun _ => ?_) (fun c_39 => absurd c_39 (by decide))
            refine lv_aload_n hx hb dX12_hill_131 rfl (lv_at hl 0 rfl) ?_
            refine va_get (D := (dC, dI)) (ci := 14) (v := .int 1) (C := RX12) (T := TX12) (N := 23) hx hb hts kc_mHill_0 hown hK hP 0 rfl rfl 7 (by decide) (hts (.fieldLink RX12 65 "MistHeapsModel" "isWrong" "Z") kc_mHill_5) (fun _ h9 => h9) rfl dX12_hill_132 ?_
            refine lv_if_ne (tgt := 149) hx hb dX12_hill_135 (by decide) (fun _ => ?_) (fun c_40 => absurd c_40 (by decide))
            refine lv_bipush (v := (-10)) hx hb dX12_hill_149 (by decide) ?_
            refine lv_aload_n hx hb dX12_hill_151 rfl (lv_at hl 0 rfl) ?_
            refine va_get (D := (dC, dI)) (ci := 14) (v := .int (nI p1)) (C := RX12) (T := TX12) (N := 23) hx hb hts kc_mHill_0 hown hK hP 0 rfl rfl 5 (by decide) (hts (.fieldLink RX12 59 "MistHeapsModel" "spot" "I") kc_mHill_4) (fun _ h9 => h9) rfl dX12_hill_152 ?_
            refine lv_isub hx hb dX12_hill_155 ?_
            rw [hQ]
            have hP9 := hP.sub (ws' := [(zo14irriiiiiirriirrrrlriiii m0 th aS aI im (nI nl) (nI p1) (nI tp) 1 0 aB aT se dn aG aO aN aD bv aY rn kd nu tv), (zaI aS cS 901 f1)]) [0, 1] rfl
            have hD9 := hD.sub (ws' := [(zo14irriiiiiirriirrrrlriiii m0 th aS aI im (nI nl) (nI p1) (nI tp) 1 0 aB aT se dn aG aO aN aD bv aY rn kd nu tv), (zaI aS cS 901 f1)]) [0, 1] (by decide) rfl
            have hK9 := hK.sub (tys' := [(cS, .int)]) [0] rfl
            exact W.iret (v := (-10) - (nI p1)) hx hb hr (fun tQ htQ hWQ => ⟨⟨((-10) - (nI p1)), (f1, (nI nl), (nI p1), (nI tp), 1, 0), rfl, Or.inr ⟨by omega, HQ_bad (by omega) z1 hHd z0 hF0 hF, (hF 4 (by omega) (by omega) (by omega)).trans z0, Or.inl ⟨p1, by omega, hE9, rfl, fun i b1 b2 b3 b4 => (hF i b2 b3 b4).trans (hF0 i b1 b2 b3)⟩⟩, by rw [htQ]; exact hP9, va_K.moved hWQ.alike hK9, hD9⟩, hS.F htQ⟩) hS.2.2 dX12_hill_156
          · skip
            refine lv_aload_n hx hb dX12_hill_89 rfl (lv_at hl 0 rfl) ?_
            refine va_get (D := (dC, dI)) (ci := 14) (v := .int 0) (C := RX12) (T := TX12) (N := 23) hx hb hts kc_mHill_0 hown hK hP 0 rfl rfl 7 (by decide) (hts (.fieldLink RX12 65 "MistHeapsModel" "isWrong" "Z") kc_mHill_5) (fun _ h9 => h9) rfl dX12_hill_90 ?_
            refine lv_if_ne (tgt := 131) hx hb dX12_hill_93 (by decide) (fun c_41 => absurd c_41 (by decide)) (fun _ => ?_)
            refine lv_iload_n hx hb dX12_hill_96 rfl (lv_at hl 1 rfl) ?_
            refine lv_bipush (v := 10) hx hb dX12_hill_97 (by decide) ?_
            refine lv_icmp_ge (tgt := 131) hx hb dX12_hill_99 (by decide) (fun c_42 => ?_) (fun c_42 => ?_)
            · skip
              have c_42 : 10 ≤ n1 := (nI_leI (a := 10) (b := n1) (by omega) (by omega)).mp c_42
              refine lv_aload_n hx hb dX12_hill_131 rfl (lv_at hl 0 rfl) ?_
              refine va_get (D := (dC, dI)) (ci := 14) (v := .int 0) (C := RX12) (T := TX12) (N := 23) hx hb hts kc_mHill_0 hown hK hP 0 rfl rfl 7 (by decide) (hts (.fieldLink RX12 65 "MistHeapsModel" "isWrong" "Z") kc_mHill_5) (fun _ h9 => h9) rfl dX12_hill_132 ?_
              refine lv_if_ne (tgt := 149) hx hb dX12_hill_135 (by decide) (fun c_43 => absurd c_43 (by decide)) (fun _ => ?_)
              refine lv_aload_n hx hb dX12_hill_138 rfl (lv_at hl 0 rfl) ?_
              refine va_get (D := (dC, dI)) (ci := 14) (v := .int (nI p1)) (C := RX12) (T := TX12) (N := 23) hx hb hts kc_mHill_0 hown hK hP 0 rfl rfl 5 (by decide) (hts (.fieldLink RX12 59 "MistHeapsModel" "spot" "I") kc_mHill_4) (fun _ h9 => h9) rfl dX12_hill_139 ?_
              refine lv_aload_n hx hb dX12_hill_142 rfl (lv_at hl 0 rfl) ?_
              refine va_get (D := (dC, dI)) (ci := 14) (v := .int (nI tp)) (C := RX12) (T := TX12) (N := 23) hx hb hts kc_mHill_0 hown hK hP 0 rfl rfl 6 (by decide) (hts (.fieldLink RX12 62 "MistHeapsModel" "end" "I") kc_mHill_3) (fun _ h9 => h9) rfl dX12_hill_143 ?_
              refine lv_icmp_eq (tgt := 157) hx hb dX12_hill_146 (by decide) (fun c_44 => ?_) (fun c_44 => ?_)
              · skip
                have c_44 : p1 = tp := (nI_eq (a := p1) (b := tp) (by omega) (by omega)).mp c_44
                refine lv_aload_n hx hb dX12_hill_157 rfl (lv_at hl 0 rfl) ?_
                refine va_get (D := (dC, dI)) (ci := 14) (v := .ref aS) (C := RX12) (T := TX12) (N := 23) hx hb hts kc_mHill_0 hown hK hP 0 rfl rfl 1 (by decide) (hts (.fieldLink RX12 9 "MistHeapsModel" "s" "[I") kc_mHill_1) (fun _ h9 => h9) rfl dX12_hill_158 ?_
                refine lv_iconst (v := 1) hx hb dX12_hill_161 (by decide) ?_
                refine lv_dup2_11 hx hb dX12_hill_162 rfl rfl ?_
                refine va_iald hx hb hK hP 1 0 rfl rfl (vp_in_nI (n := 1) (N := 901) (by omega) (by omega)) dX12_hill_163 ?_
                refine qi_as (y := nI nl) ((show f1 (1 : Int32).toNatClampNeg = f1 1 from rfl).trans ((hF 1 (by omega) (by omega) (by omega)).trans ((hF0 1 (by omega) (by omega) (by omega)).trans z1))) ?_
                refine lv_iconst (v := 1) hx hb dX12_hill_164 (by decide) ?_
                refine lv_iadd hx hb dX12_hill_165 ?_
                refine qi_as (y := nI (nl + 1)) (nI_add nl 1) ?_
                refine va_iast hx hb hK hP hD hS 1 0 rfl rfl (vp_in_nI (n := 1) (N := 901) (by omega) (by omega)) dX12_hill_166 (fun H locs hP hD hS => ?_)
                have hP : va_P (dC, dI) vwCl [(zo14irriiiiiirriirrrrlriiii m0 th aS aI im (nI nl) (nI p1) (nI tp) 0 0 aB aT se dn aG aO aN aD bv aY rn kd nu tv), (zaI aS cS 901 (upd f1 1 (nI (nl + 1))))] H := hP
                have hD : va_D A [(zo14irriiiiiirriirrrrlriiii m0 th aS aI im (nI nl) (nI p1) (nI tp) 0 0 aB aT se dn aG aO aN aD bv aY rn kd nu tv), (zaI aS cS 901 (upd f1 1 (nI (nl + 1))))] := hD
                refine lv_aload_n hx hb dX12_hill_167 rfl (lv_at hl 0 rfl) ?_
                refine va_get (D := (dC, dI)) (ci := 14) (v := .ref aS) (C := RX12) (T := TX12) (N := 23) hx hb hts kc_mHill_0 hown hK hP 0 rfl rfl 1 (by decide) (hts (.fieldLink RX12 9 "MistHeapsModel" "s" "[I") kc_mHill_1) (fun _ h9 => h9) rfl dX12_hill_168 ?_
                refine lv_iconst (v := 5) hx hb dX12_hill_171 (by decide) ?_
                refine lv_aload_n hx hb dX12_hill_172 rfl (lv_at hl 0 rfl) ?_
                refine va_get (D := (dC, dI)) (ci := 14) (v := .int (nI nl)) (C := RX12) (T := TX12) (N := 23) hx hb hts kc_mHill_0 hown hK hP 0 rfl rfl 4 (by decide) (hts (.fieldLink RX12 86 "MistHeapsModel" "act" "I") kc_mHill_2) (fun _ h9 => h9) rfl dX12_hill_173 ?_
                refine va_iast hx hb hK hP hD hS 1 0 rfl rfl (vp_in_nI (n := 5) (N := 901) (by omega) (by omega)) dX12_hill_176 (fun H locs hP hD hS => ?_)
                have hP : va_P (dC, dI) vwCl [(zo14irriiiiiirriirrrrlriiii m0 th aS aI im (nI nl) (nI p1) (nI tp) 0 0 aB aT se dn aG aO aN aD bv aY rn kd nu tv), (zaI aS cS 901 (upd (upd f1 1 (nI (nl + 1))) 5 (nI nl)))] H := hP
                have hD : va_D A [(zo14irriiiiiirriirrrrlriiii m0 th aS aI im (nI nl) (nI p1) (nI tp) 0 0 aB aT se dn aG aO aN aD bv aY rn kd nu tv), (zaI aS cS 901 (upd (upd f1 1 (nI (nl + 1))) 5 (nI nl)))] := hD
                refine lv_aload_n hx hb dX12_hill_177 rfl (lv_at hl 0 rfl) ?_
                refine va_get (D := (dC, dI)) (ci := 14) (v := .int (nI nl)) (C := RX12) (T := TX12) (N := 23) hx hb hts kc_mHill_0 hown hK hP 0 rfl rfl 4 (by decide) (hts (.fieldLink RX12 86 "MistHeapsModel" "act" "I") kc_mHill_2) (fun _ h9 => h9) rfl dX12_hill_178 ?_
                rw [hQ]
                have hP9 := hP.sub (ws' := [(zo14irriiiiiirriirrrrlriiii m0 th aS aI im (nI nl) (nI p1) (nI tp) 0 0 aB aT se dn aG aO aN aD bv aY rn kd nu tv), (zaI aS cS 901 (upd (upd f1 1 (nI (nl + 1))) 5 (nI nl)))]) [0, 1] rfl
                have hD9 := hD.sub (ws' := [(zo14irriiiiiirriirrrrlriiii m0 th aS aI im (nI nl) (nI p1) (nI tp) 0 0 aB aT se dn aG aO aN aD bv aY rn kd nu tv), (zaI aS cS 901 (upd (upd f1 1 (nI (nl + 1))) 5 (nI nl)))]) [0, 1] (by decide) rfl
                have hK9 := hK.sub (tys' := [(cS, .int)]) [0] rfl
                exact W.iret (v := nI nl) hx hb hr (fun tQ htQ hWQ => ⟨⟨(nI nl), ((upd (upd f1 1 (nI (nl + 1))) 5 (nI nl)), (nI nl), (nI p1), (nI tp), 0, 0), rfl, Or.inr ⟨by omega, HQ_good (by omega) z0 hF0 hF hI, (by rw [pk_un (by omega), pk_un (by omega)]; exact (hF 4 (by omega) (by omega) (by omega)).trans z0), Or.inr ⟨C1, p1, hE9.trans (af_e (by omega)), rfl, (pk_un (by omega)).trans pk_us, pk_us, ⟨by rw [pk_un (by omega), pk_un (by omega)]; exact hI.2.2.2.1, fun i hi => by have := hI.2.2.2.2.1; rw [pk_un (by omega), pk_un (by omega)]; exact hI.2.2.2.2.2.2.2 i hi, by have := hI.2.2.2.2.1; omega, by rw [pk_un (by omega), pk_un (by omega)]; exact hsg⟩⟩⟩, by rw [htQ]; exact hP9, va_K.moved hWQ.alike hK9, hD9⟩, hS.F htQ⟩) hS.2.2 dX12_hill_181
              · skip
                have c_44 : ¬ p1 = tp := fun q => c_44 ((nI_eq (a := p1) (b := tp) (by omega) (by omega)).mpr q)
                refine lv_bipush (v := (-10)) hx hb dX12_hill_149 (by decide) ?_
                refine lv_aload_n hx hb dX12_hill_151 rfl (lv_at hl 0 rfl) ?_
                refine va_get (D := (dC, dI)) (ci := 14) (v := .int (nI p1)) (C := RX12) (T := TX12) (N := 23) hx hb hts kc_mHill_0 hown hK hP 0 rfl rfl 5 (by decide) (hts (.fieldLink RX12 59 "MistHeapsModel" "spot" "I") kc_mHill_4) (fun _ h9 => h9) rfl dX12_hill_152 ?_
                refine lv_isub hx hb dX12_hill_155 ?_
                rw [hQ]
                have hP9 := hP.sub (ws' := [(zo14irriiiiiirriirrrrlriiii m0 th aS aI im (nI nl) (nI p1) (nI tp) 0 0 aB aT se dn aG aO aN aD bv aY rn kd nu tv), (zaI aS cS 901 f1)]) [0, 1] rfl
                have hD9 := hD.sub (ws' := [(zo14irriiiiiirriirrrrlriiii m0 th aS aI im (nI nl) (nI p1) (nI tp) 0 0 aB aT se dn aG aO aN aD bv aY rn kd nu tv), (zaI aS cS 901 f1)]) [0, 1] (by decide) rfl
                have hK9 := hK.sub (tys' := [(cS, .int)]) [0] rfl
                exact W.iret (v := (-10) - (nI p1)) hx hb hr (fun tQ htQ hWQ => ⟨⟨((-10) - (nI p1)), (f1, (nI nl), (nI p1), (nI tp), 0, 0), rfl, Or.inr ⟨by omega, HQ_bad (by omega) z1 hHd z0 hF0 hF, (hF 4 (by omega) (by omega) (by omega)).trans z0, Or.inl ⟨p1, by omega, hE9.trans (by rw [show 10 - n1 = 0 by omega]; exact af_0 (by omega)), rfl, fun i b1 b2 b3 b4 => (hF i b2 b3 b4).trans (hF0 i b1 b2 b3)⟩⟩, by rw [htQ]; exact hP9, va_K.moved hWQ.alike hK9, hD9⟩, hS.F htQ⟩) hS.2.2 dX12_hill_156
            · skip
              have c_42 : ¬ 10 ≤ n1 := fun q => c_42 ((nI_leI (a := 10) (b := n1) (by omega) (by omega)).mpr q)
              refine lv_aload_n hx hb dX12_hill_102 rfl (lv_at hl 0 rfl) ?_
              have hPc := hP.sub (ws' := [(zo14irriiiiiirriirrrrlriiii m0 th aS aI im (nI nl) (nI p1) (nI tp) 0 0 aB aT se dn aG aO aN aD bv aY rn kd nu tv), (zaI aS cS 901 f1)]) [0, 1] rfl
              have hKc := hK.sub (tys' := [(cS, .int)]) [0] rfl
              refine vp_callSi (va_runV (As := []) (rest := []) ⟨hx, hb, hml, hown, hts⟩ (c_here l dC dI m0 aS aI aB aT aG aO aN aD aY th im (nI nl) (nI p1) (nI tp) 0 0 se dn rn kd nu tv bv cS f1 nl p1 tp (by omega) (by omega) (by omega)) (cwV 0 hts gX12_hill_X12_here rfl rfl rfl hd_yX12_here ⟨Nat.le_of_ble_eq_true rfl, Nat.le_of_ble_eq_true rfl⟩) ⟨fun a U g mk q => by obtain ⟨q0, qP, qK⟩ := q; exact ⟨q0, mvP g mk a qP, mvK g mk a qK⟩, va_recv hK hP (ci := 14) (q := (RX12, TX12, 23)) (q0 := 0) rfl rfl, fun U hU hW => ⟨rfl, by rw [hU]; exact hPc, va_K.moved hW.alike hKc⟩⟩ rfl rfl hl.1 rfl (lv_room (Nat.le_of_ble_eq_true rfl)) dX12_hill_103 ⟨Nat.le_of_ble_eq_true rfl, Nat.le_of_ble_eq_true rfl⟩).run (fun r_45 hw_46 => ?_)
              refine lv_bipush (v := 59) hx hb dX12_hill_106 (by decide) ?_
              refine lv_icmp_ne (tgt := 131) hx hb dX12_hill_108 (by decide) (fun c_47 => ?_) (fun c_47 => ?_)
              · skip
                have hn9 : ¬ ss p1 = 59 := fun z => c_47 (by rw [hw_46]; exact ((TP_PQ gT0 ht hF).eq (c := 59) (by omega) (by omega)).mpr z)
                refine lv_aload_n hx hb dX12_hill_131 rfl (lv_at hl 0 rfl) ?_
                refine va_get (D := (dC, dI)) (ci := 14) (v := .int 0) (C := RX12) (T := TX12) (N := 23) hx hb hts kc_mHill_0 hown hK hP 0 rfl rfl 7 (by decide) (hts (.fieldLink RX12 65 "MistHeapsModel" "isWrong" "Z") kc_mHill_5) (fun _ h9 => h9) rfl dX12_hill_132 ?_
                refine lv_if_ne (tgt := 149) hx hb dX12_hill_135 (by decide) (fun c_48 => absurd c_48 (by decide)) (fun _ => ?_)
                refine lv_aload_n hx hb dX12_hill_138 rfl (lv_at hl 0 rfl) ?_
                refine va_get (D := (dC, dI)) (ci := 14) (v := .int (nI p1)) (C := RX12) (T := TX12) (N := 23) hx hb hts kc_mHill_0 hown hK hP 0 rfl rfl 5 (by decide) (hts (.fieldLink RX12 59 "MistHeapsModel" "spot" "I") kc_mHill_4) (fun _ h9 => h9) rfl dX12_hill_139 ?_
                refine lv_aload_n hx hb dX12_hill_142 rfl (lv_at hl 0 rfl) ?_
                refine va_get (D := (dC, dI)) (ci := 14) (v := .int (nI tp)) (C := RX12) (T := TX12) (N := 23) hx hb hts kc_mHill_0 hown hK hP 0 rfl rfl 6 (by decide) (hts (.fieldLink RX12 62 "MistHeapsModel" "end" "I") kc_mHill_3) (fun _ h9 => h9) rfl dX12_hill_143 ?_
                refine lv_icmp_eq (tgt := 157) hx hb dX12_hill_146 (by decide) (fun c_49 => ?_) (fun c_49 => ?_)
                · skip
                  have c_49 : p1 = tp := (nI_eq (a := p1) (b := tp) (by omega) (by omega)).mp c_49
                  refine lv_aload_n hx hb dX12_hill_157 rfl (lv_at hl 0 rfl) ?_
                  refine va_get (D := (dC, dI)) (ci := 14) (v := .ref aS) (C := RX12) (T := TX12) (N := 23) hx hb hts kc_mHill_0 hown hK hP 0 rfl rfl 1 (by decide) (hts (.fieldLink RX12 9 "MistHeapsModel" "s" "[I") kc_mHill_1) (fun _ h9 => h9) rfl dX12_hill_158 ?_
                  refine lv_iconst (v := 1) hx hb dX12_hill_161 (by decide) ?_
                  refine lv_dup2_11 hx hb dX12_hill_162 rfl rfl ?_
                  refine va_iald hx hb hK hP 1 0 rfl rfl (vp_in_nI (n := 1) (N := 901) (by omega) (by omega)) dX12_hill_163 ?_
                  refine qi_as (y := nI nl) ((show f1 (1 : Int32).toNatClampNeg = f1 1 from rfl).trans ((hF 1 (by omega) (by omega) (by omega)).trans ((hF0 1 (by omega) (by omega) (by omega)).trans z1))) ?_
                  refine lv_iconst (v := 1) hx hb dX12_hill_164 (by decide) ?_
                  refine lv_iadd hx hb dX12_hill_165 ?_
                  refine qi_as (y := nI (nl + 1)) (nI_add nl 1) ?_
                  refine va_iast hx hb hK hP hD hS 1 0 rfl rfl (vp_in_nI (n := 1) (N := 901) (by omega) (by omega)) dX12_hill_166 (fun H locs hP hD hS => ?_)
                  have hP : va_P (dC, dI) vwCl [(zo14irriiiiiirriirrrrlriiii m0 th aS aI im (nI nl) (nI p1) (nI tp) 0 0 aB aT se dn aG aO aN aD bv aY rn kd nu tv), (zaI aS cS 901 (upd f1 1 (nI (nl + 1))))] H := hP
                  have hD : va_D A [(zo14irriiiiiirriirrrrlriiii m0 th aS aI im (nI nl) (nI p1) (nI tp) 0 0 aB aT se dn aG aO aN aD bv aY rn kd nu tv), (zaI aS cS 901 (upd f1 1 (nI (nl + 1))))] := hD
                  refine lv_aload_n hx hb dX12_hill_167 rfl (lv_at hl 0 rfl) ?_
                  refine va_get (D := (dC, dI)) (ci := 14) (v := .ref aS) (C := RX12) (T := TX12) (N := 23) hx hb hts kc_mHill_0 hown hK hP 0 rfl rfl 1 (by decide) (hts (.fieldLink RX12 9 "MistHeapsModel" "s" "[I") kc_mHill_1) (fun _ h9 => h9) rfl dX12_hill_168 ?_
                  refine lv_iconst (v := 5) hx hb dX12_hill_171 (by decide) ?_
                  refine lv_aload_n hx hb dX12_hill_172 rfl (lv_at hl 0 rfl) ?_
                  refine va_get (D := (dC, dI)) (ci := 14) (v := .int (nI nl)) (C := RX12) (T := TX12) (N := 23) hx hb hts kc_mHill_0 hown hK hP 0 rfl rfl 4 (by decide) (hts (.fieldLink RX12 86 "MistHeapsModel" "act" "I") kc_mHill_2) (fun _ h9 => h9) rfl dX12_hill_173 ?_
                  refine va_iast hx hb hK hP hD hS 1 0 rfl rfl (vp_in_nI (n := 5) (N := 901) (by omega) (by omega)) dX12_hill_176 (fun H locs hP hD hS => ?_)
                  have hP : va_P (dC, dI) vwCl [(zo14irriiiiiirriirrrrlriiii m0 th aS aI im (nI nl) (nI p1) (nI tp) 0 0 aB aT se dn aG aO aN aD bv aY rn kd nu tv), (zaI aS cS 901 (upd (upd f1 1 (nI (nl + 1))) 5 (nI nl)))] H := hP
                  have hD : va_D A [(zo14irriiiiiirriirrrrlriiii m0 th aS aI im (nI nl) (nI p1) (nI tp) 0 0 aB aT se dn aG aO aN aD bv aY rn kd nu tv), (zaI aS cS 901 (upd (upd f1 1 (nI (nl + 1))) 5 (nI nl)))] := hD
                  refine lv_aload_n hx hb dX12_hill_177 rfl (lv_at hl 0 rfl) ?_
                  refine va_get (D := (dC, dI)) (ci := 14) (v := .int (nI nl)) (C := RX12) (T := TX12) (N := 23) hx hb hts kc_mHill_0 hown hK hP 0 rfl rfl 4 (by decide) (hts (.fieldLink RX12 86 "MistHeapsModel" "act" "I") kc_mHill_2) (fun _ h9 => h9) rfl dX12_hill_178 ?_
                  rw [hQ]
                  have hP9 := hP.sub (ws' := [(zo14irriiiiiirriirrrrlriiii m0 th aS aI im (nI nl) (nI p1) (nI tp) 0 0 aB aT se dn aG aO aN aD bv aY rn kd nu tv), (zaI aS cS 901 (upd (upd f1 1 (nI (nl + 1))) 5 (nI nl)))]) [0, 1] rfl
                  have hD9 := hD.sub (ws' := [(zo14irriiiiiirriirrrrlriiii m0 th aS aI im (nI nl) (nI p1) (nI tp) 0 0 aB aT se dn aG aO aN aD bv aY rn kd nu tv), (zaI aS cS 901 (upd (upd f1 1 (nI (nl + 1))) 5 (nI nl)))]) [0, 1] (by decide) rfl
                  have hK9 := hK.sub (tys' := [(cS, .int)]) [0] rfl
                  exact W.iret (v := nI nl) hx hb hr (fun tQ htQ hWQ => ⟨⟨(nI nl), ((upd (upd f1 1 (nI (nl + 1))) 5 (nI nl)), (nI nl), (nI p1), (nI tp), 0, 0), rfl, Or.inr ⟨by omega, HQ_good (by omega) z0 hF0 hF hI, (by rw [pk_un (by omega), pk_un (by omega)]; exact (hF 4 (by omega) (by omega) (by omega)).trans z0), Or.inr ⟨C1, p1, hE9.trans (af_e (by omega)), rfl, (pk_un (by omega)).trans pk_us, pk_us, ⟨by rw [pk_un (by omega), pk_un (by omega)]; exact hI.2.2.2.1, fun i hi => by have := hI.2.2.2.2.1; rw [pk_un (by omega), pk_un (by omega)]; exact hI.2.2.2.2.2.2.2 i hi, by have := hI.2.2.2.2.1; omega, by rw [pk_un (by omega), pk_un (by omega)]; exact hsg⟩⟩⟩, by rw [htQ]; exact hP9, va_K.moved hWQ.alike hK9, hD9⟩, hS.F htQ⟩) hS.2.2 dX12_hill_181
                · skip
                  have c_49 : ¬ p1 = tp := fun q => c_49 ((nI_eq (a := p1) (b := tp) (by omega) (by omega)).mpr q)
                  refine lv_bipush (v := (-10)) hx hb dX12_hill_149 (by decide) ?_
                  refine lv_aload_n hx hb dX12_hill_151 rfl (lv_at hl 0 rfl) ?_
                  refine va_get (D := (dC, dI)) (ci := 14) (v := .int (nI p1)) (C := RX12) (T := TX12) (N := 23) hx hb hts kc_mHill_0 hown hK hP 0 rfl rfl 5 (by decide) (hts (.fieldLink RX12 59 "MistHeapsModel" "spot" "I") kc_mHill_4) (fun _ h9 => h9) rfl dX12_hill_152 ?_
                  refine lv_isub hx hb dX12_hill_155 ?_
                  rw [hQ]
                  have hP9 := hP.sub (ws' := [(zo14irriiiiiirriirrrrlriiii m0 th aS aI im (nI nl) (nI p1) (nI tp) 0 0 aB aT se dn aG aO aN aD bv aY rn kd nu tv), (zaI aS cS 901 f1)]) [0, 1] rfl
                  have hD9 := hD.sub (ws' := [(zo14irriiiiiirriirrrrlriiii m0 th aS aI im (nI nl) (nI p1) (nI tp) 0 0 aB aT se dn aG aO aN aD bv aY rn kd nu tv), (zaI aS cS 901 f1)]) [0, 1] (by decide) rfl
                  have hK9 := hK.sub (tys' := [(cS, .int)]) [0] rfl
                  exact W.iret (v := (-10) - (nI p1)) hx hb hr (fun tQ htQ hWQ => ⟨⟨((-10) - (nI p1)), (f1, (nI nl), (nI p1), (nI tp), 0, 0), rfl, Or.inr ⟨by omega, HQ_bad (by omega) z1 hHd z0 hF0 hF, (hF 4 (by omega) (by omega) (by omega)).trans z0, Or.inl ⟨p1, by omega, hE9.trans (af_n (by omega) hn9), rfl, fun i b1 b2 b3 b4 => (hF i b2 b3 b4).trans (hF0 i b1 b2 b3)⟩⟩, by rw [htQ]; exact hP9, va_K.moved hWQ.alike hK9, hD9⟩, hS.F htQ⟩) hS.2.2 dX12_hill_156
              · skip
                have hs9 : ss p1 = 59 := ((TP_PQ gT0 ht hF).eq (c := 59) (by omega) (by omega)).mp (by rw [← hw_46, c_47]; rfl)
                have hlt : p1 < tp := Nat.lt_of_not_le (fun z => by have := gT.2.1 p1 z; omega)
                have hne : ¬ p1 = tp := by omega
                rw [show 10 - n1 = (10 - (n1 + 1)) + 1 by omega] at hE9
                refine lv_aload_n hx hb dX12_hill_111 rfl (lv_at hl 0 rfl) ?_
                refine lv_dup hx hb dX12_hill_112 rfl ?_
                refine va_get (D := (dC, dI)) (ci := 14) (v := .int (nI p1)) (C := RX12) (T := TX12) (N := 23) hx hb hts kc_mHill_0 hown hK hP 0 rfl rfl 5 (by decide) (hts (.fieldLink RX12 59 "MistHeapsModel" "spot" "I") kc_mHill_4) (fun _ h9 => h9) rfl dX12_hill_113 ?_
                refine lv_iconst (v := 1) hx hb dX12_hill_116 (by decide) ?_
                refine lv_iadd hx hb dX12_hill_117 ?_
                refine qi_as (y := nI (p1 + 1)) (nI_add p1 1) ?_
                refine va_put (D := (dC, dI)) (ci := 14) (v := .int (nI (p1 + 1))) (ty := .int) (C := RX12) (T := TX12) (N := 23) hx hb hts kc_mHill_0 tyX12 tyX12_ok nmX12 hown hK hP hD hS 0 rfl rfl 5 (by decide) (hts (.fieldLink RX12 59 "MistHeapsModel" "spot" "I") kc_mHill_4) (fun _ h9 => h9) rfl (by decide +kernel) rfl rfl (Nat.le_of_ble_eq_true rfl) dX12_hill_118 (fun H locs hP hD hS => ?_)
                have hP : va_P (dC, dI) vwCl [(zo14irriiiiiirriirrrrlriiii m0 th aS aI im (nI nl) (nI (p1 + 1)) (nI tp) 0 0 aB aT se dn aG aO aN aD bv aY rn kd nu tv), (zaI aS cS 901 f1)] H := hP
                have hD : va_D A [(zo14irriiiiiirriirrrrlriiii m0 th aS aI im (nI nl) (nI (p1 + 1)) (nI tp) 0 0 aB aT se dn aG aO aN aD bv aY rn kd nu tv), (zaI aS cS 901 f1)] := hD
                refine lv_aload_n hx hb dX12_hill_121 rfl (lv_at hl 0 rfl) ?_
                have hPc := hP.sub (ws' := [(zo14irriiiiiirriirrrrlriiii m0 th aS aI im (nI nl) (nI (p1 + 1)) (nI tp) 0 0 aB aT se dn aG aO aN aD bv aY rn kd nu tv), (zaI aS cS 901 f1)]) [0, 1] rfl
                have hDc := hD.sub (ws' := [(zo14irriiiiiirriirrrrlriiii m0 th aS aI im (nI nl) (nI (p1 + 1)) (nI tp) 0 0 aB aT se dn aG aO aN aD bv aY rn kd nu tv), (zaI aS cS 901 f1)]) [0, 1] (by decide) rfl
                have hKc := hK.sub (tys' := [(cS, .int)]) [0] rfl
                have hFc := va_free (wc := [(zo14irriiiiiirriirrrrlriiii m0 th aS aI im (nI nl) (nI (p1 + 1)) (nI tp) 0 0 aB aT se dn aG aO aN aD bv aY rn kd nu tv), (zaI aS cS 901 f1)]) hD hS hA [0, 1] rfl
                refine va_callv (va_runV (As := []) (rest := []) ⟨hx, hb, hml, hown, hts⟩ (c_clauseHere l dC dI sK sV m0 aS aI aB aT aG aO aN aD aY th im (nI nl) (nI (p1 + 1)) (nI tp) 0 0 se dn rn kd nu tv bv cS f1 nl (p1 + 1) tp (flC C1) ss H.size (by omega) (by omega) (by omega) ((hI).mono (by omega) (by omega)) ((TP_PQ gT0 ht (hF)))) (cwV 0 hts gX12_hill_X12_clauseHere rfl rfl rfl hd_yX12_clauseHere ⟨Nat.le_of_ble_eq_true rfl, Nat.le_of_ble_eq_true rfl⟩) ⟨fun a U g mk q => by obtain ⟨q0, q1, qP, qK, qD, qhE⟩ := q; exact ⟨q0, mvz g mk a q1, mvP g mk a qP, mvK g mk a qK, qD, qhE.mv g mk a⟩, va_recv hK hP (ci := 14) (q := (RX12, TX12, 23)) (q0 := 0) rfl rfl, fun U hU hW => ⟨rfl, by rw [hU], by rw [hU]; exact hPc, va_K.moved hW.alike hKc, hDc.weaken (fun _ _ _ _ => trivial), hE.call hS hU hW (fun q h => hFc q h)⟩⟩ rfl rfl hl.1 rfl (lv_room (Nat.le_of_ble_eq_true rfl)) dX12_hill_122 ⟨Nat.le_of_ble_eq_true rfl, Nat.le_of_ble_eq_true rfl⟩) hS (fun q _ h => hFc q h) hFc (fun u tC H1 locs htC hvm hw_51 hB hz1 hk1 hS => ?_)
                obtain ⟨fS9_52, sp9_53, wg9_54⟩ := u
                try dsimp only at hw_51 hB
                obtain ⟨hP1, hK1, hD1⟩ := hB
                rw [htC] at hP1
                have hK1 := va_K.moved hvm.symm hK1
                obtain ⟨hP, hD⟩ := va_join (wr := []) (w1 := [(zo14irriiiiiirriirrrrlriiii m0 th aS aI im (nI nl) sp9_53 (nI tp) wg9_54 0 aB aT se dn aG aO aN aD bv aY rn kd nu tv), (zaI aS cS 901 fS9_52)]) hP hD [0, 1] [] rfl rfl (by decide) (by decide) hk1 hFc hP1 hD1
                have hK := (hK.sub (tys' := []) [] rfl).app hK1
                generalize H1 = H at hP hS ⊢
                have hP : va_P (dC, dI) vwCl [(zo14irriiiiiirriirrrrlriiii m0 th aS aI im (nI nl) sp9_53 (nI tp) wg9_54 0 aB aT se dn aG aO aN aD bv aY rn kd nu tv), (zaI aS cS 901 fS9_52)] H := hP
                have hD : va_D A [(zo14irriiiiiirriirrrrlriiii m0 th aS aI im (nI nl) sp9_53 (nI tp) wg9_54 0 aB aT se dn aG aO aN aD bv aY rn kd nu tv), (zaI aS cS 901 fS9_52)] := hD
                have hK : va_K (dC, dI) vwCl [(cS, .int)] s := hK
                obtain ⟨p_55, rfl, h_57, h_58, hF_59, q9⟩ := hw_51
                rcases q9 with ⟨rfl, eC_62⟩ | ⟨rfl, c_56, eC_62, hI_60, h_61⟩
                · skip
                  refine lv_iinc (v := nI (n1 + 1)) (lv' := [(1, .int (nI (n1 + 1))), (0, .ref m0)]) hx hb dX12_hill_125 hl (k := 1) rfl (nI_add n1 1) (by decide) rfl (fun ls hl => ?_)
                  refine lv_goto (tgt := 89) hx hb dX12_hill_128 (by decide) ?_
                  exact ih89 (n1 + 1) (p_55) ([]) (1) (fS9_52) (by omega) (by omega) (by omega) ((hF).tr hF_59) (Or.inl ⟨rfl, hE9.trans (af_b hne hs9 eC_62)⟩) _ _ (hK.sub [0] rfl) (hP.sub [0, 1] rfl) (hD.sub [0, 1] (by decide) rfl) hS ls (lv_sub hl [1, 0] rfl)
                · skip
                  refine lv_iinc (v := nI (n1 + 1)) (lv' := [(1, .int (nI (n1 + 1))), (0, .ref m0)]) hx hb dX12_hill_125 hl (k := 1) rfl (nI_add n1 1) (by decide) rfl (fun ls hl => ?_)
                  refine lv_goto (tgt := 89) hx hb dX12_hill_128 (by decide) ?_
                  exact ih89 (n1 + 1) (p_55) ((C1 ++ [c_56])) (0) (fS9_52) (by omega) (by omega) (by omega) ((hF).tr hF_59) (Or.inr ⟨rfl, hE9.trans (af_g hne hs9 eC_62), (PI.fl hI_60), (sg_stp h_61 hsg)⟩) _ _ (hK.sub [0] rfl) (hP.sub [0, 1] rfl) (hD.sub [0, 1] (by decide) rfl) hS ls (lv_sub hl [1, 0] rfl)
      exact L89 _ (1) (p_7) (([] ++ [c_8])) (0) (fS9_4) (Nat.lt_succ_self _) (by omega) (by omega) ((PQ.rf).tr hF_11) (Or.inr ⟨rfl, hl_s1 eC_14, (PI.fl hI_12), (sg_stp h_13 zs0)⟩) _ _ (hK.sub [0] rfl) (hP.sub [0, 1] rfl) (hD.sub [0, 1] (by decide) rfl) hS ls (lv_sub hl [1, 0] rfl)
  · skip
    have c_1 : nl = 5 := (nI_eq (a := nl) (b := 5) (by omega) (by omega)).mp c_1
    refine lv_bipush (v := (-4)) hx hb dX12_hill_10 (by decide) ?_
    rw [hQ]
    have hP9 := hP.sub (ws' := [(zo14irriiiiiirriirrrrlriiii m0 th aS aI im ac sp en wg op aB aT se dn aG aO aN aD bv aY rn kd nu tv), (zaI aS cS 901 fS)]) [0, 1] rfl
    have hD9 := hD.sub (ws' := [(zo14irriiiiiirriirrrrlriiii m0 th aS aI im ac sp en wg op aB aT se dn aG aO aN aD bv aY rn kd nu tv), (zaI aS cS 901 fS)]) [0, 1] (by decide) rfl
    have hK9 := hK.sub (tys' := [(cS, .int)]) [0] rfl
    exact W.iret (v := (-4)) hx hb hr (fun tQ htQ hWQ => ⟨⟨(-4), (fS, ac, sp, en, wg, op), rfl, Or.inl ⟨by omega, rfl, rfl⟩, by rw [htQ]; exact hP9, va_K.moved hWQ.alike hK9, hD9⟩, hS.F htQ⟩) hS.2.2 dX12_hill_12
end mg13a
section mg13a
theorem ggX11_besideOrSame_X11_rowOf : GoodIn wsX11_besideOrSame wsX11_rowOf := gga_of 643 rfl rfl rfl
theorem gX11_besideOrSame_X11_rowOf : GoodIn wsX11_besideOrSame (va_wsS RX11 212 yX11_rowOf wsX11_rowOf) := goodIn_app (ggh_of [701, 642, 63] rfl rfl rfl) ggX11_besideOrSame_X11_rowOf
theorem ggX11_besideOrSame_X11_columnOf : GoodIn wsX11_besideOrSame wsX11_columnOf := gga_of 646 rfl rfl rfl
theorem gX11_besideOrSame_X11_columnOf : GoodIn wsX11_besideOrSame (va_wsS RX11 215 yX11_columnOf wsX11_columnOf) := goodIn_app (ggh_of [705, 645, 63] rfl rfl rfl) ggX11_besideOrSame_X11_columnOf
theorem ggX11_besideOrSame_X11_isOnHill : GoodIn wsX11_besideOrSame wsX11_isOnHill := gga_of 850 rfl rfl rfl
theorem gX11_besideOrSame_X11_isOnHill : GoodIn wsX11_besideOrSame (va_wsS RX11 218 yX11_isOnHill wsX11_isOnHill) := goodIn_app (ggh_of [848, 849, 63] rfl rfl rfl) ggX11_besideOrSame_X11_isOnHill
theorem ggX11_apart_X11_rowOf : GoodIn wsX11_apart wsX11_rowOf := gga_of 643 rfl rfl rfl
theorem gX11_apart_X11_rowOf : GoodIn wsX11_apart (va_wsS RX11 212 yX11_rowOf wsX11_rowOf) := goodIn_app (ggh_of [701, 642, 63] rfl rfl rfl) ggX11_apart_X11_rowOf
theorem ggX11_apart_X11_columnOf : GoodIn wsX11_apart wsX11_columnOf := gga_of 646 rfl rfl rfl
theorem gX11_apart_X11_columnOf : GoodIn wsX11_apart (va_wsS RX11 215 yX11_columnOf wsX11_columnOf) := goodIn_app (ggh_of [705, 645, 63] rfl rfl rfl) ggX11_apart_X11_columnOf
theorem ggX11_partOf_X11_commonDivisor : GoodIn wsX11_partOf wsX11_commonDivisor := gga_of 859 rfl rfl rfl
theorem gX11_partOf_X11_commonDivisor : GoodIn wsX11_partOf (va_wsS RX11 272 yX11_commonDivisor wsX11_commonDivisor) := goodIn_app (ggh_of [857, 858, 63] rfl rfl rfl) ggX11_partOf_X11_commonDivisor
noncomputable def dk14afz_cX11_isCell_0 : List (Nat × List Nat) := [(0, [26]), (1, [155, 0, 13]), (4, [26]), (5, [16, 36]), (7, [162, 0, 7]), (10, [4]), (11, [167, 0, 4]), (14, [3]), (15, [172])]
set_option maxRecDepth 100000 in
theorem dk14afz_cX11_isCell_0_a : btA cX11_isCell dk14afz_cX11_isCell_0 = true := by decide +kernel
theorem dX11_isCell_0 : decode cX11_isCell 0 = .ok (.iload_n 0, 1) := bd26 (btAt dk14afz_cX11_isCell_0_a 0 rfl)
theorem dX11_isCell_1 : decode cX11_isCell 1 = .ok (.ifCond .lt 13, 3) := bd155 (a := 0) (b := 13) (btAt dk14afz_cX11_isCell_0_a 1 rfl)
theorem dX11_isCell_4 : decode cX11_isCell 4 = .ok (.iload_n 0, 1) := bd26 (btAt dk14afz_cX11_isCell_0_a 2 rfl)
theorem dX11_isCell_5 : decode cX11_isCell 5 = .ok (.bipush 36, 2) := bd16 (a := 36) (btAt dk14afz_cX11_isCell_0_a 3 rfl)
theorem dX11_isCell_7 : decode cX11_isCell 7 = .ok (.if_icmp .ge 7, 3) := bd162 (a := 0) (b := 7) (btAt dk14afz_cX11_isCell_0_a 4 rfl)
theorem dX11_isCell_10 : decode cX11_isCell 10 = .ok (.iconst 1, 1) := bd4 (btAt dk14afz_cX11_isCell_0_a 5 rfl)
theorem dX11_isCell_11 : decode cX11_isCell 11 = .ok (.goto 4, 3) := bd167 (a := 0) (b := 4) (btAt dk14afz_cX11_isCell_0_a 6 rfl)
theorem dX11_isCell_14 : decode cX11_isCell 14 = .ok (.iconst 0, 1) := bd3 (btAt dk14afz_cX11_isCell_0_a 7 rfl)
theorem dX11_isCell_15 : decode cX11_isCell 15 = .ok (.ireturn, 1) := bd172 (btAt dk14afz_cX11_isCell_0_a 8 rfl)
noncomputable def dk14afz_cX11_rowOf_0 : List (Nat × List Nat) := [(0, [26]), (1, [16, 6]), (3, [108]), (4, [172])]
set_option maxRecDepth 100000 in
theorem dk14afz_cX11_rowOf_0_a : btA cX11_rowOf dk14afz_cX11_rowOf_0 = true := by decide +kernel
theorem dX11_rowOf_0 : decode cX11_rowOf 0 = .ok (.iload_n 0, 1) := bd26 (btAt dk14afz_cX11_rowOf_0_a 0 rfl)
theorem dX11_rowOf_1 : decode cX11_rowOf 1 = .ok (.bipush 6, 2) := bd16 (a := 6) (btAt dk14afz_cX11_rowOf_0_a 1 rfl)
theorem dX11_rowOf_3 : decode cX11_rowOf 3 = .ok (.idiv, 1) := bd108 (btAt dk14afz_cX11_rowOf_0_a 2 rfl)
theorem dX11_rowOf_4 : decode cX11_rowOf 4 = .ok (.ireturn, 1) := bd172 (btAt dk14afz_cX11_rowOf_0_a 3 rfl)
noncomputable def dk14afz_cX11_columnOf_0 : List (Nat × List Nat) := [(0, [26]), (1, [16, 6]), (3, [112]), (4, [172])]
set_option maxRecDepth 100000 in
theorem dk14afz_cX11_columnOf_0_a : btA cX11_columnOf dk14afz_cX11_columnOf_0 = true := by decide +kernel
theorem dX11_columnOf_0 : decode cX11_columnOf 0 = .ok (.iload_n 0, 1) := bd26 (btAt dk14afz_cX11_columnOf_0_a 0 rfl)
theorem dX11_columnOf_1 : decode cX11_columnOf 1 = .ok (.bipush 6, 2) := bd16 (a := 6) (btAt dk14afz_cX11_columnOf_0_a 1 rfl)
theorem dX11_columnOf_3 : decode cX11_columnOf 3 = .ok (.irem, 1) := bd112 (btAt dk14afz_cX11_columnOf_0_a 2 rfl)
theorem dX11_columnOf_4 : decode cX11_columnOf 4 = .ok (.ireturn, 1) := bd172 (btAt dk14afz_cX11_columnOf_0_a 3 rfl)
noncomputable def dk14afz_cX11_isOnHill_0 : List (Nat × List Nat) := [(0, [26]), (1, [155, 0, 23]), (4, [26]), (5, [16, 6]), (7, [162, 0, 17]), (10, [27]), (11, [155, 0, 13]), (14, [27]), (15, [16, 6]), (17, [162, 0, 7]), (20, [4]), (21, [167, 0, 4]), (24, [3]), (25, [172])]
set_option maxRecDepth 100000 in
theorem dk14afz_cX11_isOnHill_0_a : btA cX11_isOnHill dk14afz_cX11_isOnHill_0 = true := by decide +kernel
theorem dX11_isOnHill_0 : decode cX11_isOnHill 0 = .ok (.iload_n 0, 1) := bd26 (btAt dk14afz_cX11_isOnHill_0_a 0 rfl)
theorem dX11_isOnHill_1 : decode cX11_isOnHill 1 = .ok (.ifCond .lt 23, 3) := bd155 (a := 0) (b := 23) (btAt dk14afz_cX11_isOnHill_0_a 1 rfl)
theorem dX11_isOnHill_4 : decode cX11_isOnHill 4 = .ok (.iload_n 0, 1) := bd26 (btAt dk14afz_cX11_isOnHill_0_a 2 rfl)
theorem dX11_isOnHill_5 : decode cX11_isOnHill 5 = .ok (.bipush 6, 2) := bd16 (a := 6) (btAt dk14afz_cX11_isOnHill_0_a 3 rfl)
theorem dX11_isOnHill_7 : decode cX11_isOnHill 7 = .ok (.if_icmp .ge 17, 3) := bd162 (a := 0) (b := 17) (btAt dk14afz_cX11_isOnHill_0_a 4 rfl)
theorem dX11_isOnHill_10 : decode cX11_isOnHill 10 = .ok (.iload_n 1, 1) := bd27 (btAt dk14afz_cX11_isOnHill_0_a 5 rfl)
theorem dX11_isOnHill_11 : decode cX11_isOnHill 11 = .ok (.ifCond .lt 13, 3) := bd155 (a := 0) (b := 13) (btAt dk14afz_cX11_isOnHill_0_a 6 rfl)
theorem dX11_isOnHill_14 : decode cX11_isOnHill 14 = .ok (.iload_n 1, 1) := bd27 (btAt dk14afz_cX11_isOnHill_0_a 7 rfl)
theorem dX11_isOnHill_15 : decode cX11_isOnHill 15 = .ok (.bipush 6, 2) := bd16 (a := 6) (btAt dk14afz_cX11_isOnHill_0_a 8 rfl)
theorem dX11_isOnHill_17 : decode cX11_isOnHill 17 = .ok (.if_icmp .ge 7, 3) := bd162 (a := 0) (b := 7) (btAt dk14afz_cX11_isOnHill_0_a 9 rfl)
theorem dX11_isOnHill_20 : decode cX11_isOnHill 20 = .ok (.iconst 1, 1) := bd4 (btAt dk14afz_cX11_isOnHill_0_a 10 rfl)
theorem dX11_isOnHill_21 : decode cX11_isOnHill 21 = .ok (.goto 4, 3) := bd167 (a := 0) (b := 4) (btAt dk14afz_cX11_isOnHill_0_a 11 rfl)
theorem dX11_isOnHill_24 : decode cX11_isOnHill 24 = .ok (.iconst 0, 1) := bd3 (btAt dk14afz_cX11_isOnHill_0_a 12 rfl)
theorem dX11_isOnHill_25 : decode cX11_isOnHill 25 = .ok (.ireturn, 1) := bd172 (btAt dk14afz_cX11_isOnHill_0_a 13 rfl)
noncomputable def dk14afz_cX11_besideOrSame_0 : List (Nat × List Nat) := [(0, [26]), (1, [184, 0, 212]), (4, [178, 1, 10]), (7, [27]), (8, [46]), (9, [96]), (10, [61]), (11, [26]), (12, [184, 0, 215]), (15, [178, 1, 13]), (18, [27]), (19, [46]), (20, [96]), (21, [62]), (22, [28]), (23, [29]), (24, [184, 0, 218]), (27, [153, 0, 12]), (30, [28]), (31, [16, 6]), (33, [104]), (34, [29]), (35, [96]), (36, [167, 0, 4]), (39, [26]), (40, [172])]
set_option maxRecDepth 100000 in
theorem dk14afz_cX11_besideOrSame_0_a : btA cX11_besideOrSame dk14afz_cX11_besideOrSame_0 = true := by decide +kernel
theorem dX11_besideOrSame_0 : decode cX11_besideOrSame 0 = .ok (.iload_n 0, 1) := bd26 (btAt dk14afz_cX11_besideOrSame_0_a 0 rfl)
theorem dX11_besideOrSame_1 : decode cX11_besideOrSame 1 = .ok (.invokestatic 212, 3) := bd184 (a := 0) (b := 212) (btAt dk14afz_cX11_besideOrSame_0_a 1 rfl)
theorem dX11_besideOrSame_4 : decode cX11_besideOrSame 4 = .ok (.getstatic 266, 3) := bd178 (a := 1) (b := 10) (btAt dk14afz_cX11_besideOrSame_0_a 2 rfl)
theorem dX11_besideOrSame_7 : decode cX11_besideOrSame 7 = .ok (.iload_n 1, 1) := bd27 (btAt dk14afz_cX11_besideOrSame_0_a 3 rfl)
theorem dX11_besideOrSame_8 : decode cX11_besideOrSame 8 = .ok (.iaload, 1) := bd46 (btAt dk14afz_cX11_besideOrSame_0_a 4 rfl)
theorem dX11_besideOrSame_9 : decode cX11_besideOrSame 9 = .ok (.iadd, 1) := bd96 (btAt dk14afz_cX11_besideOrSame_0_a 5 rfl)
theorem dX11_besideOrSame_10 : decode cX11_besideOrSame 10 = .ok (.istore_n 2, 1) := bd61 (btAt dk14afz_cX11_besideOrSame_0_a 6 rfl)
theorem dX11_besideOrSame_11 : decode cX11_besideOrSame 11 = .ok (.iload_n 0, 1) := bd26 (btAt dk14afz_cX11_besideOrSame_0_a 7 rfl)
theorem dX11_besideOrSame_12 : decode cX11_besideOrSame 12 = .ok (.invokestatic 215, 3) := bd184 (a := 0) (b := 215) (btAt dk14afz_cX11_besideOrSame_0_a 8 rfl)
theorem dX11_besideOrSame_15 : decode cX11_besideOrSame 15 = .ok (.getstatic 269, 3) := bd178 (a := 1) (b := 13) (btAt dk14afz_cX11_besideOrSame_0_a 9 rfl)
theorem dX11_besideOrSame_18 : decode cX11_besideOrSame 18 = .ok (.iload_n 1, 1) := bd27 (btAt dk14afz_cX11_besideOrSame_0_a 10 rfl)
theorem dX11_besideOrSame_19 : decode cX11_besideOrSame 19 = .ok (.iaload, 1) := bd46 (btAt dk14afz_cX11_besideOrSame_0_a 11 rfl)
theorem dX11_besideOrSame_20 : decode cX11_besideOrSame 20 = .ok (.iadd, 1) := bd96 (btAt dk14afz_cX11_besideOrSame_0_a 12 rfl)
theorem dX11_besideOrSame_21 : decode cX11_besideOrSame 21 = .ok (.istore_n 3, 1) := bd62 (btAt dk14afz_cX11_besideOrSame_0_a 13 rfl)
theorem dX11_besideOrSame_22 : decode cX11_besideOrSame 22 = .ok (.iload_n 2, 1) := bd28 (btAt dk14afz_cX11_besideOrSame_0_a 14 rfl)
theorem dX11_besideOrSame_23 : decode cX11_besideOrSame 23 = .ok (.iload_n 3, 1) := bd29 (btAt dk14afz_cX11_besideOrSame_0_a 15 rfl)
theorem dX11_besideOrSame_24 : decode cX11_besideOrSame 24 = .ok (.invokestatic 218, 3) := bd184 (a := 0) (b := 218) (btAt dk14afz_cX11_besideOrSame_0_a 16 rfl)
theorem dX11_besideOrSame_27 : decode cX11_besideOrSame 27 = .ok (.ifCond .eq 12, 3) := bd153 (a := 0) (b := 12) (btAt dk14afz_cX11_besideOrSame_0_a 17 rfl)
theorem dX11_besideOrSame_30 : decode cX11_besideOrSame 30 = .ok (.iload_n 2, 1) := bd28 (btAt dk14afz_cX11_besideOrSame_0_a 18 rfl)
theorem dX11_besideOrSame_31 : decode cX11_besideOrSame 31 = .ok (.bipush 6, 2) := bd16 (a := 6) (btAt dk14afz_cX11_besideOrSame_0_a 19 rfl)
theorem dX11_besideOrSame_33 : decode cX11_besideOrSame 33 = .ok (.imul, 1) := bd104 (btAt dk14afz_cX11_besideOrSame_0_a 20 rfl)
theorem dX11_besideOrSame_34 : decode cX11_besideOrSame 34 = .ok (.iload_n 3, 1) := bd29 (btAt dk14afz_cX11_besideOrSame_0_a 21 rfl)
theorem dX11_besideOrSame_35 : decode cX11_besideOrSame 35 = .ok (.iadd, 1) := bd96 (btAt dk14afz_cX11_besideOrSame_0_a 22 rfl)
theorem dX11_besideOrSame_36 : decode cX11_besideOrSame 36 = .ok (.goto 4, 3) := bd167 (a := 0) (b := 4) (btAt dk14afz_cX11_besideOrSame_0_a 23 rfl)
theorem dX11_besideOrSame_39 : decode cX11_besideOrSame 39 = .ok (.iload_n 0, 1) := bd26 (btAt dk14afz_cX11_besideOrSame_0_a 24 rfl)
theorem dX11_besideOrSame_40 : decode cX11_besideOrSame 40 = .ok (.ireturn, 1) := bd172 (btAt dk14afz_cX11_besideOrSame_0_a 25 rfl)
noncomputable def dk14afz_cX11_apart_0 : List (Nat × List Nat) := [(0, [26]), (1, [184, 0, 212]), (4, [27]), (5, [184, 0, 212]), (8, [100]), (9, [184, 1, 7]), (12, [26]), (13, [184, 0, 215]), (16, [27]), (17, [184, 0, 215]), (20, [100]), (21, [184, 1, 7]), (24, [184, 0, 204]), (27, [172])]
set_option maxRecDepth 100000 in
theorem dk14afz_cX11_apart_0_a : btA cX11_apart dk14afz_cX11_apart_0 = true := by decide +kernel
theorem dX11_apart_0 : decode cX11_apart 0 = .ok (.iload_n 0, 1) := bd26 (btAt dk14afz_cX11_apart_0_a 0 rfl)
theorem dX11_apart_1 : decode cX11_apart 1 = .ok (.invokestatic 212, 3) := bd184 (a := 0) (b := 212) (btAt dk14afz_cX11_apart_0_a 1 rfl)
theorem dX11_apart_4 : decode cX11_apart 4 = .ok (.iload_n 1, 1) := bd27 (btAt dk14afz_cX11_apart_0_a 2 rfl)
theorem dX11_apart_5 : decode cX11_apart 5 = .ok (.invokestatic 212, 3) := bd184 (a := 0) (b := 212) (btAt dk14afz_cX11_apart_0_a 3 rfl)
theorem dX11_apart_8 : decode cX11_apart 8 = .ok (.isub, 1) := bd100 (btAt dk14afz_cX11_apart_0_a 4 rfl)
theorem dX11_apart_9 : decode cX11_apart 9 = .ok (.invokestatic 263, 3) := bd184 (a := 1) (b := 7) (btAt dk14afz_cX11_apart_0_a 5 rfl)
theorem dX11_apart_12 : decode cX11_apart 12 = .ok (.iload_n 0, 1) := bd26 (btAt dk14afz_cX11_apart_0_a 6 rfl)
theorem dX11_apart_13 : decode cX11_apart 13 = .ok (.invokestatic 215, 3) := bd184 (a := 0) (b := 215) (btAt dk14afz_cX11_apart_0_a 7 rfl)
theorem dX11_apart_16 : decode cX11_apart 16 = .ok (.iload_n 1, 1) := bd27 (btAt dk14afz_cX11_apart_0_a 8 rfl)
theorem dX11_apart_17 : decode cX11_apart 17 = .ok (.invokestatic 215, 3) := bd184 (a := 0) (b := 215) (btAt dk14afz_cX11_apart_0_a 9 rfl)
theorem dX11_apart_20 : decode cX11_apart 20 = .ok (.isub, 1) := bd100 (btAt dk14afz_cX11_apart_0_a 10 rfl)
theorem dX11_apart_21 : decode cX11_apart 21 = .ok (.invokestatic 263, 3) := bd184 (a := 1) (b := 7) (btAt dk14afz_cX11_apart_0_a 11 rfl)
theorem dX11_apart_24 : decode cX11_apart 24 = .ok (.invokestatic 204, 3) := bd184 (a := 0) (b := 204) (btAt dk14afz_cX11_apart_0_a 12 rfl)
theorem dX11_apart_27 : decode cX11_apart 27 = .ok (.ireturn, 1) := bd172 (btAt dk14afz_cX11_apart_0_a 13 rfl)
noncomputable def dk14afz_cX11_isIn_0 : List (Nat × List Nat) := [(0, [30]), (1, [28]), (2, [123]), (3, [10]), (4, [127]), (5, [10]), (6, [148]), (7, [154, 0, 7]), (10, [4]), (11, [167, 0, 4]), (14, [3]), (15, [172])]
set_option maxRecDepth 100000 in
theorem dk14afz_cX11_isIn_0_a : btA cX11_isIn dk14afz_cX11_isIn_0 = true := by decide +kernel
theorem dX11_isIn_0 : decode cX11_isIn 0 = .ok (.lload_n 0, 1) := bd30 (btAt dk14afz_cX11_isIn_0_a 0 rfl)
theorem dX11_isIn_1 : decode cX11_isIn 1 = .ok (.iload_n 2, 1) := bd28 (btAt dk14afz_cX11_isIn_0_a 1 rfl)
theorem dX11_isIn_2 : decode cX11_isIn 2 = .ok (.lshr, 1) := bd123 (btAt dk14afz_cX11_isIn_0_a 2 rfl)
theorem dX11_isIn_3 : decode cX11_isIn 3 = .ok (.lconst 1, 1) := bd10 (btAt dk14afz_cX11_isIn_0_a 3 rfl)
theorem dX11_isIn_4 : decode cX11_isIn 4 = .ok (.land, 1) := bd127 (btAt dk14afz_cX11_isIn_0_a 4 rfl)
theorem dX11_isIn_5 : decode cX11_isIn 5 = .ok (.lconst 1, 1) := bd10 (btAt dk14afz_cX11_isIn_0_a 5 rfl)
theorem dX11_isIn_6 : decode cX11_isIn 6 = .ok (.lcmp, 1) := bd148 (btAt dk14afz_cX11_isIn_0_a 6 rfl)
theorem dX11_isIn_7 : decode cX11_isIn 7 = .ok (.ifCond .ne 7, 3) := bd154 (a := 0) (b := 7) (btAt dk14afz_cX11_isIn_0_a 7 rfl)
theorem dX11_isIn_10 : decode cX11_isIn 10 = .ok (.iconst 1, 1) := bd4 (btAt dk14afz_cX11_isIn_0_a 8 rfl)
theorem dX11_isIn_11 : decode cX11_isIn 11 = .ok (.goto 4, 3) := bd167 (a := 0) (b := 4) (btAt dk14afz_cX11_isIn_0_a 9 rfl)
theorem dX11_isIn_14 : decode cX11_isIn 14 = .ok (.iconst 0, 1) := bd3 (btAt dk14afz_cX11_isIn_0_a 10 rfl)
theorem dX11_isIn_15 : decode cX11_isIn 15 = .ok (.ireturn, 1) := bd172 (btAt dk14afz_cX11_isIn_0_a 11 rfl)
noncomputable def dk14afz_cX11_commonDivisor_0 : List (Nat × List Nat) := [(0, [3]), (1, [54, 4]), (3, [21, 4]), (5, [16, 64]), (7, [162, 0, 25]), (10, [32]), (11, [9]), (12, [148]), (13, [153, 0, 19]), (16, [30]), (17, [32]), (18, [113]), (19, [55, 5]), (21, [32]), (22, [63]), (23, [22, 5]), (25, [65]), (26, [132, 4, 1]), (29, [167, 255, 230]), (32, [30]), (33, [173])]
set_option maxRecDepth 100000 in
theorem dk14afz_cX11_commonDivisor_0_a : btA cX11_commonDivisor dk14afz_cX11_commonDivisor_0 = true := by decide +kernel
theorem dX11_commonDivisor_0 : decode cX11_commonDivisor 0 = .ok (.iconst 0, 1) := bd3 (btAt dk14afz_cX11_commonDivisor_0_a 0 rfl)
theorem dX11_commonDivisor_1 : decode cX11_commonDivisor 1 = .ok (.istore 4, 2) := bd54 (a := 4) (btAt dk14afz_cX11_commonDivisor_0_a 1 rfl)
theorem dX11_commonDivisor_3 : decode cX11_commonDivisor 3 = .ok (.iload 4, 2) := bd21 (a := 4) (btAt dk14afz_cX11_commonDivisor_0_a 2 rfl)
theorem dX11_commonDivisor_5 : decode cX11_commonDivisor 5 = .ok (.bipush 64, 2) := bd16 (a := 64) (btAt dk14afz_cX11_commonDivisor_0_a 3 rfl)
theorem dX11_commonDivisor_7 : decode cX11_commonDivisor 7 = .ok (.if_icmp .ge 25, 3) := bd162 (a := 0) (b := 25) (btAt dk14afz_cX11_commonDivisor_0_a 4 rfl)
theorem dX11_commonDivisor_10 : decode cX11_commonDivisor 10 = .ok (.lload_n 2, 1) := bd32 (btAt dk14afz_cX11_commonDivisor_0_a 5 rfl)
theorem dX11_commonDivisor_11 : decode cX11_commonDivisor 11 = .ok (.lconst 0, 1) := bd9 (btAt dk14afz_cX11_commonDivisor_0_a 6 rfl)
theorem dX11_commonDivisor_12 : decode cX11_commonDivisor 12 = .ok (.lcmp, 1) := bd148 (btAt dk14afz_cX11_commonDivisor_0_a 7 rfl)
theorem dX11_commonDivisor_13 : decode cX11_commonDivisor 13 = .ok (.ifCond .eq 19, 3) := bd153 (a := 0) (b := 19) (btAt dk14afz_cX11_commonDivisor_0_a 8 rfl)
theorem dX11_commonDivisor_16 : decode cX11_commonDivisor 16 = .ok (.lload_n 0, 1) := bd30 (btAt dk14afz_cX11_commonDivisor_0_a 9 rfl)
theorem dX11_commonDivisor_17 : decode cX11_commonDivisor 17 = .ok (.lload_n 2, 1) := bd32 (btAt dk14afz_cX11_commonDivisor_0_a 10 rfl)
theorem dX11_commonDivisor_18 : decode cX11_commonDivisor 18 = .ok (.lrem, 1) := bd113 (btAt dk14afz_cX11_commonDivisor_0_a 11 rfl)
theorem dX11_commonDivisor_19 : decode cX11_commonDivisor 19 = .ok (.lstore 5, 2) := bd55 (a := 5) (btAt dk14afz_cX11_commonDivisor_0_a 12 rfl)
theorem dX11_commonDivisor_21 : decode cX11_commonDivisor 21 = .ok (.lload_n 2, 1) := bd32 (btAt dk14afz_cX11_commonDivisor_0_a 13 rfl)
theorem dX11_commonDivisor_22 : decode cX11_commonDivisor 22 = .ok (.lstore_n 0, 1) := bd63 (btAt dk14afz_cX11_commonDivisor_0_a 14 rfl)
theorem dX11_commonDivisor_23 : decode cX11_commonDivisor 23 = .ok (.lload 5, 2) := bd22 (a := 5) (btAt dk14afz_cX11_commonDivisor_0_a 15 rfl)
theorem dX11_commonDivisor_25 : decode cX11_commonDivisor 25 = .ok (.lstore_n 2, 1) := bd65 (btAt dk14afz_cX11_commonDivisor_0_a 16 rfl)
theorem dX11_commonDivisor_26 : decode cX11_commonDivisor 26 = .ok (.iinc 4 1, 3) := bd132 (a := 4) (b := 1) (btAt dk14afz_cX11_commonDivisor_0_a 17 rfl)
theorem dX11_commonDivisor_29 : decode cX11_commonDivisor 29 = .ok (.goto (-26), 3) := bd167 (a := 255) (b := 230) (btAt dk14afz_cX11_commonDivisor_0_a 18 rfl)
theorem dX11_commonDivisor_32 : decode cX11_commonDivisor 32 = .ok (.lload_n 0, 1) := bd30 (btAt dk14afz_cX11_commonDivisor_0_a 19 rfl)
theorem dX11_commonDivisor_33 : decode cX11_commonDivisor 33 = .ok (.lreturn, 1) := bd173 (btAt dk14afz_cX11_commonDivisor_0_a 20 rfl)
noncomputable def dk14afz_cX11_partOf_0 : List (Nat × List Nat) := [(0, [30]), (1, [32]), (2, [184, 1, 16]), (5, [55, 5]), (7, [22, 5]), (9, [9]), (10, [148]), (11, [157, 0, 7]), (18, [21, 4]), (20, [154, 0, 7]), (23, [30]), (24, [167, 0, 4]), (27, [32]), (28, [22, 5]), (30, [109]), (31, [173])]
set_option maxRecDepth 100000 in
theorem dk14afz_cX11_partOf_0_a : btA cX11_partOf dk14afz_cX11_partOf_0 = true := by decide +kernel
theorem dX11_partOf_0 : decode cX11_partOf 0 = .ok (.lload_n 0, 1) := bd30 (btAt dk14afz_cX11_partOf_0_a 0 rfl)
theorem dX11_partOf_1 : decode cX11_partOf 1 = .ok (.lload_n 2, 1) := bd32 (btAt dk14afz_cX11_partOf_0_a 1 rfl)
theorem dX11_partOf_2 : decode cX11_partOf 2 = .ok (.invokestatic 272, 3) := bd184 (a := 1) (b := 16) (btAt dk14afz_cX11_partOf_0_a 2 rfl)
theorem dX11_partOf_5 : decode cX11_partOf 5 = .ok (.lstore 5, 2) := bd55 (a := 5) (btAt dk14afz_cX11_partOf_0_a 3 rfl)
theorem dX11_partOf_7 : decode cX11_partOf 7 = .ok (.lload 5, 2) := bd22 (a := 5) (btAt dk14afz_cX11_partOf_0_a 4 rfl)
theorem dX11_partOf_9 : decode cX11_partOf 9 = .ok (.lconst 0, 1) := bd9 (btAt dk14afz_cX11_partOf_0_a 5 rfl)
theorem dX11_partOf_10 : decode cX11_partOf 10 = .ok (.lcmp, 1) := bd148 (btAt dk14afz_cX11_partOf_0_a 6 rfl)
theorem dX11_partOf_11 : decode cX11_partOf 11 = .ok (.ifCond .gt 7, 3) := bd157 (a := 0) (b := 7) (btAt dk14afz_cX11_partOf_0_a 7 rfl)
theorem dX11_partOf_18 : decode cX11_partOf 18 = .ok (.iload 4, 2) := bd21 (a := 4) (btAt dk14afz_cX11_partOf_0_a 8 rfl)
theorem dX11_partOf_20 : decode cX11_partOf 20 = .ok (.ifCond .ne 7, 3) := bd154 (a := 0) (b := 7) (btAt dk14afz_cX11_partOf_0_a 9 rfl)
theorem dX11_partOf_23 : decode cX11_partOf 23 = .ok (.lload_n 0, 1) := bd30 (btAt dk14afz_cX11_partOf_0_a 10 rfl)
theorem dX11_partOf_24 : decode cX11_partOf 24 = .ok (.goto 4, 3) := bd167 (a := 0) (b := 4) (btAt dk14afz_cX11_partOf_0_a 11 rfl)
theorem dX11_partOf_27 : decode cX11_partOf 27 = .ok (.lload_n 2, 1) := bd32 (btAt dk14afz_cX11_partOf_0_a 12 rfl)
theorem dX11_partOf_28 : decode cX11_partOf 28 = .ok (.lload 5, 2) := bd22 (a := 5) (btAt dk14afz_cX11_partOf_0_a 13 rfl)
theorem dX11_partOf_30 : decode cX11_partOf 30 = .ok (.ldiv, 1) := bd109 (btAt dk14afz_cX11_partOf_0_a 14 rfl)
theorem dX11_partOf_31 : decode cX11_partOf 31 = .ok (.lreturn, 1) := bd173 (btAt dk14afz_cX11_partOf_0_a 15 rfl)
noncomputable def dk14afz_cX0_timesOf_0 : List (Nat × List Nat) := [(0, [10]), (1, [64]), (2, [3]), (3, [62]), (4, [29]), (5, [26]), (6, [162, 0, 15]), (9, [31]), (10, [20, 0, 25]), (13, [105]), (14, [64]), (15, [132, 3, 1]), (18, [167, 255, 242]), (21, [31]), (22, [173])]
set_option maxRecDepth 100000 in
theorem dk14afz_cX0_timesOf_0_a : btA cX0_timesOf dk14afz_cX0_timesOf_0 = true := by decide +kernel
theorem dX0_timesOf_0 : decode cX0_timesOf 0 = .ok (.lconst 1, 1) := bd10 (btAt dk14afz_cX0_timesOf_0_a 0 rfl)
theorem dX0_timesOf_1 : decode cX0_timesOf 1 = .ok (.lstore_n 1, 1) := bd64 (btAt dk14afz_cX0_timesOf_0_a 1 rfl)
theorem dX0_timesOf_2 : decode cX0_timesOf 2 = .ok (.iconst 0, 1) := bd3 (btAt dk14afz_cX0_timesOf_0_a 2 rfl)
theorem dX0_timesOf_3 : decode cX0_timesOf 3 = .ok (.istore_n 3, 1) := bd62 (btAt dk14afz_cX0_timesOf_0_a 3 rfl)
theorem dX0_timesOf_4 : decode cX0_timesOf 4 = .ok (.iload_n 3, 1) := bd29 (btAt dk14afz_cX0_timesOf_0_a 4 rfl)
theorem dX0_timesOf_5 : decode cX0_timesOf 5 = .ok (.iload_n 0, 1) := bd26 (btAt dk14afz_cX0_timesOf_0_a 5 rfl)
theorem dX0_timesOf_6 : decode cX0_timesOf 6 = .ok (.if_icmp .ge 15, 3) := bd162 (a := 0) (b := 15) (btAt dk14afz_cX0_timesOf_0_a 6 rfl)
theorem dX0_timesOf_9 : decode cX0_timesOf 9 = .ok (.lload_n 1, 1) := bd31 (btAt dk14afz_cX0_timesOf_0_a 7 rfl)
theorem dX0_timesOf_10 : decode cX0_timesOf 10 = .ok (.ldc2_w 25, 3) := bd20 (a := 0) (b := 25) (btAt dk14afz_cX0_timesOf_0_a 8 rfl)
theorem dX0_timesOf_13 : decode cX0_timesOf 13 = .ok (.lmul, 1) := bd105 (btAt dk14afz_cX0_timesOf_0_a 9 rfl)
theorem dX0_timesOf_14 : decode cX0_timesOf 14 = .ok (.lstore_n 1, 1) := bd64 (btAt dk14afz_cX0_timesOf_0_a 10 rfl)
theorem dX0_timesOf_15 : decode cX0_timesOf 15 = .ok (.iinc 3 1, 3) := bd132 (a := 3) (b := 1) (btAt dk14afz_cX0_timesOf_0_a 11 rfl)
theorem dX0_timesOf_18 : decode cX0_timesOf 18 = .ok (.goto (-14), 3) := bd167 (a := 255) (b := 242) (btAt dk14afz_cX0_timesOf_0_a 12 rfl)
theorem dX0_timesOf_21 : decode cX0_timesOf 21 = .ok (.lload_n 1, 1) := bd31 (btAt dk14afz_cX0_timesOf_0_a 13 rfl)
theorem dX0_timesOf_22 : decode cX0_timesOf 22 = .ok (.lreturn, 1) := bd173 (btAt dk14afz_cX0_timesOf_0_a 14 rfl)
/-- cells that a method reads and nobody in it changes -/
noncomputable def Fz (dC : Nat → ClassId) (dI : Nat → Nat → Nat) (ws : va_W) (tys : List (ClassId × FieldType)) (A : Nat → Prop) (U : State) : Prop := va_P (dC, dI) vwCl ws U.heap ∧ va_K (dC, dI) vwCl tys U ∧ ∀ (k : Nat) (q : Nat × va_E), ws[k]? = some q → ¬ A q.1 ∧ q.1 < U.heap.size
theorem Fz.P {dC : Nat → ClassId} {dI : Nat → Nat → Nat} {ws : va_W} {tys : List (ClassId × FieldType)} {A : Nat → Prop} {s : State} {H : Heap} {locs : List Loc} (h : Fz dC dI ws tys A s) (hS : va_S A s.heap H locs) : va_P (dC, dI) vwCl ws H := h.1.kept (fun k q hq => hS.2.1 q.1 (h.2.2 k q hq).2 (h.2.2 k q hq).1)
theorem Fz.same {dC : Nat → ClassId} {dI : Nat → Nat → Nat} {ws : va_W} {tys : List (ClassId × FieldType)} {A : Nat → Prop} {u U : State} (h : Fz dC dI ws tys A u) (hvm : u.vm = U.vm) (hh : U.heap = u.heap) : Fz dC dI ws tys A U := by
  have hv : u.vm.Alike U.vm := by rw [hvm]; exact Vm.Alike.refl _
  refine ⟨?_, h.2.1.moved hv, ?_⟩
  · rw [hh]; exact h.1
  · rw [hh]; exact h.2.2
theorem Fz.mv {dC : Nat → ClassId} {dI : Nat → Nat → Nat} {ws : va_W} {tys : List (ClassId × FieldType)} {A : Nat → Prop} {U : State} (g : _) (mk : _) (a : _) (h : Fz dC dI ws tys A U) : Fz dC dI ws tys A (U.calling g mk a) := h.same rfl rfl
theorem Fz.call {dC : Nat → ClassId} {dI : Nat → Nat → Nat} {ws : va_W} {tys : List (ClassId × FieldType)} {A B : Nat → Prop} {s U : State} {H : Heap} {locs : List Loc} (h : Fz dC dI ws tys A s) (hS : va_S A s.heap H locs) (hU : U.heap = H) (hW : s.WarmedH U.vm) (hB : ∀ q, B q → A q) : Fz dC dI ws tys B U := by
  refine ⟨by rw [hU]; exact h.P hS, h.2.1.moved hW.alike, fun k q hq => ⟨fun b => (h.2.2 k q hq).1 (hB _ b), ?_⟩⟩
  rw [hU]; exact Nat.lt_of_lt_of_le (h.2.2 k q hq).2 hS.1
theorem Fz.callF {dC : Nat → ClassId} {dI : Nat → Nat → Nat} {ws : va_W} {tys : List (ClassId × FieldType)} {A : Nat → Prop} {s U : State} {H : Heap} {locs : List Loc} (h : Fz dC dI ws tys A s) (hS : va_S A s.heap H locs) (hU : U.heap = H) (hW : s.WarmedH U.vm) : Fz dC dI ws tys (fun _ => False) U := h.call hS hU hW (fun _ q => q.elim)
theorem Fz.sub {dC : Nat → ClassId} {dI : Nat → Nat → Nat} {ws ws' : va_W} {tys tys' : List (ClassId × FieldType)} {A : Nat → Prop} {s : State} (h : Fz dC dI ws tys A s) (is js : List Nat) (hw : is.filterMap (fun i => ws[i]?) = ws') (ht : js.filterMap (fun i => tys[i]?) = tys') : Fz dC dI ws' tys' A s := by
  refine ⟨h.1.sub is hw, h.2.1.sub js ht, fun k q hq => ?_⟩
  subst hw
  obtain ⟨i, -, hi⟩ := List.mem_filterMap.mp (List.mem_of_getElem? hq)
  exact h.2.2 i q hi
/-- the heaps of a scene: of which class each is, and its numbers -/
noncomputable def hpK (ci : Nat) : Prop := ci = 3 ∨ ci = 5 ∨ ci = 6 ∨ ci = 8 ∨ ci = 9 ∨ ci = 11 ∨ ci = 12
noncomputable def hpE (hx : Nat → Nat) (hk hv hc : Nat → Int32) (ha : Nat → Nat) (i : Nat) : Nat × va_E := (ha i, .inr (hx i, [.int (hk i), .int (nI i), .int (hv i), .int (hc i)]))
noncomputable def Hs (dC : Nat → ClassId) (dI : Nat → Nat → Nat) (n : Nat) (hx ha : Nat → Nat) (hk hv hc : Nat → Int32) (A : Nat → Prop) (U : State) : Prop := ∀ i, i < n → hpK (hx i) ∧ Fz dC dI [hpE hx hk hv hc ha i] [] A U
theorem Hs.same {dC : Nat → ClassId} {dI : Nat → Nat → Nat} {n : Nat} {hx ha : Nat → Nat} {hk hv hc : Nat → Int32} {A : Nat → Prop} {u U : State} (h : Hs dC dI n hx ha hk hv hc A u) (hvm : u.vm = U.vm) (hh : U.heap = u.heap) : Hs dC dI n hx ha hk hv hc A U := fun i hi => ⟨(h i hi).1, (h i hi).2.same hvm hh⟩
theorem Hs.mv {dC : Nat → ClassId} {dI : Nat → Nat → Nat} {n : Nat} {hx ha : Nat → Nat} {hk hv hc : Nat → Int32} {A : Nat → Prop} {U : State} (g : _) (mk : _) (a : _) (h : Hs dC dI n hx ha hk hv hc A U) : Hs dC dI n hx ha hk hv hc A (U.calling g mk a) := h.same rfl rfl
theorem Hs.call {dC : Nat → ClassId} {dI : Nat → Nat → Nat} {n : Nat} {hx ha : Nat → Nat} {hk hv hc : Nat → Int32} {A B : Nat → Prop} {s U : State} {H : Heap} {locs : List Loc} (h : Hs dC dI n hx ha hk hv hc A s) (hS : va_S A s.heap H locs) (hU : U.heap = H) (hW : s.WarmedH U.vm) (hB : ∀ q, B q → A q) : Hs dC dI n hx ha hk hv hc B U := fun i hi => ⟨(h i hi).1, (h i hi).2.call hS hU hW hB⟩
theorem Hs.callF {dC : Nat → ClassId} {dI : Nat → Nat → Nat} {n : Nat} {hx ha : Nat → Nat} {hk hv hc : Nat → Int32} {A : Nat → Prop} {s U : State} {H : Heap} {locs : List Loc} (h : Hs dC dI n hx ha hk hv hc A s) (hS : va_S A s.heap H locs) (hU : U.heap = H) (hW : s.WarmedH U.vm) : Hs dC dI n hx ha hk hv hc (fun _ => False) U := fun i hi => ⟨(h i hi).1, (h i hi).2.callF hS hU hW⟩

noncomputable def hpC : List vw_C := [(RX1, TX1, 4), (RX3, TX3, 4), (RX4, TX4, 4), (RX6, TX6, 4), (RX7, TX7, 4), (RX9, TX9, 4), (RX10, TX10, 4)]
section
variable {p : Program} {l : Launch} {e : Env} {R : Room} {s : State} {m : MethodId} {args : Array Value} {below : List Frame} {meth : Method} {c : Code} {H : Heap} {locs : List Loc} {cells slots : Nat} {Q : State → Prop} {pc : Nat} {ls : Array Slot} {rest : List Value} {A : Nat → Prop} {dC : Nat → ClassId} {dI : Nat → Nat → Nat}
theorem va_hget0 {cc : ByteArray} {Ts : List Cond} {own : String} {index ci a : Nat} {fs : List Value} {tys : List (ClassId × FieldType)} {v : Value} (hx : p.tables.exec = Jvm.exec) (hb : c.code = cc) (hts : ∀ w ∈ Ts, w.before args s = true) (hin : ∀ C ∈ hpC, ∀ w ∈ u_ws C.1 C.2.1 C.2.2, w ∈ Ts) (hown : s.vm.findClass own = some m.cls) (hci : hpK ci) (hF : Fz dC dI [(a, .inr (ci, fs))] tys A s) (hS : va_S A s.heap H locs) (hlink : (Cond.fieldLink own index "MistHeaps$Heap" "kind" "I").before args s = true) (hdg : decode cc pc = .ok (.getfield index, 3)) (hv : fs[0]? = some v := by rfl) (kk : W p l e R s m args below meth c H locs cells slots Q (F0 m (pc + 3) ls (v :: rest))) : W p l e R s m args below meth c H locs cells slots Q (F0 m pc ls (.ref a :: rest)) := by
  rcases hci with rfl | rfl | rfl | rfl | rfl | rfl | rfl
  · exact va_get (D := (dC, dI)) (ci := 3) (C := RX1) (T := TX1) (N := 4) hx hb hts (hin (RX1, TX1, 4) (by simp [hpC])) hown hF.2.1 (hF.P hS) 0 rfl rfl 0 (by decide) hlink (fun _ h9 => h9) hv hdg kk
  · exact va_get (D := (dC, dI)) (ci := 5) (C := RX3) (T := TX3) (N := 4) hx hb hts (hin (RX3, TX3, 4) (by simp [hpC])) hown hF.2.1 (hF.P hS) 0 rfl rfl 0 (by decide) hlink (fun _ h9 => h9) hv hdg kk
  · exact va_get (D := (dC, dI)) (ci := 6) (C := RX4) (T := TX4) (N := 4) hx hb hts (hin (RX4, TX4, 4) (by simp [hpC])) hown hF.2.1 (hF.P hS) 0 rfl rfl 0 (by decide) hlink (fun _ h9 => h9) hv hdg kk
  · exact va_get (D := (dC, dI)) (ci := 8) (C := RX6) (T := TX6) (N := 4) hx hb hts (hin (RX6, TX6, 4) (by simp [hpC])) hown hF.2.1 (hF.P hS) 0 rfl rfl 0 (by decide) hlink (fun _ h9 => h9) hv hdg kk
  · exact va_get (D := (dC, dI)) (ci := 9) (C := RX7) (T := TX7) (N := 4) hx hb hts (hin (RX7, TX7, 4) (by simp [hpC])) hown hF.2.1 (hF.P hS) 0 rfl rfl 0 (by decide) hlink (fun _ h9 => h9) hv hdg kk
  · exact va_get (D := (dC, dI)) (ci := 11) (C := RX9) (T := TX9) (N := 4) hx hb hts (hin (RX9, TX9, 4) (by simp [hpC])) hown hF.2.1 (hF.P hS) 0 rfl rfl 0 (by decide) hlink (fun _ h9 => h9) hv hdg kk
  · exact va_get (D := (dC, dI)) (ci := 12) (C := RX10) (T := TX10) (N := 4) hx hb hts (hin (RX10, TX10, 4) (by simp [hpC])) hown hF.2.1 (hF.P hS) 0 rfl rfl 0 (by decide) hlink (fun _ h9 => h9) hv hdg kk
theorem va_hget1 {cc : ByteArray} {Ts : List Cond} {own : String} {index ci a : Nat} {fs : List Value} {tys : List (ClassId × FieldType)} {v : Value} (hx : p.tables.exec = Jvm.exec) (hb : c.code = cc) (hts : ∀ w ∈ Ts, w.before args s = true) (hin : ∀ C ∈ hpC, ∀ w ∈ u_ws C.1 C.2.1 C.2.2, w ∈ Ts) (hown : s.vm.findClass own = some m.cls) (hci : hpK ci) (hF : Fz dC dI [(a, .inr (ci, fs))] tys A s) (hS : va_S A s.heap H locs) (hlink : (Cond.fieldLink own index "MistHeaps$Heap" "number" "I").before args s = true) (hdg : decode cc pc = .ok (.getfield index, 3)) (hv : fs[1]? = some v := by rfl) (kk : W p l e R s m args below meth c H locs cells slots Q (F0 m (pc + 3) ls (v :: rest))) : W p l e R s m args below meth c H locs cells slots Q (F0 m pc ls (.ref a :: rest)) := by
  rcases hci with rfl | rfl | rfl | rfl | rfl | rfl | rfl
  · exact va_get (D := (dC, dI)) (ci := 3) (C := RX1) (T := TX1) (N := 4) hx hb hts (hin (RX1, TX1, 4) (by simp [hpC])) hown hF.2.1 (hF.P hS) 0 rfl rfl 1 (by decide) hlink (fun _ h9 => h9) hv hdg kk
  · exact va_get (D := (dC, dI)) (ci := 5) (C := RX3) (T := TX3) (N := 4) hx hb hts (hin (RX3, TX3, 4) (by simp [hpC])) hown hF.2.1 (hF.P hS) 0 rfl rfl 1 (by decide) hlink (fun _ h9 => h9) hv hdg kk
  · exact va_get (D := (dC, dI)) (ci := 6) (C := RX4) (T := TX4) (N := 4) hx hb hts (hin (RX4, TX4, 4) (by simp [hpC])) hown hF.2.1 (hF.P hS) 0 rfl rfl 1 (by decide) hlink (fun _ h9 => h9) hv hdg kk
  · exact va_get (D := (dC, dI)) (ci := 8) (C := RX6) (T := TX6) (N := 4) hx hb hts (hin (RX6, TX6, 4) (by simp [hpC])) hown hF.2.1 (hF.P hS) 0 rfl rfl 1 (by decide) hlink (fun _ h9 => h9) hv hdg kk
  · exact va_get (D := (dC, dI)) (ci := 9) (C := RX7) (T := TX7) (N := 4) hx hb hts (hin (RX7, TX7, 4) (by simp [hpC])) hown hF.2.1 (hF.P hS) 0 rfl rfl 1 (by decide) hlink (fun _ h9 => h9) hv hdg kk
  · exact va_get (D := (dC, dI)) (ci := 11) (C := RX9) (T := TX9) (N := 4) hx hb hts (hin (RX9, TX9, 4) (by simp [hpC])) hown hF.2.1 (hF.P hS) 0 rfl rfl 1 (by decide) hlink (fun _ h9 => h9) hv hdg kk
  · exact va_get (D := (dC, dI)) (ci := 12) (C := RX10) (T := TX10) (N := 4) hx hb hts (hin (RX10, TX10, 4) (by simp [hpC])) hown hF.2.1 (hF.P hS) 0 rfl rfl 1 (by decide) hlink (fun _ h9 => h9) hv hdg kk
theorem va_hget2 {cc : ByteArray} {Ts : List Cond} {own : String} {index ci a : Nat} {fs : List Value} {tys : List (ClassId × FieldType)} {v : Value} (hx : p.tables.exec = Jvm.exec) (hb : c.code = cc) (hts : ∀ w ∈ Ts, w.before args s = true) (hin : ∀ C ∈ hpC, ∀ w ∈ u_ws C.1 C.2.1 C.2.2, w ∈ Ts) (hown : s.vm.findClass own = some m.cls) (hci : hpK ci) (hF : Fz dC dI [(a, .inr (ci, fs))] tys A s) (hS : va_S A s.heap H locs) (hlink : (Cond.fieldLink own index "MistHeaps$Heap" "v" "I").before args s = true) (hdg : decode cc pc = .ok (.getfield index, 3)) (hv : fs[2]? = some v := by rfl) (kk : W p l e R s m args below meth c H locs cells slots Q (F0 m (pc + 3) ls (v :: rest))) : W p l e R s m args below meth c H locs cells slots Q (F0 m pc ls (.ref a :: rest)) := by
  rcases hci with rfl | rfl | rfl | rfl | rfl | rfl | rfl
  · exact va_get (D := (dC, dI)) (ci := 3) (C := RX1) (T := TX1) (N := 4) hx hb hts (hin (RX1, TX1, 4) (by simp [hpC])) hown hF.2.1 (hF.P hS) 0 rfl rfl 2 (by decide) hlink (fun _ h9 => h9) hv hdg kk
  · exact va_get (D := (dC, dI)) (ci := 5) (C := RX3) (T := TX3) (N := 4) hx hb hts (hin (RX3, TX3, 4) (by simp [hpC])) hown hF.2.1 (hF.P hS) 0 rfl rfl 2 (by decide) hlink (fun _ h9 => h9) hv hdg kk
  · exact va_get (D := (dC, dI)) (ci := 6) (C := RX4) (T := TX4) (N := 4) hx hb hts (hin (RX4, TX4, 4) (by simp [hpC])) hown hF.2.1 (hF.P hS) 0 rfl rfl 2 (by decide) hlink (fun _ h9 => h9) hv hdg kk
  · exact va_get (D := (dC, dI)) (ci := 8) (C := RX6) (T := TX6) (N := 4) hx hb hts (hin (RX6, TX6, 4) (by simp [hpC])) hown hF.2.1 (hF.P hS) 0 rfl rfl 2 (by decide) hlink (fun _ h9 => h9) hv hdg kk
  · exact va_get (D := (dC, dI)) (ci := 9) (C := RX7) (T := TX7) (N := 4) hx hb hts (hin (RX7, TX7, 4) (by simp [hpC])) hown hF.2.1 (hF.P hS) 0 rfl rfl 2 (by decide) hlink (fun _ h9 => h9) hv hdg kk
  · exact va_get (D := (dC, dI)) (ci := 11) (C := RX9) (T := TX9) (N := 4) hx hb hts (hin (RX9, TX9, 4) (by simp [hpC])) hown hF.2.1 (hF.P hS) 0 rfl rfl 2 (by decide) hlink (fun _ h9 => h9) hv hdg kk
  · exact va_get (D := (dC, dI)) (ci := 12) (C := RX10) (T := TX10) (N := 4) hx hb hts (hin (RX10, TX10, 4) (by simp [hpC])) hown hF.2.1 (hF.P hS) 0 rfl rfl 2 (by decide) hlink (fun _ h9 => h9) hv hdg kk
theorem va_hget3 {cc : ByteArray} {Ts : List Cond} {own : String} {index ci a : Nat} {fs : List Value} {tys : List (ClassId × FieldType)} {v : Value} (hx : p.tables.exec = Jvm.exec) (hb : c.code = cc) (hts : ∀ w ∈ Ts, w.before args s = true) (hin : ∀ C ∈ hpC, ∀ w ∈ u_ws C.1 C.2.1 C.2.2, w ∈ Ts) (hown : s.vm.findClass own = some m.cls) (hci : hpK ci) (hF : Fz dC dI [(a, .inr (ci, fs))] tys A s) (hS : va_S A s.heap H locs) (hlink : (Cond.fieldLink own index "MistHeaps$Heap" "cell" "I").before args s = true) (hdg : decode cc pc = .ok (.getfield index, 3)) (hv : fs[3]? = some v := by rfl) (kk : W p l e R s m args below meth c H locs cells slots Q (F0 m (pc + 3) ls (v :: rest))) : W p l e R s m args below meth c H locs cells slots Q (F0 m pc ls (.ref a :: rest)) := by
  rcases hci with rfl | rfl | rfl | rfl | rfl | rfl | rfl
  · exact va_get (D := (dC, dI)) (ci := 3) (C := RX1) (T := TX1) (N := 4) hx hb hts (hin (RX1, TX1, 4) (by simp [hpC])) hown hF.2.1 (hF.P hS) 0 rfl rfl 3 (by decide) hlink (fun _ h9 => h9) hv hdg kk
  · exact va_get (D := (dC, dI)) (ci := 5) (C := RX3) (T := TX3) (N := 4) hx hb hts (hin (RX3, TX3, 4) (by simp [hpC])) hown hF.2.1 (hF.P hS) 0 rfl rfl 3 (by decide) hlink (fun _ h9 => h9) hv hdg kk
  · exact va_get (D := (dC, dI)) (ci := 6) (C := RX4) (T := TX4) (N := 4) hx hb hts (hin (RX4, TX4, 4) (by simp [hpC])) hown hF.2.1 (hF.P hS) 0 rfl rfl 3 (by decide) hlink (fun _ h9 => h9) hv hdg kk
  · exact va_get (D := (dC, dI)) (ci := 8) (C := RX6) (T := TX6) (N := 4) hx hb hts (hin (RX6, TX6, 4) (by simp [hpC])) hown hF.2.1 (hF.P hS) 0 rfl rfl 3 (by decide) hlink (fun _ h9 => h9) hv hdg kk
  · exact va_get (D := (dC, dI)) (ci := 9) (C := RX7) (T := TX7) (N := 4) hx hb hts (hin (RX7, TX7, 4) (by simp [hpC])) hown hF.2.1 (hF.P hS) 0 rfl rfl 3 (by decide) hlink (fun _ h9 => h9) hv hdg kk
  · exact va_get (D := (dC, dI)) (ci := 11) (C := RX9) (T := TX9) (N := 4) hx hb hts (hin (RX9, TX9, 4) (by simp [hpC])) hown hF.2.1 (hF.P hS) 0 rfl rfl 3 (by decide) hlink (fun _ h9 => h9) hv hdg kk
  · exact va_get (D := (dC, dI)) (ci := 12) (C := RX10) (T := TX10) (N := 4) hx hb hts (hin (RX10, TX10, 4) (by simp [hpC])) hown hF.2.1 (hF.P hS) 0 rfl rfl 3 (by decide) hlink (fun _ h9 => h9) hv hdg kk
end

noncomputable def hpT (ci : Nat) (k : Int32) : Prop := (ci = 5 ∧ k = 0) ∨ (ci = 6 ∧ k = 1) ∨ (ci = 8 ∧ k = 2) ∨ (ci = 3 ∧ k = 3) ∨ (ci = 12 ∧ k = 4) ∨ (ci = 11 ∧ k = 5) ∨ (ci = 9 ∧ k = 6)
theorem hpT_0 : hpT 5 (0 : Int32) := Or.inl ⟨rfl, rfl⟩
theorem hpT_k0 {ci : Nat} {k : Int32} (h : hpT ci k) (e : ci = 5) : k = 0 := by
  rcases h with ⟨h1, h2⟩ | ⟨h1, h2⟩ | ⟨h1, h2⟩ | ⟨h1, h2⟩ | ⟨h1, h2⟩ | ⟨h1, h2⟩ | ⟨h1, h2⟩
  · exact h2
  · exact absurd (h1.symm.trans e) (by decide)
  · exact absurd (h1.symm.trans e) (by decide)
  · exact absurd (h1.symm.trans e) (by decide)
  · exact absurd (h1.symm.trans e) (by decide)
  · exact absurd (h1.symm.trans e) (by decide)
  · exact absurd (h1.symm.trans e) (by decide)
theorem hpT_1 : hpT 6 (1 : Int32) := Or.inr (Or.inl ⟨rfl, rfl⟩)
theorem hpT_k1 {ci : Nat} {k : Int32} (h : hpT ci k) (e : ci = 6) : k = 1 := by
  rcases h with ⟨h1, h2⟩ | ⟨h1, h2⟩ | ⟨h1, h2⟩ | ⟨h1, h2⟩ | ⟨h1, h2⟩ | ⟨h1, h2⟩ | ⟨h1, h2⟩
  · exact absurd (h1.symm.trans e) (by decide)
  · exact h2
  · exact absurd (h1.symm.trans e) (by decide)
  · exact absurd (h1.symm.trans e) (by decide)
  · exact absurd (h1.symm.trans e) (by decide)
  · exact absurd (h1.symm.trans e) (by decide)
  · exact absurd (h1.symm.trans e) (by decide)
theorem hpT_2 : hpT 8 (2 : Int32) := Or.inr (Or.inr (Or.inl ⟨rfl, rfl⟩))
theorem hpT_k2 {ci : Nat} {k : Int32} (h : hpT ci k) (e : ci = 8) : k = 2 := by
  rcases h with ⟨h1, h2⟩ | ⟨h1, h2⟩ | ⟨h1, h2⟩ | ⟨h1, h2⟩ | ⟨h1, h2⟩ | ⟨h1, h2⟩ | ⟨h1, h2⟩
  · exact absurd (h1.symm.trans e) (by decide)
  · exact absurd (h1.symm.trans e) (by decide)
  · exact h2
  · exact absurd (h1.symm.trans e) (by decide)
  · exact absurd (h1.symm.trans e) (by decide)
  · exact absurd (h1.symm.trans e) (by decide)
  · exact absurd (h1.symm.trans e) (by decide)
theorem hpT_3 : hpT 3 (3 : Int32) := Or.inr (Or.inr (Or.inr (Or.inl ⟨rfl, rfl⟩)))
theorem hpT_k3 {ci : Nat} {k : Int32} (h : hpT ci k) (e : ci = 3) : k = 3 := by
  rcases h with ⟨h1, h2⟩ | ⟨h1, h2⟩ | ⟨h1, h2⟩ | ⟨h1, h2⟩ | ⟨h1, h2⟩ | ⟨h1, h2⟩ | ⟨h1, h2⟩
  · exact absurd (h1.symm.trans e) (by decide)
  · exact absurd (h1.symm.trans e) (by decide)
  · exact absurd (h1.symm.trans e) (by decide)
  · exact h2
  · exact absurd (h1.symm.trans e) (by decide)
  · exact absurd (h1.symm.trans e) (by decide)
  · exact absurd (h1.symm.trans e) (by decide)
theorem hpT_4 : hpT 12 (4 : Int32) := Or.inr (Or.inr (Or.inr (Or.inr (Or.inl ⟨rfl, rfl⟩))))
theorem hpT_k4 {ci : Nat} {k : Int32} (h : hpT ci k) (e : ci = 12) : k = 4 := by
  rcases h with ⟨h1, h2⟩ | ⟨h1, h2⟩ | ⟨h1, h2⟩ | ⟨h1, h2⟩ | ⟨h1, h2⟩ | ⟨h1, h2⟩ | ⟨h1, h2⟩
  · exact absurd (h1.symm.trans e) (by decide)
  · exact absurd (h1.symm.trans e) (by decide)
  · exact absurd (h1.symm.trans e) (by decide)
  · exact absurd (h1.symm.trans e) (by decide)
  · exact h2
  · exact absurd (h1.symm.trans e) (by decide)
  · exact absurd (h1.symm.trans e) (by decide)
theorem hpT_5 : hpT 11 (5 : Int32) := Or.inr (Or.inr (Or.inr (Or.inr (Or.inr (Or.inl ⟨rfl, rfl⟩)))))
theorem hpT_k5 {ci : Nat} {k : Int32} (h : hpT ci k) (e : ci = 11) : k = 5 := by
  rcases h with ⟨h1, h2⟩ | ⟨h1, h2⟩ | ⟨h1, h2⟩ | ⟨h1, h2⟩ | ⟨h1, h2⟩ | ⟨h1, h2⟩ | ⟨h1, h2⟩
  · exact absurd (h1.symm.trans e) (by decide)
  · exact absurd (h1.symm.trans e) (by decide)
  · exact absurd (h1.symm.trans e) (by decide)
  · exact absurd (h1.symm.trans e) (by decide)
  · exact absurd (h1.symm.trans e) (by decide)
  · exact h2
  · exact absurd (h1.symm.trans e) (by decide)
theorem hpT_6 : hpT 9 (6 : Int32) := Or.inr (Or.inr (Or.inr (Or.inr (Or.inr (Or.inr (⟨rfl, rfl⟩))))))
theorem hpT_k6 {ci : Nat} {k : Int32} (h : hpT ci k) (e : ci = 9) : k = 6 := by
  rcases h with ⟨h1, h2⟩ | ⟨h1, h2⟩ | ⟨h1, h2⟩ | ⟨h1, h2⟩ | ⟨h1, h2⟩ | ⟨h1, h2⟩ | ⟨h1, h2⟩
  · exact absurd (h1.symm.trans e) (by decide)
  · exact absurd (h1.symm.trans e) (by decide)
  · exact absurd (h1.symm.trans e) (by decide)
  · exact absurd (h1.symm.trans e) (by decide)
  · exact absurd (h1.symm.trans e) (by decide)
  · exact absurd (h1.symm.trans e) (by decide)
  · exact h2

theorem ocell_of {x : Int32} (h1 : ¬ x < 0) (h2 : ¬ 36 ≤ x) : ∃ j : Nat, j < 36 ∧ x = nI j := by
  obtain ⟨j, hj, e⟩ := nI_of2 (n := 36) (M := 36) rfl h1 (Int32.le_of_lt (Int32.not_le.mp h2))
  refine ⟨j, ?_, e⟩
  rcases Nat.lt_or_ge j 36 with q | q
  · exact q
  · exact absurd (by rw [e]; exact nI_le (a := 36) q (by omega)) h2
theorem six_of {x : Int32} (h1 : ¬ x < 0) (h2 : ¬ 6 ≤ x) : ∃ j : Nat, j < 6 ∧ x = nI j := by
  obtain ⟨j, hj, e⟩ := nI_of2 (n := 6) (M := 6) rfl h1 (Int32.le_of_lt (Int32.not_le.mp h2))
  refine ⟨j, ?_, e⟩
  rcases Nat.lt_or_ge j 6 with q | q
  · exact q
  · exact absurd (by rw [e]; exact nI_le (a := 6) q (by omega)) h2
theorem rc_of {a b : Nat} {x y : Int32} (ha : a < 6) (hb : b < 6) (ex : x = nI a) (ey : y = nI b) : ∃ k : Nat, k < 36 ∧ x * 6 + y = nI k := by
  subst ex ey
  refine ⟨a * 6 + b, by omega, ?_⟩
  have e := pk_mul a 6
  have e2 := nI_add (a * 6) b
  rw [← e2, ← e]
  rfl

set_option maxHeartbeats 4000000 in
set_option maxRecDepth 100000 in
theorem c_xCell (l : Launch) (dC : Nat → ClassId) (dI : Nat → Nat → Nat) (x : Int32) : Met l yX11_isCell wsX11_isCell ({ frames := 0, cells := 0, slots := 0, locals := 0 } : Room) (va_Pc [.int x] (fun U => True)) (vp_Si (fun r => (r = 1 ∧ ∃ j : Nat, j < 36 ∧ x = nI j) ∨ (r = 0 ∧ (x < 0 ∨ 36 ≤ x)))) 0 0 (fun _ => False) := by
  refine met_ofQ (cc := cX11_isCell) (maxL := 1) (ret := (some .boolean)) (by decide) rfl ?_
  intro p e s m args below meth c s₁ Q B hml hv hQ
  obtain ⟨rfl, -⟩ := hv
  have hx := B.exec
  have hb := B.bytes
  have hr := B.returns
  have hts := atoms_spec (ws := wsX11_isCell) B.pre
  have hown : s.vm.findClass RX11 = some m.cls := findClass_of_methodNamed B.named
  have hlocks := B.notSynchronized
  obtain ⟨A, hAe⟩ : ∃ A : Nat → Prop, A = fun _ => False := ⟨_, rfl⟩
  rw [← hAe] at hQ
  have hS : va_S A s.heap s.heap [] := va_S.rf
  have hl := lv_entry [.int x] (n := 1) (Nat.le_of_ble_eq_true rfl)
  rw [lg_entry_eq]
  generalize (lg_sl [.int x] ++ List.replicate (1 - (lg_sl [.int x]).length) Slot.unset).toArray = ls at hl ⊢
  generalize hag : ([.int x] : List Value).toArray = args at hts hQ ⊢
  have hl : lv_has ls 1 [(0, .int x)] := hl
  refine lv_iload_n hx hb dX11_isCell_0 rfl (lv_at hl 0 rfl) ?_
  refine lv_if_lt (tgt := 14) hx hb dX11_isCell_1 (by decide) (fun c_1 => ?_) (fun c_1 => ?_)
  · skip
    refine lv_iconst (v := 0) hx hb dX11_isCell_14 (by decide) ?_
    rw [hQ]
    exact W.zret (v := 0) hx hb hr rfl (fun tQ htQ hWQ => ⟨0, rfl, by first | exact Or.inl ⟨rfl, ocell_of (by assumption) (by assumption)⟩ | exact Or.inr ⟨rfl, Or.inl (by assumption)⟩ | exact Or.inr ⟨rfl, Or.inr (by assumption)⟩, by rw [htQ]⟩) (fun q hq => absurd hq List.not_mem_nil) dX11_isCell_15
  · skip
    refine lv_iload_n hx hb dX11_isCell_4 rfl (lv_at hl 0 rfl) ?_
    refine lv_bipush (v := 36) hx hb dX11_isCell_5 (by decide) ?_
    refine lv_icmp_ge (tgt := 14) hx hb dX11_isCell_7 (by decide) (fun c_2 => ?_) (fun c_2 => ?_)
    · skip
      refine lv_iconst (v := 0) hx hb dX11_isCell_14 (by decide) ?_
      rw [hQ]
      exact W.zret (v := 0) hx hb hr rfl (fun tQ htQ hWQ => ⟨0, rfl, by first | exact Or.inl ⟨rfl, ocell_of (by assumption) (by assumption)⟩ | exact Or.inr ⟨rfl, Or.inl (by assumption)⟩ | exact Or.inr ⟨rfl, Or.inr (by assumption)⟩, by rw [htQ]⟩) (fun q hq => absurd hq List.not_mem_nil) dX11_isCell_15
    · skip
      refine lv_iconst (v := 1) hx hb dX11_isCell_10 (by decide) ?_
      refine lv_goto (tgt := 15) hx hb dX11_isCell_11 (by decide) ?_
      rw [hQ]
      exact W.zret (v := 1) hx hb hr rfl (fun tQ htQ hWQ => ⟨1, rfl, by first | exact Or.inl ⟨rfl, ocell_of (by assumption) (by assumption)⟩ | exact Or.inr ⟨rfl, Or.inl (by assumption)⟩ | exact Or.inr ⟨rfl, Or.inr (by assumption)⟩, by rw [htQ]⟩) (fun q hq => absurd hq List.not_mem_nil) dX11_isCell_15

set_option maxHeartbeats 4000000 in
set_option maxRecDepth 100000 in
theorem c_rowOf (l : Launch) (dC : Nat → ClassId) (dI : Nat → Nat → Nat) (x : Int32) : Met l yX11_rowOf wsX11_rowOf ({ frames := 0, cells := 0, slots := 0, locals := 0 } : Room) (va_Pc [.int x] (fun U => True)) (vp_Si (fun r => r = x / 6)) 0 0 (fun _ => False) := by
  refine met_ofQ (cc := cX11_rowOf) (maxL := 1) (ret := (some .int)) (by decide) rfl ?_
  intro p e s m args below meth c s₁ Q B hml hv hQ
  obtain ⟨rfl, -⟩ := hv
  have hx := B.exec
  have hb := B.bytes
  have hr := B.returns
  have hts := atoms_spec (ws := wsX11_rowOf) B.pre
  have hown : s.vm.findClass RX11 = some m.cls := findClass_of_methodNamed B.named
  have hlocks := B.notSynchronized
  obtain ⟨A, hAe⟩ : ∃ A : Nat → Prop, A = fun _ => False := ⟨_, rfl⟩
  rw [← hAe] at hQ
  have hS : va_S A s.heap s.heap [] := va_S.rf
  have hl := lv_entry [.int x] (n := 1) (Nat.le_of_ble_eq_true rfl)
  rw [lg_entry_eq]
  generalize (lg_sl [.int x] ++ List.replicate (1 - (lg_sl [.int x]).length) Slot.unset).toArray = ls at hl ⊢
  generalize hag : ([.int x] : List Value).toArray = args at hts hQ ⊢
  have hl : lv_has ls 1 [(0, .int x)] := hl
  refine lv_iload_n hx hb dX11_rowOf_0 rfl (lv_at hl 0 rfl) ?_
  refine lv_bipush (v := 6) hx hb dX11_rowOf_1 (by decide) ?_
  refine lv_idiv hx hb dX11_rowOf_3 (by decide) ?_
  rw [hQ]
  exact W.iret (v := x / 6) hx hb hr (fun tQ htQ hWQ => ⟨x / 6, rfl, rfl, by rw [htQ]⟩) (fun q hq => absurd hq List.not_mem_nil) dX11_rowOf_4

set_option maxHeartbeats 4000000 in
set_option maxRecDepth 100000 in
theorem c_columnOf (l : Launch) (dC : Nat → ClassId) (dI : Nat → Nat → Nat) (x : Int32) : Met l yX11_columnOf wsX11_columnOf ({ frames := 0, cells := 0, slots := 0, locals := 0 } : Room) (va_Pc [.int x] (fun U => True)) (vp_Si (fun r => r = x - x / 6 * 6)) 0 0 (fun _ => False) := by
  refine met_ofQ (cc := cX11_columnOf) (maxL := 1) (ret := (some .int)) (by decide) rfl ?_
  intro p e s m args below meth c s₁ Q B hml hv hQ
  obtain ⟨rfl, -⟩ := hv
  have hx := B.exec
  have hb := B.bytes
  have hr := B.returns
  have hts := atoms_spec (ws := wsX11_columnOf) B.pre
  have hown : s.vm.findClass RX11 = some m.cls := findClass_of_methodNamed B.named
  have hlocks := B.notSynchronized
  obtain ⟨A, hAe⟩ : ∃ A : Nat → Prop, A = fun _ => False := ⟨_, rfl⟩
  rw [← hAe] at hQ
  have hS : va_S A s.heap s.heap [] := va_S.rf
  have hl := lv_entry [.int x] (n := 1) (Nat.le_of_ble_eq_true rfl)
  rw [lg_entry_eq]
  generalize (lg_sl [.int x] ++ List.replicate (1 - (lg_sl [.int x]).length) Slot.unset).toArray = ls at hl ⊢
  generalize hag : ([.int x] : List Value).toArray = args at hts hQ ⊢
  have hl : lv_has ls 1 [(0, .int x)] := hl
  refine lv_iload_n hx hb dX11_columnOf_0 rfl (lv_at hl 0 rfl) ?_
  refine lv_bipush (v := 6) hx hb dX11_columnOf_1 (by decide) ?_
  refine lv_irem hx hb dX11_columnOf_3 (by decide) ?_
  rw [hQ]
  exact W.iret (v := x - x / 6 * 6) hx hb hr (fun tQ htQ hWQ => ⟨x - x / 6 * 6, rfl, rfl, by rw [htQ]⟩) (fun q hq => absurd hq List.not_mem_nil) dX11_columnOf_4

set_option maxHeartbeats 4000000 in
set_option maxRecDepth 100000 in
theorem c_onHill (l : Launch) (dC : Nat → ClassId) (dI : Nat → Nat → Nat) (x y : Int32) : Met l yX11_isOnHill wsX11_isOnHill ({ frames := 0, cells := 0, slots := 0, locals := 0 } : Room) (va_Pc [.int x, .int y] (fun U => True)) (vp_Si (fun r => (r = 1 ∧ ∃ a b : Nat, a < 6 ∧ b < 6 ∧ x = nI a ∧ y = nI b) ∨ (r = 0 ∧ ((x < 0 ∨ 6 ≤ x) ∨ (y < 0 ∨ 6 ≤ y))))) 0 0 (fun _ => False) := by
  refine met_ofQ (cc := cX11_isOnHill) (maxL := 2) (ret := (some .boolean)) (by decide) rfl ?_
  intro p e s m args below meth c s₁ Q B hml hv hQ
  obtain ⟨rfl, -⟩ := hv
  have hx := B.exec
  have hb := B.bytes
  have hr := B.returns
  have hts := atoms_spec (ws := wsX11_isOnHill) B.pre
  have hown : s.vm.findClass RX11 = some m.cls := findClass_of_methodNamed B.named
  have hlocks := B.notSynchronized
  obtain ⟨A, hAe⟩ : ∃ A : Nat → Prop, A = fun _ => False := ⟨_, rfl⟩
  rw [← hAe] at hQ
  have hS : va_S A s.heap s.heap [] := va_S.rf
  have hl := lv_entry [.int x, .int y] (n := 2) (Nat.le_of_ble_eq_true rfl)
  rw [lg_entry_eq]
  generalize (lg_sl [.int x, .int y] ++ List.replicate (2 - (lg_sl [.int x, .int y]).length) Slot.unset).toArray = ls at hl ⊢
  generalize hag : ([.int x, .int y] : List Value).toArray = args at hts hQ ⊢
  have hl : lv_has ls 2 [(0, .int x), (1, .int y)] := hl
  refine lv_iload_n hx hb dX11_isOnHill_0 rfl (lv_at hl 0 rfl) ?_
  refine lv_if_lt (tgt := 24) hx hb dX11_isOnHill_1 (by decide) (fun c_1 => ?_) (fun c_1 => ?_)
  · skip
    refine lv_iconst (v := 0) hx hb dX11_isOnHill_24 (by decide) ?_
    rw [hQ]
    exact W.zret (v := 0) hx hb hr rfl (fun tQ htQ hWQ => ⟨0, rfl, by first | exact Or.inr ⟨rfl, Or.inl (Or.inl (by assumption))⟩ | exact Or.inr ⟨rfl, Or.inl (Or.inr (by assumption))⟩ | exact Or.inr ⟨rfl, Or.inr (Or.inl (by assumption))⟩ | exact Or.inr ⟨rfl, Or.inr (Or.inr (by assumption))⟩ | (obtain ⟨a, ha, ea⟩ := six_of (x := x) (by assumption) (by assumption); obtain ⟨b, hb0, eb⟩ := six_of (x := y) (by assumption) (by assumption); exact Or.inl ⟨rfl, a, b, ha, hb0, ea, eb⟩), by rw [htQ]⟩) (fun q hq => absurd hq List.not_mem_nil) dX11_isOnHill_25
  · skip
    refine lv_iload_n hx hb dX11_isOnHill_4 rfl (lv_at hl 0 rfl) ?_
    refine lv_bipush (v := 6) hx hb dX11_isOnHill_5 (by decide) ?_
    refine lv_icmp_ge (tgt := 24) hx hb dX11_isOnHill_7 (by decide) (fun c_2 => ?_) (fun c_2 => ?_)
    · skip
      refine lv_iconst (v := 0) hx hb dX11_isOnHill_24 (by decide) ?_
      rw [hQ]
      exact W.zret (v := 0) hx hb hr rfl (fun tQ htQ hWQ => ⟨0, rfl, by first | exact Or.inr ⟨rfl, Or.inl (Or.inl (by assumption))⟩ | exact Or.inr ⟨rfl, Or.inl (Or.inr (by assumption))⟩ | exact Or.inr ⟨rfl, Or.inr (Or.inl (by assumption))⟩ | exact Or.inr ⟨rfl, Or.inr (Or.inr (by assumption))⟩ | (obtain ⟨a, ha, ea⟩ := six_of (x := x) (by assumption) (by assumption); obtain ⟨b, hb0, eb⟩ := six_of (x := y) (by assumption) (by assumption); exact Or.inl ⟨rfl, a, b, ha, hb0, ea, eb⟩), by rw [htQ]⟩) (fun q hq => absurd hq List.not_mem_nil) dX11_isOnHill_25
    · skip
      refine lv_iload_n hx hb dX11_isOnHill_10 rfl (lv_at hl 1 rfl) ?_
      refine lv_if_lt (tgt := 24) hx hb dX11_isOnHill_11 (by decide) (fun c_3 => ?_) (fun c_3 => ?_)
      · skip
        refine lv_iconst (v := 0) hx hb dX11_isOnHill_24 (by decide) ?_
        rw [hQ]
        exact W.zret (v := 0) hx hb hr rfl (fun tQ htQ hWQ => ⟨0, rfl, by first | exact Or.inr ⟨rfl, Or.inl (Or.inl (by assumption))⟩ | exact Or.inr ⟨rfl, Or.inl (Or.inr (by assumption))⟩ | exact Or.inr ⟨rfl, Or.inr (Or.inl (by assumption))⟩ | exact Or.inr ⟨rfl, Or.inr (Or.inr (by assumption))⟩ | (obtain ⟨a, ha, ea⟩ := six_of (x := x) (by assumption) (by assumption); obtain ⟨b, hb0, eb⟩ := six_of (x := y) (by assumption) (by assumption); exact Or.inl ⟨rfl, a, b, ha, hb0, ea, eb⟩), by rw [htQ]⟩) (fun q hq => absurd hq List.not_mem_nil) dX11_isOnHill_25
      · skip
        refine lv_iload_n hx hb dX11_isOnHill_14 rfl (lv_at hl 1 rfl) ?_
        refine lv_bipush (v := 6) hx hb dX11_isOnHill_15 (by decide) ?_
        refine lv_icmp_ge (tgt := 24) hx hb dX11_isOnHill_17 (by decide) (fun c_4 => ?_) (fun c_4 => ?_)
        · skip
          refine lv_iconst (v := 0) hx hb dX11_isOnHill_24 (by decide) ?_
          rw [hQ]
          exact W.zret (v := 0) hx hb hr rfl (fun tQ htQ hWQ => ⟨0, rfl, by first | exact Or.inr ⟨rfl, Or.inl (Or.inl (by assumption))⟩ | exact Or.inr ⟨rfl, Or.inl (Or.inr (by assumption))⟩ | exact Or.inr ⟨rfl, Or.inr (Or.inl (by assumption))⟩ | exact Or.inr ⟨rfl, Or.inr (Or.inr (by assumption))⟩ | (obtain ⟨a, ha, ea⟩ := six_of (x := x) (by assumption) (by assumption); obtain ⟨b, hb0, eb⟩ := six_of (x := y) (by assumption) (by assumption); exact Or.inl ⟨rfl, a, b, ha, hb0, ea, eb⟩), by rw [htQ]⟩) (fun q hq => absurd hq List.not_mem_nil) dX11_isOnHill_25
        · skip
          refine lv_iconst (v := 1) hx hb dX11_isOnHill_20 (by decide) ?_
          refine lv_goto (tgt := 25) hx hb dX11_isOnHill_21 (by decide) ?_
          rw [hQ]
          exact W.zret (v := 1) hx hb hr rfl (fun tQ htQ hWQ => ⟨1, rfl, by first | exact Or.inr ⟨rfl, Or.inl (Or.inl (by assumption))⟩ | exact Or.inr ⟨rfl, Or.inl (Or.inr (by assumption))⟩ | exact Or.inr ⟨rfl, Or.inr (Or.inl (by assumption))⟩ | exact Or.inr ⟨rfl, Or.inr (Or.inr (by assumption))⟩ | (obtain ⟨a, ha, ea⟩ := six_of (x := x) (by assumption) (by assumption); obtain ⟨b, hb0, eb⟩ := six_of (x := y) (by assumption) (by assumption); exact Or.inl ⟨rfl, a, b, ha, hb0, ea, eb⟩), by rw [htQ]⟩) (fun q hq => absurd hq List.not_mem_nil) dX11_isOnHill_25

theorem kc_beside_0 : (.fieldLink RX11 266 "MistHeaps" "DOWN" "[I" : Cond) ∈ wsX11_besideOrSame := kc_of 846 rfl rfl rfl
theorem kc_beside_1 : (.fieldLink RX11 269 "MistHeaps" "RIGHT" "[I" : Cond) ∈ wsX11_besideOrSame := kc_of 847 rfl rfl rfl
set_option maxHeartbeats 4000000 in
set_option maxRecDepth 100000 in
theorem c_beside (l : Launch) (dC : Nat → ClassId) (dI : Nat → Nat → Nat) (gd : Nat → Nat) (j w0 : Nat) (zj : j < 36) (zw : w0 < 8) : Met l yX11_besideOrSame wsX11_besideOrSame ({ frames := 1, cells := 0, slots := 0, locals := 21 } : Room) (va_Pc [.int (nI j), .int (nI w0)] (fun U => Gl gd (fun _ => False) U)) (vp_Si (fun r => r = nI (nxN j w0))) 0 0 (fun _ => False) := by
  refine met_ofQ (cc := cX11_besideOrSame) (maxL := 4) (ret := (some .int)) (by decide) rfl ?_
  intro p e s m args below meth c s₁ Q B hml hv hQ
  obtain ⟨rfl, hG⟩ := hv
  have hx := B.exec
  have hb := B.bytes
  have hr := B.returns
  have hts := atoms_spec (ws := wsX11_besideOrSame) B.pre
  have hown : s.vm.findClass RX11 = some m.cls := findClass_of_methodNamed B.named
  have hlocks := B.notSynchronized
  obtain ⟨A, hAe⟩ : ∃ A : Nat → Prop, A = fun _ => False := ⟨_, rfl⟩
  rw [← hAe] at hQ hG
  have hS : va_S A s.heap s.heap [] := va_S.rf
  have hl := lv_entry [.int (nI j), .int (nI w0)] (n := 4) (Nat.le_of_ble_eq_true rfl)
  rw [lg_entry_eq]
  generalize (lg_sl [.int (nI j), .int (nI w0)] ++ List.replicate (4 - (lg_sl [.int (nI j), .int (nI w0)]).length) Slot.unset).toArray = ls at hl ⊢
  generalize hag : ([.int (nI j), .int (nI w0)] : List Value).toArray = args at hts hQ ⊢
  have hl : lv_has ls 4 [(0, .int (nI j)), (1, .int (nI w0))] := hl
  refine lv_iload_n hx hb dX11_besideOrSame_0 rfl (lv_at hl 0 rfl) ?_
  refine vp_callSi (va_runS (As := [.int (nI j)]) (rest := []) ⟨hx, hb, hml, hown, hts⟩ (c_rowOf l dC dI (nI j)) (va_cwS 1 hts gX11_besideOrSame_X11_rowOf rfl rfl rfl hd_yX11_rowOf.2 ⟨Nat.le_of_ble_eq_true rfl, Nat.le_of_ble_eq_true rfl⟩) ⟨fun a U g mk q => ⟨q.1, trivial⟩, fun U hU hW => ⟨rfl, trivial⟩⟩ rfl rfl hl.1 rfl (lv_room (Nat.le_of_ble_eq_true rfl)) dX11_besideOrSame_1 ⟨Nat.le_of_ble_eq_true rfl, Nat.le_of_ble_eq_true rfl⟩).run (fun r_1 hw_2 => ?_)
  obtain rfl := hw_2
  refine va_gets (C := "MistHeaps") (n := "DOWN") (d := "[I") (v := .ref (gd 0)) hx hb hG.2.1 hS hown (hts (.fieldLink RX11 266 "MistHeaps" "DOWN" "[I") kc_beside_0) (fun _ h9 => h9) dX11_besideOrSame_4 ?_
  refine lv_iload_n hx hb dX11_besideOrSame_7 rfl (lv_at hl 1 rfl) ?_
  refine va_ti (v := .int (fDown w0)) hx hb hG.2.2.1 hS (vp_in_nI (n := w0) (N := 8) (by omega) (by omega)) (by rw [nI_clamp (by omega)]) dX11_besideOrSame_8 ?_
  refine lv_iadd hx hb dX11_besideOrSame_9 ?_
  refine lv_istore_n (lv' := [(2, .int ((nI j / 6) + (fDown w0))), (0, .int (nI j)), (1, .int (nI w0))]) hx hb dX11_besideOrSame_10 rfl hl (by decide) rfl (fun ls hl => ?_)
  refine lv_iload_n hx hb dX11_besideOrSame_11 rfl (lv_at hl 1 rfl) ?_
  refine vp_callSi (va_runS (As := [.int (nI j)]) (rest := []) ⟨hx, hb, hml, hown, hts⟩ (c_columnOf l dC dI (nI j)) (va_cwS 1 hts gX11_besideOrSame_X11_columnOf rfl rfl rfl hd_yX11_columnOf.2 ⟨Nat.le_of_ble_eq_true rfl, Nat.le_of_ble_eq_true rfl⟩) ⟨fun a U g mk q => ⟨q.1, trivial⟩, fun U hU hW => ⟨rfl, trivial⟩⟩ rfl rfl hl.1 rfl (lv_room (Nat.le_of_ble_eq_true rfl)) dX11_besideOrSame_12 ⟨Nat.le_of_ble_eq_true rfl, Nat.le_of_ble_eq_true rfl⟩).run (fun r_3 hw_4 => ?_)
  obtain rfl := hw_4
  refine va_gets (C := "MistHeaps") (n := "RIGHT") (d := "[I") (v := .ref (gd 1)) hx hb hG.2.2.2.1 hS hown (hts (.fieldLink RX11 269 "MistHeaps" "RIGHT" "[I") kc_beside_1) (fun _ h9 => h9) dX11_besideOrSame_15 ?_
  refine lv_iload_n hx hb dX11_besideOrSame_18 rfl (lv_at hl 2 rfl) ?_
  refine va_ti (v := .int (fRight w0)) hx hb hG.2.2.2.2 hS (vp_in_nI (n := w0) (N := 8) (by omega) (by omega)) (by rw [nI_clamp (by omega)]) dX11_besideOrSame_19 ?_
  refine lv_iadd hx hb dX11_besideOrSame_20 ?_
  refine lv_istore_n (lv' := [(3, .int ((nI j - nI j / 6 * 6) + (fRight w0))), (2, .int ((nI j / 6) + (fDown w0))), (0, .int (nI j)), (1, .int (nI w0))]) hx hb dX11_besideOrSame_21 rfl hl (by decide) rfl (fun ls hl => ?_)
  refine lv_iload_n hx hb dX11_besideOrSame_22 rfl (lv_at hl 1 rfl) ?_
  refine lv_iload_n hx hb dX11_besideOrSame_23 rfl (lv_at hl 0 rfl) ?_
  refine vp_callSi (va_runS (As := [.int ((nI j / 6) + (fDown w0)), .int ((nI j - nI j / 6 * 6) + (fRight w0))]) (rest := []) ⟨hx, hb, hml, hown, hts⟩ (c_onHill l dC dI ((nI j / 6) + (fDown w0)) ((nI j - nI j / 6 * 6) + (fRight w0))) (va_cwS 2 hts gX11_besideOrSame_X11_isOnHill rfl rfl rfl hd_yX11_isOnHill.2 ⟨Nat.le_of_ble_eq_true rfl, Nat.le_of_ble_eq_true rfl⟩) ⟨fun a U g mk q => ⟨q.1, trivial⟩, fun U hU hW => ⟨rfl, trivial⟩⟩ rfl rfl hl.1 rfl (lv_room (Nat.le_of_ble_eq_true rfl)) dX11_besideOrSame_24 ⟨Nat.le_of_ble_eq_true rfl, Nat.le_of_ble_eq_true rfl⟩).run (fun r_5 hw_6 => ?_)
  rcases hw_6 with ⟨rfl, a, b, ga, gb, ea, eb⟩ | ⟨rfl, hoff⟩
  · skip
    refine lv_if_eq (tgt := 39) hx hb dX11_besideOrSame_27 (by decide) (fun c_7 => absurd c_7 (by decide)) (fun _ => ?_)
    refine lv_iload_n hx hb dX11_besideOrSame_30 rfl (lv_at hl 1 rfl) ?_
    refine lv_bipush (v := 6) hx hb dX11_besideOrSame_31 (by decide) ?_
    refine lv_imul hx hb dX11_besideOrSame_33 ?_
    refine lv_iload_n hx hb dX11_besideOrSame_34 rfl (lv_at hl 0 rfl) ?_
    refine lv_iadd hx hb dX11_besideOrSame_35 ?_
    refine lv_goto (tgt := 40) hx hb dX11_besideOrSame_36 (by decide) ?_
    rw [hQ]
    exact W.iret (v := (((nI j / 6) + (fDown w0)) * 6) + ((nI j - nI j / 6 * 6) + (fRight w0))) hx hb hr (fun tQ htQ hWQ => ⟨(((nI j / 6) + (fDown w0)) * 6) + ((nI j - nI j / 6 * 6) + (fRight w0)), rfl, by first | exact nx_xo zj zw hoff | exact nx_xi zj zw ga gb ea eb, by rw [htQ]⟩) (fun q hq => absurd hq List.not_mem_nil) dX11_besideOrSame_40
  · skip
    refine lv_if_eq (tgt := 39) hx hb dX11_besideOrSame_27 (by decide) (fun _ => ?_) (fun c_8 => absurd c_8 (by decide))
    refine lv_iload_n hx hb dX11_besideOrSame_39 rfl (lv_at hl 2 rfl) ?_
    rw [hQ]
    exact W.iret (v := nI j) hx hb hr (fun tQ htQ hWQ => ⟨nI j, rfl, by first | exact nx_xo zj zw hoff | exact nx_xi zj zw ga gb ea eb, by rw [htQ]⟩) (fun q hq => absurd hq List.not_mem_nil) dX11_besideOrSame_40

theorem kc_xApart_0 : (.methodLink RX11 263 Lib.Math.abs.name : Cond) ∈ wsX11_apart := kc_of 702 rfl rfl rfl
theorem kc_xApart_1 : (.static Lib.Math.abs.name : Cond) ∈ wsX11_apart := kc_of 703 rfl rfl rfl
theorem kc_xApart_2 : (.initialized "java/lang/Math" : Cond) ∈ wsX11_apart := kc_of 77 rfl rfl rfl
theorem kc_xApart_3 : (.code Lib.Math.abs.name Lib.Math.abs.code 1 (some .int) : Cond) ∈ wsX11_apart := kc_of 704 rfl rfl rfl
theorem kc_xApart_4 : (.methodLink RX11 204 Lib.Math.max.name : Cond) ∈ wsX11_apart := kc_of 706 rfl rfl rfl
theorem kc_xApart_5 : (.static Lib.Math.max.name : Cond) ∈ wsX11_apart := kc_of 426 rfl rfl rfl
theorem kc_xApart_6 : (.code Lib.Math.max.name Lib.Math.max.code 2 (some .int) : Cond) ∈ wsX11_apart := kc_of 427 rfl rfl rfl
set_option maxHeartbeats 4000000 in
set_option maxRecDepth 100000 in
theorem c_xApart (l : Launch) (dC : Nat → ClassId) (dI : Nat → Nat → Nat) (x y : Int32) : Met l yX11_apart wsX11_apart ({ frames := 1, cells := 0, slots := 0, locals := 20 } : Room) (va_Pc [.int x, .int y] (fun U => True)) (vp_Si (fun r => r = apR x y)) 0 0 (fun _ => False) := by
  refine met_ofQ (cc := cX11_apart) (maxL := 2) (ret := (some .int)) (by decide) rfl ?_
  intro p e s m args below meth c s₁ Q B hml hv hQ
  obtain ⟨rfl, -⟩ := hv
  have hx := B.exec
  have hb := B.bytes
  have hr := B.returns
  have hts := atoms_spec (ws := wsX11_apart) B.pre
  have hown : s.vm.findClass RX11 = some m.cls := findClass_of_methodNamed B.named
  have hlocks := B.notSynchronized
  obtain ⟨A, hAe⟩ : ∃ A : Nat → Prop, A = fun _ => False := ⟨_, rfl⟩
  rw [← hAe] at hQ
  have hS : va_S A s.heap s.heap [] := va_S.rf
  have hl := lv_entry [.int x, .int y] (n := 2) (Nat.le_of_ble_eq_true rfl)
  rw [lg_entry_eq]
  generalize (lg_sl [.int x, .int y] ++ List.replicate (2 - (lg_sl [.int x, .int y]).length) Slot.unset).toArray = ls at hl ⊢
  generalize hag : ([.int x, .int y] : List Value).toArray = args at hts hQ ⊢
  have hl : lv_has ls 2 [(0, .int x), (1, .int y)] := hl
  refine lv_iload_n hx hb dX11_apart_0 rfl (lv_at hl 0 rfl) ?_
  refine vp_callSi (va_runS (As := [.int x]) (rest := []) ⟨hx, hb, hml, hown, hts⟩ (c_rowOf l dC dI x) (va_cwS 1 hts gX11_apart_X11_rowOf rfl rfl rfl hd_yX11_rowOf.2 ⟨Nat.le_of_ble_eq_true rfl, Nat.le_of_ble_eq_true rfl⟩) ⟨fun a U g mk q => ⟨q.1, trivial⟩, fun U hU hW => ⟨rfl, trivial⟩⟩ rfl rfl hl.1 rfl (lv_room (Nat.le_of_ble_eq_true rfl)) dX11_apart_1 ⟨Nat.le_of_ble_eq_true rfl, Nat.le_of_ble_eq_true rfl⟩).run (fun r_1 hw_2 => ?_)
  obtain rfl := hw_2
  refine lv_iload_n hx hb dX11_apart_4 rfl (lv_at hl 1 rfl) ?_
  refine vp_callSi (va_runS (As := [.int y]) (rest := [.int (x / 6)]) ⟨hx, hb, hml, hown, hts⟩ (c_rowOf l dC dI y) (va_cwS 1 hts gX11_apart_X11_rowOf rfl rfl rfl hd_yX11_rowOf.2 ⟨Nat.le_of_ble_eq_true rfl, Nat.le_of_ble_eq_true rfl⟩) ⟨fun a U g mk q => ⟨q.1, trivial⟩, fun U hU hW => ⟨rfl, trivial⟩⟩ rfl rfl hl.1 rfl (lv_room (Nat.le_of_ble_eq_true rfl)) dX11_apart_5 ⟨Nat.le_of_ble_eq_true rfl, Nat.le_of_ble_eq_true rfl⟩).run (fun r_3 hw_4 => ?_)
  obtain rfl := hw_4
  refine lv_isub hx hb dX11_apart_8 ?_
  refine va_mabs hx hb (by rw [hml]; exact hl.1.symm) hown (hts (.methodLink RX11 263 Lib.Math.abs.name) kc_xApart_0) (hts (.static Lib.Math.abs.name) kc_xApart_1) (hts (.initialized "java/lang/Math") kc_xApart_2) (hts (.code Lib.Math.abs.name Lib.Math.abs.code 1 (some .int)) kc_xApart_3) (Nat.le_of_ble_eq_true rfl) (Nat.le_of_ble_eq_true rfl) (Nat.le_of_ble_eq_true rfl) (Nat.le_of_ble_eq_true rfl) dX11_apart_9 ?_
  refine qi_as (y := szR ((x / 6) - (y / 6))) (ab_sz _) ?_
  refine lv_iload_n hx hb dX11_apart_12 rfl (lv_at hl 0 rfl) ?_
  refine vp_callSi (va_runS (As := [.int x]) (rest := [.int (szR ((x / 6) - (y / 6)))]) ⟨hx, hb, hml, hown, hts⟩ (c_columnOf l dC dI x) (va_cwS 1 hts gX11_apart_X11_columnOf rfl rfl rfl hd_yX11_columnOf.2 ⟨Nat.le_of_ble_eq_true rfl, Nat.le_of_ble_eq_true rfl⟩) ⟨fun a U g mk q => ⟨q.1, trivial⟩, fun U hU hW => ⟨rfl, trivial⟩⟩ rfl rfl hl.1 rfl (lv_room (Nat.le_of_ble_eq_true rfl)) dX11_apart_13 ⟨Nat.le_of_ble_eq_true rfl, Nat.le_of_ble_eq_true rfl⟩).run (fun r_5 hw_6 => ?_)
  obtain rfl := hw_6
  refine lv_iload_n hx hb dX11_apart_16 rfl (lv_at hl 1 rfl) ?_
  refine vp_callSi (va_runS (As := [.int y]) (rest := [.int (x - x / 6 * 6), .int (szR ((x / 6) - (y / 6)))]) ⟨hx, hb, hml, hown, hts⟩ (c_columnOf l dC dI y) (va_cwS 1 hts gX11_apart_X11_columnOf rfl rfl rfl hd_yX11_columnOf.2 ⟨Nat.le_of_ble_eq_true rfl, Nat.le_of_ble_eq_true rfl⟩) ⟨fun a U g mk q => ⟨q.1, trivial⟩, fun U hU hW => ⟨rfl, trivial⟩⟩ rfl rfl hl.1 rfl (lv_room (Nat.le_of_ble_eq_true rfl)) dX11_apart_17 ⟨Nat.le_of_ble_eq_true rfl, Nat.le_of_ble_eq_true rfl⟩).run (fun r_7 hw_8 => ?_)
  obtain rfl := hw_8
  refine lv_isub hx hb dX11_apart_20 ?_
  refine va_mabs hx hb (by rw [hml]; exact hl.1.symm) hown (hts (.methodLink RX11 263 Lib.Math.abs.name) kc_xApart_0) (hts (.static Lib.Math.abs.name) kc_xApart_1) (hts (.initialized "java/lang/Math") kc_xApart_2) (hts (.code Lib.Math.abs.name Lib.Math.abs.code 1 (some .int)) kc_xApart_3) (Nat.le_of_ble_eq_true rfl) (Nat.le_of_ble_eq_true rfl) (Nat.le_of_ble_eq_true rfl) (Nat.le_of_ble_eq_true rfl) dX11_apart_21 ?_
  refine qi_as (y := szR ((x - x / 6 * 6) - (y - y / 6 * 6))) (ab_sz _) ?_
  refine va_mmax hx hb (by rw [hml]; exact hl.1.symm) hown (hts (.methodLink RX11 204 Lib.Math.max.name) kc_xApart_4) (hts (.static Lib.Math.max.name) kc_xApart_5) (hts (.initialized "java/lang/Math") kc_xApart_2) (hts (.code Lib.Math.max.name Lib.Math.max.code 2 (some .int)) kc_xApart_6) (Nat.le_of_ble_eq_true rfl) (Nat.le_of_ble_eq_true rfl) (Nat.le_of_ble_eq_true rfl) (Nat.le_of_ble_eq_true rfl) dX11_apart_24 ?_
  refine qi_as (y := apR x y) (mx_ap _ _) ?_
  rw [hQ]
  exact W.iret (v := apR x y) hx hb hr (fun tQ htQ hWQ => ⟨apR x y, rfl, rfl, by rw [htQ]⟩) (fun q hq => absurd hq List.not_mem_nil) dX11_apart_27

set_option maxHeartbeats 4000000 in
set_option maxRecDepth 100000 in
theorem c_isIn (l : Launch) (dC : Nat → ClassId) (dI : Nat → Nat → Nat) (mk : Int64) (x : Int32) : Met l yX11_isIn wsX11_isIn ({ frames := 0, cells := 0, slots := 0, locals := 0 } : Room) (va_Pc [.long mk, .int x] (fun U => True)) (vp_Si (fun r => (r = 1 ∧ inB mk x) ∨ (r = 0 ∧ ¬ inB mk x))) 0 0 (fun _ => False) := by
  refine met_ofQ (cc := cX11_isIn) (maxL := 3) (ret := (some .boolean)) (by decide) rfl ?_
  intro p e s m args below meth c s₁ Q B hml hv hQ
  obtain ⟨rfl, -⟩ := hv
  have hx := B.exec
  have hb := B.bytes
  have hr := B.returns
  have hts := atoms_spec (ws := wsX11_isIn) B.pre
  have hown : s.vm.findClass RX11 = some m.cls := findClass_of_methodNamed B.named
  have hlocks := B.notSynchronized
  obtain ⟨A, hAe⟩ : ∃ A : Nat → Prop, A = fun _ => False := ⟨_, rfl⟩
  rw [← hAe] at hQ
  have hS : va_S A s.heap s.heap [] := va_S.rf
  have hl := lv_entry [.long mk, .int x] (n := 3) (Nat.le_of_ble_eq_true rfl)
  rw [lg_entry_eq]
  generalize (lg_sl [.long mk, .int x] ++ List.replicate (3 - (lg_sl [.long mk, .int x]).length) Slot.unset).toArray = ls at hl ⊢
  generalize hag : ([.long mk, .int x] : List Value).toArray = args at hts hQ ⊢
  have hl : lv_has ls 3 [(0, .long mk), (2, .int x)] := hl
  refine lv_lload_n hx hb dX11_isIn_0 rfl (lv_at hl 0 rfl) ?_
  refine lv_iload_n hx hb dX11_isIn_1 rfl (lv_at hl 1 rfl) ?_
  refine lv_lshr (v := mk >>> (x.toInt64 &&& 63)) hx hb dX11_isIn_2 (rfl) ?_
  refine lv_lconst (v := 1) hx hb dX11_isIn_3 (by decide) ?_
  refine lv_land hx hb dX11_isIn_4 ?_
  refine lv_lconst (v := 1) hx hb dX11_isIn_5 (by decide) ?_
  refine W.lcmp hx hb dX11_isIn_6 ?_
  refine lv_if_ne (tgt := 14) hx hb dX11_isIn_7 (by decide) (fun c_1 => ?_) (fun c_1 => ?_)
  · skip
    refine lv_iconst (v := 0) hx hb dX11_isIn_14 (by decide) ?_
    rw [hQ]
    exact W.zret (v := 0) hx hb hr rfl (fun tQ htQ hWQ => ⟨0, rfl, Or.inr ⟨rfl, fun z9 => c_1 ((lg_cmp_eq _ _).mpr z9)⟩, by rw [htQ]⟩) (fun q hq => absurd hq List.not_mem_nil) dX11_isIn_15
  · skip
    refine lv_iconst (v := 1) hx hb dX11_isIn_10 (by decide) ?_
    refine lv_goto (tgt := 15) hx hb dX11_isIn_11 (by decide) ?_
    rw [hQ]
    exact W.zret (v := 1) hx hb hr rfl (fun tQ htQ hWQ => ⟨1, rfl, Or.inl ⟨rfl, (lg_cmp_eq _ _).mp c_1⟩, by rw [htQ]⟩) (fun q hq => absurd hq List.not_mem_nil) dX11_isIn_15

set_option maxHeartbeats 4000000 in
set_option maxRecDepth 100000 in
theorem c_common (l : Launch) (dC : Nat → ClassId) (dI : Nat → Nat → Nat) (a b : Nat) (zA : a ≤ 64000000) (zB : b ≤ 64000000) : Met l yX11_commonDivisor wsX11_commonDivisor ({ frames := 0, cells := 0, slots := 0, locals := 0 } : Room) (va_Pc [.long (lN a), .long (lN b)] (fun U => True)) (vp_Sl (fun r => r = lN (Nat.gcd a b))) 0 0 (fun _ => False) := by
  refine met_ofQ (cc := cX11_commonDivisor) (maxL := 7) (ret := (some .long)) (by decide) rfl ?_
  intro p e s m args below meth c s₁ Q B hml hv hQ
  obtain ⟨rfl, -⟩ := hv
  have hx := B.exec
  have hb := B.bytes
  have hr := B.returns
  have hts := atoms_spec (ws := wsX11_commonDivisor) B.pre
  have hown : s.vm.findClass RX11 = some m.cls := findClass_of_methodNamed B.named
  have hlocks := B.notSynchronized
  obtain ⟨A, hAe⟩ : ∃ A : Nat → Prop, A = fun _ => False := ⟨_, rfl⟩
  rw [← hAe] at hQ
  have hS : va_S A s.heap s.heap [] := va_S.rf
  have hl := lv_entry [.long (lN a), .long (lN b)] (n := 7) (Nat.le_of_ble_eq_true rfl)
  rw [lg_entry_eq]
  generalize (lg_sl [.long (lN a), .long (lN b)] ++ List.replicate (7 - (lg_sl [.long (lN a), .long (lN b)]).length) Slot.unset).toArray = ls at hl ⊢
  generalize hag : ([.long (lN a), .long (lN b)] : List Value).toArray = args at hts hQ ⊢
  have hl : lv_has ls 7 [(0, .long (lN a)), (2, .long (lN b))] := hl
  refine lv_iconst (v := 0) hx hb dX11_commonDivisor_0 (by decide) ?_
  refine lv_istore (lv' := [(4, .int 0), (0, .long (lN a)), (2, .long (lN b))]) hx hb dX11_commonDivisor_1 hl (by decide) rfl (fun ls hl => ?_)
  have L3 : ∀ (nF : Nat) (i : Nat) (a1 : Nat) (b1 : Nat), 64 - i < nF → (i ≤ 64) → (a1 ≤ 64000000) → (b1 ≤ 64000000) → (Nat.gcd a1 b1 = Nat.gcd a b) → (i = 0 ∨ (b1 < a1 ∧ a1 * b1 * 2 ^ (i - 1) ≤ 4503599627370496)) → ∀ (ls : Array Slot), lv_has ls 7 [(0, .long (lN a1)), (2, .long (lN b1)), (4, .int (nI i))] → W p l e ({ frames := 0, cells := 0, slots := 0, locals := 0 } : Room) s m args below meth c s.heap [] 0 0 Q (F0 m 3 ls []) := by
    intro nF
    induction nF with
    | zero => intro i a1 b1 hm; exact absurd hm (Nat.not_lt_zero _)
    | succ nF ih3 =>
      intro i a1 b1 hm hi hA9 hB9 hG9 hP9 ls hl
      refine lv_iload hx hb dX11_commonDivisor_3 (lv_at hl 2 rfl) ?_
      refine lv_bipush (v := 64) hx hb dX11_commonDivisor_5 (by decide) ?_
      refine lv_icmp_ge (tgt := 32) hx hb dX11_commonDivisor_7 (by decide) (fun c_1 => ?_) (fun c_1 => ?_)
      · skip
        have c_1 : 64 ≤ i := (nI_leI (a := 64) (b := i) (by omega) (by omega)).mp c_1
        refine lv_lload_n hx hb dX11_commonDivisor_32 rfl (lv_at hl 0 rfl) ?_
        rw [hQ]
        exact W.lret (v := lN a1) hx hb hr (fun tQ htQ hWQ => ⟨lN a1, rfl, gp_end (by omega) hP9 hG9, by rw [htQ]⟩) (fun q hq => absurd hq List.not_mem_nil) dX11_commonDivisor_33
      · skip
        have c_1 : ¬ 64 ≤ i := fun q => c_1 ((nI_leI (a := 64) (b := i) (by omega) (by omega)).mpr q)
        refine lv_lload_n hx hb dX11_commonDivisor_10 rfl (lv_at hl 1 rfl) ?_
        refine lv_lconst (v := 0) hx hb dX11_commonDivisor_11 (by decide) ?_
        refine W.lcmp hx hb dX11_commonDivisor_12 ?_
        refine lv_if_eq (tgt := 32) hx hb dX11_commonDivisor_13 (by decide) (fun c_2 => ?_) (fun c_2 => ?_)
        · skip
          have cz9 : b1 = 0 := (tz_eq (by omega)).mp c_2
          refine lv_lload_n hx hb dX11_commonDivisor_32 rfl (lv_at hl 0 rfl) ?_
          rw [hQ]
          exact W.lret (v := lN a1) hx hb hr (fun tQ htQ hWQ => ⟨lN a1, rfl, gp_z cz9 hG9, by rw [htQ]⟩) (fun q hq => absurd hq List.not_mem_nil) dX11_commonDivisor_33
        · skip
          have cz9 : ¬ b1 = 0 := fun z9 => c_2 ((tz_eq (by omega)).mpr z9)
          refine lv_lload_n hx hb dX11_commonDivisor_16 rfl (lv_at hl 0 rfl) ?_
          refine lv_lload_n hx hb dX11_commonDivisor_17 rfl (lv_at hl 1 rfl) ?_
          refine lv_lrem hx hb dX11_commonDivisor_18 (fun z9 => cz9 ((pk_lEQ (b := 0) (by omega) (by omega)).mp z9)) ?_
          refine ql_as (y := lN (a1 % b1)) (pk_lRem (by omega) (by omega) (by omega)) ?_
          refine lv_lstore (lv' := [(5, .long (lN (a1 % b1))), (0, .long (lN a1)), (2, .long (lN b1)), (4, .int (nI i))]) hx hb dX11_commonDivisor_19 hl (by decide) rfl (fun ls hl => ?_)
          refine lv_lload_n hx hb dX11_commonDivisor_21 rfl (lv_at hl 2 rfl) ?_
          refine lv_lstore_n (lv' := [(0, .long (lN b1)), (5, .long (lN (a1 % b1))), (2, .long (lN b1)), (4, .int (nI i))]) hx hb dX11_commonDivisor_22 rfl hl (by decide) rfl (fun ls hl => ?_)
          refine lv_lload hx hb dX11_commonDivisor_23 (lv_at hl 1 rfl) ?_
          refine lv_lstore_n (lv' := [(2, .long (lN (a1 % b1))), (0, .long (lN b1)), (5, .long (lN (a1 % b1))), (4, .int (nI i))]) hx hb dX11_commonDivisor_25 rfl hl (by decide) rfl (fun ls hl => ?_)
          refine lv_iinc (v := nI (i + 1)) (lv' := [(4, .int (nI (i + 1))), (2, .long (lN (a1 % b1))), (0, .long (lN b1)), (5, .long (lN (a1 % b1)))]) hx hb dX11_commonDivisor_26 hl (k := 3) rfl (nI_add i 1) (by decide) rfl (fun ls hl => ?_)
          refine lv_goto (tgt := 3) hx hb dX11_commonDivisor_29 (by decide) ?_
          exact ih3 (i + 1) (b1) (a1 % b1) (by omega) (by omega) (hB9) (Nat.le_trans (Nat.le_of_lt (Nat.mod_lt _ (by omega))) hB9) ((gcd_st cz9).symm.trans hG9) (gp_step hA9 hB9 cz9 hP9) ls (lv_sub hl [2, 1, 0] rfl)
  exact L3 _ (0) (a) (b) (Nat.lt_succ_self _) (by omega) (zA) (zB) (rfl) (Or.inl rfl) ls (lv_sub hl [1, 2, 0] rfl)

set_option maxHeartbeats 4000000 in
set_option maxRecDepth 100000 in
theorem c_partOf (l : Launch) (dC : Nat → ClassId) (dI : Nat → Nat → Nat) (a b : Nat) (x : Int32) (zA : a ≤ 64000000) (zB : b ≤ 64000000) (zb : 0 < b) : Met l yX11_partOf wsX11_partOf ({ frames := 1, cells := 0, slots := 0, locals := 26 } : Room) (va_Pc [.long (lN a), .long (lN b), .int x] (fun U => True)) (vp_Sl (fun r => r = ptR a b x)) 0 0 (fun _ => False) := by
  refine met_ofQ (cc := cX11_partOf) (maxL := 7) (ret := (some .long)) (by decide) rfl ?_
  intro p e s m args below meth c s₁ Q B hml hv hQ
  obtain ⟨rfl, -⟩ := hv
  have hx := B.exec
  have hb := B.bytes
  have hr := B.returns
  have hts := atoms_spec (ws := wsX11_partOf) B.pre
  have hown : s.vm.findClass RX11 = some m.cls := findClass_of_methodNamed B.named
  have hlocks := B.notSynchronized
  obtain ⟨A, hAe⟩ : ∃ A : Nat → Prop, A = fun _ => False := ⟨_, rfl⟩
  rw [← hAe] at hQ
  have hS : va_S A s.heap s.heap [] := va_S.rf
  have hl := lv_entry [.long (lN a), .long (lN b), .int x] (n := 7) (Nat.le_of_ble_eq_true rfl)
  rw [lg_entry_eq]
  generalize (lg_sl [.long (lN a), .long (lN b), .int x] ++ List.replicate (7 - (lg_sl [.long (lN a), .long (lN b), .int x]).length) Slot.unset).toArray = ls at hl ⊢
  generalize hag : ([.long (lN a), .long (lN b), .int x] : List Value).toArray = args at hts hQ ⊢
  have hl : lv_has ls 7 [(0, .long (lN a)), (2, .long (lN b)), (4, .int x)] := hl
  refine lv_lload_n hx hb dX11_partOf_0 rfl (lv_at hl 0 rfl) ?_
  refine lv_lload_n hx hb dX11_partOf_1 rfl (lv_at hl 1 rfl) ?_
  refine vp_callSl (va_runS (As := [.long (lN a), .long (lN b)]) (rest := []) ⟨hx, hb, hml, hown, hts⟩ (c_common l dC dI a b zA zB) (va_cwS 2 hts gX11_partOf_X11_commonDivisor rfl rfl rfl hd_yX11_commonDivisor.2 ⟨Nat.le_of_ble_eq_true rfl, Nat.le_of_ble_eq_true rfl⟩) ⟨fun a U g mk q => ⟨q.1, trivial⟩, fun U hU hW => ⟨rfl, trivial⟩⟩ rfl rfl hl.1 rfl (lv_room (Nat.le_of_ble_eq_true rfl)) dX11_partOf_2 ⟨Nat.le_of_ble_eq_true rfl, Nat.le_of_ble_eq_true rfl⟩).run (fun r_1 hw_2 => ?_)
  obtain rfl := hw_2
  have hg9 := gcd_b (a := a) zb
  refine lv_lstore (lv' := [(5, .long (lN (Nat.gcd a b))), (0, .long (lN a)), (2, .long (lN b)), (4, .int x)]) hx hb dX11_partOf_5 hl (by decide) rfl (fun ls hl => ?_)
  refine lv_lload hx hb dX11_partOf_7 (lv_at hl 0 rfl) ?_
  refine lv_lconst (v := 0) hx hb dX11_partOf_9 (by decide) ?_
  refine W.lcmp hx hb dX11_partOf_10 ?_
  refine lv_if_gt (tgt := 18) hx hb dX11_partOf_11 (by decide) (fun c_3 => ?_) (fun c_3 => absurd c_3 (fun z9 => z9 (tz_gt (by omega) (by omega))))
  refine lv_iload hx hb dX11_partOf_18 (lv_at hl 3 rfl) ?_
  refine lv_if_ne (tgt := 27) hx hb dX11_partOf_20 (by decide) (fun c_4 => ?_) (fun c_4 => ?_)
  · skip
    refine lv_lload_n hx hb dX11_partOf_27 rfl (lv_at hl 2 rfl) ?_
    refine lv_lload hx hb dX11_partOf_28 (lv_at hl 0 rfl) ?_
    refine lv_ldiv hx hb dX11_partOf_30 (fun z9 => absurd ((pk_lEQ (b := 0) (by omega) (by omega)).mp z9) (by omega)) ?_
    refine ql_as (y := lN (b / Nat.gcd a b)) (pk_lDiv (by omega) (by omega) (by omega)) ?_
    rw [hQ]
    exact W.lret (v := lN (b / Nat.gcd a b)) hx hb hr (fun tQ htQ hWQ => ⟨lN (b / Nat.gcd a b), rfl, pu_1 (by assumption), by rw [htQ]⟩) (fun q hq => absurd hq List.not_mem_nil) dX11_partOf_31
  · skip
    refine lv_lload_n hx hb dX11_partOf_23 rfl (lv_at hl 1 rfl) ?_
    refine lv_goto (tgt := 28) hx hb dX11_partOf_24 (by decide) ?_
    refine lv_lload hx hb dX11_partOf_28 (lv_at hl 0 rfl) ?_
    refine lv_ldiv hx hb dX11_partOf_30 (fun z9 => absurd ((pk_lEQ (b := 0) (by omega) (by omega)).mp z9) (by omega)) ?_
    refine ql_as (y := lN (a / Nat.gcd a b)) (pk_lDiv (by omega) (by omega) (by omega)) ?_
    rw [hQ]
    exact W.lret (v := lN (a / Nat.gcd a b)) hx hb hr (fun tQ htQ hWQ => ⟨lN (a / Nat.gcd a b), rfl, pu_0 (by assumption), by rw [htQ]⟩) (fun q hq => absurd hq List.not_mem_nil) dX11_partOf_31

theorem kc_timesOf_0 : (.constantLong RX0 25 (20) : Cond) ∈ wsX0_timesOf := kc_of 842 rfl rfl rfl
set_option maxHeartbeats 4000000 in
set_option maxRecDepth 100000 in
theorem c_timesOf (l : Launch) (dC : Nat → ClassId) (dI : Nat → Nat → Nat) (k : Nat) (zk : k ≤ 6) : Met l yX0_timesOf wsX0_timesOf ({ frames := 0, cells := 0, slots := 0, locals := 0 } : Room) (va_Pc [.int (nI k)] (fun U => True)) (vp_Sl (fun r => r = lN (20 ^ k))) 0 0 (fun _ => False) := by
  refine met_ofQ (cc := cX0_timesOf) (maxL := 4) (ret := (some .long)) (by decide) rfl ?_
  intro p e s m args below meth c s₁ Q B hml hv hQ
  obtain ⟨rfl, -⟩ := hv
  have hx := B.exec
  have hb := B.bytes
  have hr := B.returns
  have hts := atoms_spec (ws := wsX0_timesOf) B.pre
  have hown : s.vm.findClass RX0 = some m.cls := findClass_of_methodNamed B.named
  have hlocks := B.notSynchronized
  obtain ⟨A, hAe⟩ : ∃ A : Nat → Prop, A = fun _ => False := ⟨_, rfl⟩
  rw [← hAe] at hQ
  have hS : va_S A s.heap s.heap [] := va_S.rf
  have hl := lv_entry [.int (nI k)] (n := 4) (Nat.le_of_ble_eq_true rfl)
  rw [lg_entry_eq]
  generalize (lg_sl [.int (nI k)] ++ List.replicate (4 - (lg_sl [.int (nI k)]).length) Slot.unset).toArray = ls at hl ⊢
  generalize hag : ([.int (nI k)] : List Value).toArray = args at hts hQ ⊢
  have hl : lv_has ls 4 [(0, .int (nI k))] := hl
  refine lv_lconst (v := 1) hx hb dX0_timesOf_0 (by decide) ?_
  refine lv_lstore_n (lv' := [(1, .long 1), (0, .int (nI k))]) hx hb dX0_timesOf_1 rfl hl (by decide) rfl (fun ls hl => ?_)
  refine lv_iconst (v := 0) hx hb dX0_timesOf_2 (by decide) ?_
  refine lv_istore_n (lv' := [(3, .int 0), (1, .long 1), (0, .int (nI k))]) hx hb dX0_timesOf_3 rfl hl (by decide) rfl (fun ls hl => ?_)
  have L4 : ∀ (nF : Nat) (i : Nat), k - i < nF → (i ≤ k) → ∀ (ls : Array Slot), lv_has ls 4 [(0, .int (nI k)), (1, .long (lN (20 ^ i))), (3, .int (nI i))] → W p l e ({ frames := 0, cells := 0, slots := 0, locals := 0 } : Room) s m args below meth c s.heap [] 0 0 Q (F0 m 4 ls []) := by
    intro nF
    induction nF with
    | zero => intro i hm; exact absurd hm (Nat.not_lt_zero _)
    | succ nF ih4 =>
      intro i hm hi ls hl
      refine lv_iload_n hx hb dX0_timesOf_4 rfl (lv_at hl 2 rfl) ?_
      refine lv_iload_n hx hb dX0_timesOf_5 rfl (lv_at hl 0 rfl) ?_
      refine lv_icmp_ge (tgt := 21) hx hb dX0_timesOf_6 (by decide) (fun c_1 => ?_) (fun c_1 => ?_)
      · skip
        have c_1 : k ≤ i := (nI_leI (a := k) (b := i) (by omega) (by omega)).mp c_1
        refine lv_lload_n hx hb dX0_timesOf_21 rfl (lv_at hl 1 rfl) ?_
        rw [hQ]
        exact W.lret (v := lN (20 ^ i)) hx hb hr (fun tQ htQ hWQ => ⟨lN (20 ^ i), rfl, by rw [show i = k by omega], by rw [htQ]⟩) (fun q hq => absurd hq List.not_mem_nil) dX0_timesOf_22
      · skip
        have c_1 : ¬ k ≤ i := fun q => c_1 ((nI_leI (a := k) (b := i) (by omega) (by omega)).mpr q)
        refine lv_lload_n hx hb dX0_timesOf_9 rfl (lv_at hl 1 rfl) ?_
        refine lv_ldc2 (v := 20) hx hb hown (hts (.constantLong RX0 25 (20)) kc_timesOf_0) dX0_timesOf_10 ?_
        refine lv_lmul hx hb dX0_timesOf_13 ?_
        refine ql_as (y := lN (20 ^ (i + 1))) (tw_step i (by omega)) ?_
        refine lv_lstore_n (lv' := [(1, .long (lN (20 ^ (i + 1)))), (0, .int (nI k)), (3, .int (nI i))]) hx hb dX0_timesOf_14 rfl hl (by decide) rfl (fun ls hl => ?_)
        refine lv_iinc (v := nI (i + 1)) (lv' := [(3, .int (nI (i + 1))), (1, .long (lN (20 ^ (i + 1)))), (0, .int (nI k))]) hx hb dX0_timesOf_15 hl (k := 2) rfl (nI_add i 1) (by decide) rfl (fun ls hl => ?_)
        refine lv_goto (tgt := 4) hx hb dX0_timesOf_18 (by decide) ?_
        exact ih4 (i + 1) (by omega) (by omega) ls (lv_sub hl [2, 1, 0] rfl)
  exact L4 _ (0) (Nat.lt_succ_self _) (by omega) ls (lv_sub hl [2, 1, 0] rfl)
end mg13a
section mg13a
theorem ggX5_holds_X5_isSo : GoodIn wsX5_holds wsX5_isSo := gga_of 657 rfl rfl rfl
theorem gX5_holds_X5_isSo : GoodIn wsX5_holds (va_wsS RX5 124 yX5_isSo wsX5_isSo) := goodIn_app (ggh_of [655, 656, 65] rfl rfl rfl) ggX5_holds_X5_isSo
theorem ggX5_total_X5_holds : GoodIn wsX5_total wsX5_holds := gga_of 654 rfl rfl rfl
theorem gX5_total_X5_holds : GoodIn wsX5_total (wsV RX5 120 RX5 yX5_holds wsX5_holds) := goodIn_app (ggh_of [651, 653, 11, 65] rfl rfl rfl) ggX5_total_X5_holds
noncomputable def dk14btotal_cX5_isSo_0 : List (Nat × List Nat) := [(0, [43]), (1, [26]), (2, [17, 1, 44]), (5, [108]), (6, [46]), (7, [61]), (8, [26]), (9, [16, 100]), (11, [112]), (12, [62]), (13, [26]), (14, [16, 100]), (16, [108]), (17, [6]), (18, [112]), (44, [28]), (45, [29]), (46, [162, 0, 7]), (49, [4]), (50, [167, 0, 4]), (53, [3]), (54, [172]), (55, [28]), (56, [29]), (57, [160, 0, 7]), (60, [4]), (61, [167, 0, 4]), (64, [3]), (65, [172]), (66, [28]), (67, [29]), (68, [164, 0, 7]), (71, [4]), (72, [167, 0, 4]), (75, [3]), (76, [172])]
set_option maxRecDepth 100000 in
theorem dk14btotal_cX5_isSo_0_a : btA cX5_isSo dk14btotal_cX5_isSo_0 = true := by decide +kernel
theorem dX5_isSo_0 : decode cX5_isSo 0 = .ok (.aload_n 1, 1) := bd43 (btAt dk14btotal_cX5_isSo_0_a 0 rfl)
theorem dX5_isSo_1 : decode cX5_isSo 1 = .ok (.iload_n 0, 1) := bd26 (btAt dk14btotal_cX5_isSo_0_a 1 rfl)
theorem dX5_isSo_2 : decode cX5_isSo 2 = .ok (.sipush 300, 3) := bd17 (a := 1) (b := 44) (btAt dk14btotal_cX5_isSo_0_a 2 rfl)
theorem dX5_isSo_5 : decode cX5_isSo 5 = .ok (.idiv, 1) := bd108 (btAt dk14btotal_cX5_isSo_0_a 3 rfl)
theorem dX5_isSo_6 : decode cX5_isSo 6 = .ok (.iaload, 1) := bd46 (btAt dk14btotal_cX5_isSo_0_a 4 rfl)
theorem dX5_isSo_7 : decode cX5_isSo 7 = .ok (.istore_n 2, 1) := bd61 (btAt dk14btotal_cX5_isSo_0_a 5 rfl)
theorem dX5_isSo_8 : decode cX5_isSo 8 = .ok (.iload_n 0, 1) := bd26 (btAt dk14btotal_cX5_isSo_0_a 6 rfl)
theorem dX5_isSo_9 : decode cX5_isSo 9 = .ok (.bipush 100, 2) := bd16 (a := 100) (btAt dk14btotal_cX5_isSo_0_a 7 rfl)
theorem dX5_isSo_11 : decode cX5_isSo 11 = .ok (.irem, 1) := bd112 (btAt dk14btotal_cX5_isSo_0_a 8 rfl)
theorem dX5_isSo_12 : decode cX5_isSo 12 = .ok (.istore_n 3, 1) := bd62 (btAt dk14btotal_cX5_isSo_0_a 9 rfl)
theorem dX5_isSo_13 : decode cX5_isSo 13 = .ok (.iload_n 0, 1) := bd26 (btAt dk14btotal_cX5_isSo_0_a 10 rfl)
theorem dX5_isSo_14 : decode cX5_isSo 14 = .ok (.bipush 100, 2) := bd16 (a := 100) (btAt dk14btotal_cX5_isSo_0_a 11 rfl)
theorem dX5_isSo_16 : decode cX5_isSo 16 = .ok (.idiv, 1) := bd108 (btAt dk14btotal_cX5_isSo_0_a 12 rfl)
theorem dX5_isSo_17 : decode cX5_isSo 17 = .ok (.iconst 3, 1) := bd6 (btAt dk14btotal_cX5_isSo_0_a 13 rfl)
theorem dX5_isSo_18 : decode cX5_isSo 18 = .ok (.irem, 1) := bd112 (btAt dk14btotal_cX5_isSo_0_a 14 rfl)
theorem dX5_isSo_44 : decode cX5_isSo 44 = .ok (.iload_n 2, 1) := bd28 (btAt dk14btotal_cX5_isSo_0_a 15 rfl)
theorem dX5_isSo_45 : decode cX5_isSo 45 = .ok (.iload_n 3, 1) := bd29 (btAt dk14btotal_cX5_isSo_0_a 16 rfl)
theorem dX5_isSo_46 : decode cX5_isSo 46 = .ok (.if_icmp .ge 7, 3) := bd162 (a := 0) (b := 7) (btAt dk14btotal_cX5_isSo_0_a 17 rfl)
theorem dX5_isSo_49 : decode cX5_isSo 49 = .ok (.iconst 1, 1) := bd4 (btAt dk14btotal_cX5_isSo_0_a 18 rfl)
theorem dX5_isSo_50 : decode cX5_isSo 50 = .ok (.goto 4, 3) := bd167 (a := 0) (b := 4) (btAt dk14btotal_cX5_isSo_0_a 19 rfl)
theorem dX5_isSo_53 : decode cX5_isSo 53 = .ok (.iconst 0, 1) := bd3 (btAt dk14btotal_cX5_isSo_0_a 20 rfl)
theorem dX5_isSo_54 : decode cX5_isSo 54 = .ok (.ireturn, 1) := bd172 (btAt dk14btotal_cX5_isSo_0_a 21 rfl)
theorem dX5_isSo_55 : decode cX5_isSo 55 = .ok (.iload_n 2, 1) := bd28 (btAt dk14btotal_cX5_isSo_0_a 22 rfl)
theorem dX5_isSo_56 : decode cX5_isSo 56 = .ok (.iload_n 3, 1) := bd29 (btAt dk14btotal_cX5_isSo_0_a 23 rfl)
theorem dX5_isSo_57 : decode cX5_isSo 57 = .ok (.if_icmp .ne 7, 3) := bd160 (a := 0) (b := 7) (btAt dk14btotal_cX5_isSo_0_a 24 rfl)
theorem dX5_isSo_60 : decode cX5_isSo 60 = .ok (.iconst 1, 1) := bd4 (btAt dk14btotal_cX5_isSo_0_a 25 rfl)
theorem dX5_isSo_61 : decode cX5_isSo 61 = .ok (.goto 4, 3) := bd167 (a := 0) (b := 4) (btAt dk14btotal_cX5_isSo_0_a 26 rfl)
theorem dX5_isSo_64 : decode cX5_isSo 64 = .ok (.iconst 0, 1) := bd3 (btAt dk14btotal_cX5_isSo_0_a 27 rfl)
theorem dX5_isSo_65 : decode cX5_isSo 65 = .ok (.ireturn, 1) := bd172 (btAt dk14btotal_cX5_isSo_0_a 28 rfl)
theorem dX5_isSo_66 : decode cX5_isSo 66 = .ok (.iload_n 2, 1) := bd28 (btAt dk14btotal_cX5_isSo_0_a 29 rfl)
theorem dX5_isSo_67 : decode cX5_isSo 67 = .ok (.iload_n 3, 1) := bd29 (btAt dk14btotal_cX5_isSo_0_a 30 rfl)
theorem dX5_isSo_68 : decode cX5_isSo 68 = .ok (.if_icmp .le 7, 3) := bd164 (a := 0) (b := 7) (btAt dk14btotal_cX5_isSo_0_a 31 rfl)
theorem dX5_isSo_71 : decode cX5_isSo 71 = .ok (.iconst 1, 1) := bd4 (btAt dk14btotal_cX5_isSo_0_a 32 rfl)
theorem dX5_isSo_72 : decode cX5_isSo 72 = .ok (.goto 4, 3) := bd167 (a := 0) (b := 4) (btAt dk14btotal_cX5_isSo_0_a 33 rfl)
theorem dX5_isSo_75 : decode cX5_isSo 75 = .ok (.iconst 0, 1) := bd3 (btAt dk14btotal_cX5_isSo_0_a 34 rfl)
theorem dX5_isSo_76 : decode cX5_isSo 76 = .ok (.ireturn, 1) := bd172 (btAt dk14btotal_cX5_isSo_0_a 35 rfl)
set_option maxRecDepth 100000 in
theorem dX5_isSo_19 : decode cX5_isSo 19 = .ok (.lookupswitch 47 #[(0, 25), (1, 36)], 25) := by decide +kernel
noncomputable def dk14btotal_cX5_holds_0 : List (Nat × List Nat) := [(0, [27]), (16, [62]), (17, [3]), (18, [54, 4]), (20, [29]), (21, [54, 5]), (23, [21, 5]), (25, [42]), (26, [180, 0, 22]), (29, [27]), (30, [46]), (31, [162, 0, 97]), (34, [42]), (35, [180, 0, 25]), (38, [21, 5]), (40, [46]), (41, [54, 6]), (43, [21, 6]), (45, [2]), (46, [160, 0, 12]), (58, [21, 6]), (60, [16, 254]), (62, [160, 0, 18]), (80, [21, 6]), (82, [16, 253]), (84, [160, 0, 17]), (101, [21, 4]), (103, [4]), (104, [120]), (105, [21, 6]), (107, [44]), (128, [21, 4]), (130, [4]), (131, [126]), (132, [4]), (133, [160, 0, 7]), (136, [4]), (137, [167, 0, 4]), (140, [3]), (141, [172])]
set_option maxRecDepth 100000 in
theorem dk14btotal_cX5_holds_0_a : btA cX5_holds dk14btotal_cX5_holds_0 = true := by decide +kernel
theorem dX5_holds_0 : decode cX5_holds 0 = .ok (.iload_n 1, 1) := bd27 (btAt dk14btotal_cX5_holds_0_a 0 rfl)
theorem dX5_holds_16 : decode cX5_holds 16 = .ok (.istore_n 3, 1) := bd62 (btAt dk14btotal_cX5_holds_0_a 1 rfl)
theorem dX5_holds_17 : decode cX5_holds 17 = .ok (.iconst 0, 1) := bd3 (btAt dk14btotal_cX5_holds_0_a 2 rfl)
theorem dX5_holds_18 : decode cX5_holds 18 = .ok (.istore 4, 2) := bd54 (a := 4) (btAt dk14btotal_cX5_holds_0_a 3 rfl)
theorem dX5_holds_20 : decode cX5_holds 20 = .ok (.iload_n 3, 1) := bd29 (btAt dk14btotal_cX5_holds_0_a 4 rfl)
theorem dX5_holds_21 : decode cX5_holds 21 = .ok (.istore 5, 2) := bd54 (a := 5) (btAt dk14btotal_cX5_holds_0_a 5 rfl)
theorem dX5_holds_23 : decode cX5_holds 23 = .ok (.iload 5, 2) := bd21 (a := 5) (btAt dk14btotal_cX5_holds_0_a 6 rfl)
theorem dX5_holds_25 : decode cX5_holds 25 = .ok (.aload_n 0, 1) := bd42 (btAt dk14btotal_cX5_holds_0_a 7 rfl)
theorem dX5_holds_26 : decode cX5_holds 26 = .ok (.getfield 22, 3) := bd180 (a := 0) (b := 22) (btAt dk14btotal_cX5_holds_0_a 8 rfl)
theorem dX5_holds_29 : decode cX5_holds 29 = .ok (.iload_n 1, 1) := bd27 (btAt dk14btotal_cX5_holds_0_a 9 rfl)
theorem dX5_holds_30 : decode cX5_holds 30 = .ok (.iaload, 1) := bd46 (btAt dk14btotal_cX5_holds_0_a 10 rfl)
theorem dX5_holds_31 : decode cX5_holds 31 = .ok (.if_icmp .ge 97, 3) := bd162 (a := 0) (b := 97) (btAt dk14btotal_cX5_holds_0_a 11 rfl)
theorem dX5_holds_34 : decode cX5_holds 34 = .ok (.aload_n 0, 1) := bd42 (btAt dk14btotal_cX5_holds_0_a 12 rfl)
theorem dX5_holds_35 : decode cX5_holds 35 = .ok (.getfield 25, 3) := bd180 (a := 0) (b := 25) (btAt dk14btotal_cX5_holds_0_a 13 rfl)
theorem dX5_holds_38 : decode cX5_holds 38 = .ok (.iload 5, 2) := bd21 (a := 5) (btAt dk14btotal_cX5_holds_0_a 14 rfl)
theorem dX5_holds_40 : decode cX5_holds 40 = .ok (.iaload, 1) := bd46 (btAt dk14btotal_cX5_holds_0_a 15 rfl)
theorem dX5_holds_41 : decode cX5_holds 41 = .ok (.istore 6, 2) := bd54 (a := 6) (btAt dk14btotal_cX5_holds_0_a 16 rfl)
theorem dX5_holds_43 : decode cX5_holds 43 = .ok (.iload 6, 2) := bd21 (a := 6) (btAt dk14btotal_cX5_holds_0_a 17 rfl)
theorem dX5_holds_45 : decode cX5_holds 45 = .ok (.iconst (-1), 1) := bd2 (btAt dk14btotal_cX5_holds_0_a 18 rfl)
theorem dX5_holds_46 : decode cX5_holds 46 = .ok (.if_icmp .ne 12, 3) := bd160 (a := 0) (b := 12) (btAt dk14btotal_cX5_holds_0_a 19 rfl)
theorem dX5_holds_58 : decode cX5_holds 58 = .ok (.iload 6, 2) := bd21 (a := 6) (btAt dk14btotal_cX5_holds_0_a 20 rfl)
theorem dX5_holds_60 : decode cX5_holds 60 = .ok (.bipush (-2), 2) := bd16 (a := 254) (btAt dk14btotal_cX5_holds_0_a 21 rfl)
theorem dX5_holds_62 : decode cX5_holds 62 = .ok (.if_icmp .ne 18, 3) := bd160 (a := 0) (b := 18) (btAt dk14btotal_cX5_holds_0_a 22 rfl)
theorem dX5_holds_80 : decode cX5_holds 80 = .ok (.iload 6, 2) := bd21 (a := 6) (btAt dk14btotal_cX5_holds_0_a 23 rfl)
theorem dX5_holds_82 : decode cX5_holds 82 = .ok (.bipush (-3), 2) := bd16 (a := 253) (btAt dk14btotal_cX5_holds_0_a 24 rfl)
theorem dX5_holds_84 : decode cX5_holds 84 = .ok (.if_icmp .ne 17, 3) := bd160 (a := 0) (b := 17) (btAt dk14btotal_cX5_holds_0_a 25 rfl)
theorem dX5_holds_101 : decode cX5_holds 101 = .ok (.iload 4, 2) := bd21 (a := 4) (btAt dk14btotal_cX5_holds_0_a 26 rfl)
theorem dX5_holds_103 : decode cX5_holds 103 = .ok (.iconst 1, 1) := bd4 (btAt dk14btotal_cX5_holds_0_a 27 rfl)
theorem dX5_holds_104 : decode cX5_holds 104 = .ok (.ishl, 1) := bd120 (btAt dk14btotal_cX5_holds_0_a 28 rfl)
theorem dX5_holds_105 : decode cX5_holds 105 = .ok (.iload 6, 2) := bd21 (a := 6) (btAt dk14btotal_cX5_holds_0_a 29 rfl)
theorem dX5_holds_107 : decode cX5_holds 107 = .ok (.aload_n 2, 1) := bd44 (btAt dk14btotal_cX5_holds_0_a 30 rfl)
theorem dX5_holds_128 : decode cX5_holds 128 = .ok (.iload 4, 2) := bd21 (a := 4) (btAt dk14btotal_cX5_holds_0_a 31 rfl)
theorem dX5_holds_130 : decode cX5_holds 130 = .ok (.iconst 1, 1) := bd4 (btAt dk14btotal_cX5_holds_0_a 32 rfl)
theorem dX5_holds_131 : decode cX5_holds 131 = .ok (.iand, 1) := bd126 (btAt dk14btotal_cX5_holds_0_a 33 rfl)
theorem dX5_holds_132 : decode cX5_holds 132 = .ok (.iconst 1, 1) := bd4 (btAt dk14btotal_cX5_holds_0_a 34 rfl)
theorem dX5_holds_133 : decode cX5_holds 133 = .ok (.if_icmp .ne 7, 3) := bd160 (a := 0) (b := 7) (btAt dk14btotal_cX5_holds_0_a 35 rfl)
theorem dX5_holds_136 : decode cX5_holds 136 = .ok (.iconst 1, 1) := bd4 (btAt dk14btotal_cX5_holds_0_a 36 rfl)
theorem dX5_holds_137 : decode cX5_holds 137 = .ok (.goto 4, 3) := bd167 (a := 0) (b := 4) (btAt dk14btotal_cX5_holds_0_a 37 rfl)
theorem dX5_holds_140 : decode cX5_holds 140 = .ok (.iconst 0, 1) := bd3 (btAt dk14btotal_cX5_holds_0_a 38 rfl)
theorem dX5_holds_141 : decode cX5_holds 141 = .ok (.ireturn, 1) := bd172 (btAt dk14btotal_cX5_holds_0_a 39 rfl)
noncomputable def dk14btotal_cX5_holds_40 : List (Nat × List Nat) := [(1, [154, 0, 7]), (4, [3]), (8, [42]), (9, [180, 0, 22]), (12, [27]), (13, [4]), (14, [100]), (15, [46]), (49, [21, 4]), (51, [4]), (52, [130]), (53, [54, 4]), (55, [167, 0, 67]), (65, [21, 4]), (67, [4]), (68, [122]), (69, [21, 4]), (71, [16, 254]), (73, [128]), (74, [126]), (75, [54, 4]), (77, [167, 0, 45]), (87, [21, 4]), (89, [4]), (90, [122]), (91, [21, 4]), (93, [4]), (94, [126]), (95, [128]), (96, [54, 4]), (98, [167, 0, 24]), (108, [184, 0, 124]), (111, [153, 0, 7]), (114, [4]), (115, [167, 0, 4]), (118, [3]), (119, [128]), (120, [54, 4]), (122, [132, 5, 1]), (125, [167, 255, 154])]
set_option maxRecDepth 100000 in
theorem dk14btotal_cX5_holds_40_a : btA cX5_holds dk14btotal_cX5_holds_40 = true := by decide +kernel
theorem dX5_holds_1 : decode cX5_holds 1 = .ok (.ifCond .ne 7, 3) := bd154 (a := 0) (b := 7) (btAt dk14btotal_cX5_holds_40_a 0 rfl)
theorem dX5_holds_4 : decode cX5_holds 4 = .ok (.iconst 0, 1) := bd3 (btAt dk14btotal_cX5_holds_40_a 1 rfl)
theorem dX5_holds_8 : decode cX5_holds 8 = .ok (.aload_n 0, 1) := bd42 (btAt dk14btotal_cX5_holds_40_a 2 rfl)
theorem dX5_holds_9 : decode cX5_holds 9 = .ok (.getfield 22, 3) := bd180 (a := 0) (b := 22) (btAt dk14btotal_cX5_holds_40_a 3 rfl)
theorem dX5_holds_12 : decode cX5_holds 12 = .ok (.iload_n 1, 1) := bd27 (btAt dk14btotal_cX5_holds_40_a 4 rfl)
theorem dX5_holds_13 : decode cX5_holds 13 = .ok (.iconst 1, 1) := bd4 (btAt dk14btotal_cX5_holds_40_a 5 rfl)
theorem dX5_holds_14 : decode cX5_holds 14 = .ok (.isub, 1) := bd100 (btAt dk14btotal_cX5_holds_40_a 6 rfl)
theorem dX5_holds_15 : decode cX5_holds 15 = .ok (.iaload, 1) := bd46 (btAt dk14btotal_cX5_holds_40_a 7 rfl)
theorem dX5_holds_49 : decode cX5_holds 49 = .ok (.iload 4, 2) := bd21 (a := 4) (btAt dk14btotal_cX5_holds_40_a 8 rfl)
theorem dX5_holds_51 : decode cX5_holds 51 = .ok (.iconst 1, 1) := bd4 (btAt dk14btotal_cX5_holds_40_a 9 rfl)
theorem dX5_holds_52 : decode cX5_holds 52 = .ok (.ixor, 1) := bd130 (btAt dk14btotal_cX5_holds_40_a 10 rfl)
theorem dX5_holds_53 : decode cX5_holds 53 = .ok (.istore 4, 2) := bd54 (a := 4) (btAt dk14btotal_cX5_holds_40_a 11 rfl)
theorem dX5_holds_55 : decode cX5_holds 55 = .ok (.goto 67, 3) := bd167 (a := 0) (b := 67) (btAt dk14btotal_cX5_holds_40_a 12 rfl)
theorem dX5_holds_65 : decode cX5_holds 65 = .ok (.iload 4, 2) := bd21 (a := 4) (btAt dk14btotal_cX5_holds_40_a 13 rfl)
theorem dX5_holds_67 : decode cX5_holds 67 = .ok (.iconst 1, 1) := bd4 (btAt dk14btotal_cX5_holds_40_a 14 rfl)
theorem dX5_holds_68 : decode cX5_holds 68 = .ok (.ishr, 1) := bd122 (btAt dk14btotal_cX5_holds_40_a 15 rfl)
theorem dX5_holds_69 : decode cX5_holds 69 = .ok (.iload 4, 2) := bd21 (a := 4) (btAt dk14btotal_cX5_holds_40_a 16 rfl)
theorem dX5_holds_71 : decode cX5_holds 71 = .ok (.bipush (-2), 2) := bd16 (a := 254) (btAt dk14btotal_cX5_holds_40_a 17 rfl)
theorem dX5_holds_73 : decode cX5_holds 73 = .ok (.ior, 1) := bd128 (btAt dk14btotal_cX5_holds_40_a 18 rfl)
theorem dX5_holds_74 : decode cX5_holds 74 = .ok (.iand, 1) := bd126 (btAt dk14btotal_cX5_holds_40_a 19 rfl)
theorem dX5_holds_75 : decode cX5_holds 75 = .ok (.istore 4, 2) := bd54 (a := 4) (btAt dk14btotal_cX5_holds_40_a 20 rfl)
theorem dX5_holds_77 : decode cX5_holds 77 = .ok (.goto 45, 3) := bd167 (a := 0) (b := 45) (btAt dk14btotal_cX5_holds_40_a 21 rfl)
theorem dX5_holds_87 : decode cX5_holds 87 = .ok (.iload 4, 2) := bd21 (a := 4) (btAt dk14btotal_cX5_holds_40_a 22 rfl)
theorem dX5_holds_89 : decode cX5_holds 89 = .ok (.iconst 1, 1) := bd4 (btAt dk14btotal_cX5_holds_40_a 23 rfl)
theorem dX5_holds_90 : decode cX5_holds 90 = .ok (.ishr, 1) := bd122 (btAt dk14btotal_cX5_holds_40_a 24 rfl)
theorem dX5_holds_91 : decode cX5_holds 91 = .ok (.iload 4, 2) := bd21 (a := 4) (btAt dk14btotal_cX5_holds_40_a 25 rfl)
theorem dX5_holds_93 : decode cX5_holds 93 = .ok (.iconst 1, 1) := bd4 (btAt dk14btotal_cX5_holds_40_a 26 rfl)
theorem dX5_holds_94 : decode cX5_holds 94 = .ok (.iand, 1) := bd126 (btAt dk14btotal_cX5_holds_40_a 27 rfl)
theorem dX5_holds_95 : decode cX5_holds 95 = .ok (.ior, 1) := bd128 (btAt dk14btotal_cX5_holds_40_a 28 rfl)
theorem dX5_holds_96 : decode cX5_holds 96 = .ok (.istore 4, 2) := bd54 (a := 4) (btAt dk14btotal_cX5_holds_40_a 29 rfl)
theorem dX5_holds_98 : decode cX5_holds 98 = .ok (.goto 24, 3) := bd167 (a := 0) (b := 24) (btAt dk14btotal_cX5_holds_40_a 30 rfl)
theorem dX5_holds_108 : decode cX5_holds 108 = .ok (.invokestatic 124, 3) := bd184 (a := 0) (b := 124) (btAt dk14btotal_cX5_holds_40_a 31 rfl)
theorem dX5_holds_111 : decode cX5_holds 111 = .ok (.ifCond .eq 7, 3) := bd153 (a := 0) (b := 7) (btAt dk14btotal_cX5_holds_40_a 32 rfl)
theorem dX5_holds_114 : decode cX5_holds 114 = .ok (.iconst 1, 1) := bd4 (btAt dk14btotal_cX5_holds_40_a 33 rfl)
theorem dX5_holds_115 : decode cX5_holds 115 = .ok (.goto 4, 3) := bd167 (a := 0) (b := 4) (btAt dk14btotal_cX5_holds_40_a 34 rfl)
theorem dX5_holds_118 : decode cX5_holds 118 = .ok (.iconst 0, 1) := bd3 (btAt dk14btotal_cX5_holds_40_a 35 rfl)
theorem dX5_holds_119 : decode cX5_holds 119 = .ok (.ior, 1) := bd128 (btAt dk14btotal_cX5_holds_40_a 36 rfl)
theorem dX5_holds_120 : decode cX5_holds 120 = .ok (.istore 4, 2) := bd54 (a := 4) (btAt dk14btotal_cX5_holds_40_a 37 rfl)
theorem dX5_holds_122 : decode cX5_holds 122 = .ok (.iinc 5 1, 3) := bd132 (a := 5) (b := 1) (btAt dk14btotal_cX5_holds_40_a 38 rfl)
theorem dX5_holds_125 : decode cX5_holds 125 = .ok (.goto (-102), 3) := bd167 (a := 255) (b := 154) (btAt dk14btotal_cX5_holds_40_a 39 rfl)
noncomputable def dk14btotal_cX5_holds_80 : List (Nat × List Nat) := [(5, [167, 0, 11])]
set_option maxRecDepth 100000 in
theorem dk14btotal_cX5_holds_80_a : btA cX5_holds dk14btotal_cX5_holds_80 = true := by decide +kernel
theorem dX5_holds_5 : decode cX5_holds 5 = .ok (.goto 11, 3) := bd167 (a := 0) (b := 11) (btAt dk14btotal_cX5_holds_80_a 0 rfl)
noncomputable def dk14btotal_cX5_total_0 : List (Nat × List Nat) := [(0, [3]), (1, [62]), (2, [3]), (3, [54, 4]), (5, [21, 4]), (7, [42]), (8, [180, 0, 59]), (11, [162, 0, 40]), (14, [42]), (15, [180, 0, 15]), (18, [21, 4]), (20, [46]), (21, [27]), (22, [160, 0, 23]), (25, [42]), (26, [21, 4]), (28, [44]), (29, [182, 0, 120]), (32, [153, 0, 13]), (35, [29]), (36, [42]), (37, [180, 0, 19]), (40, [21, 4]), (42, [46]), (43, [96]), (44, [62]), (45, [132, 4, 1]), (48, [167, 255, 213]), (51, [29]), (52, [172])]
set_option maxRecDepth 100000 in
theorem dk14btotal_cX5_total_0_a : btA cX5_total dk14btotal_cX5_total_0 = true := by decide +kernel
theorem dX5_total_0 : decode cX5_total 0 = .ok (.iconst 0, 1) := bd3 (btAt dk14btotal_cX5_total_0_a 0 rfl)
theorem dX5_total_1 : decode cX5_total 1 = .ok (.istore_n 3, 1) := bd62 (btAt dk14btotal_cX5_total_0_a 1 rfl)
theorem dX5_total_2 : decode cX5_total 2 = .ok (.iconst 0, 1) := bd3 (btAt dk14btotal_cX5_total_0_a 2 rfl)
theorem dX5_total_3 : decode cX5_total 3 = .ok (.istore 4, 2) := bd54 (a := 4) (btAt dk14btotal_cX5_total_0_a 3 rfl)
theorem dX5_total_5 : decode cX5_total 5 = .ok (.iload 4, 2) := bd21 (a := 4) (btAt dk14btotal_cX5_total_0_a 4 rfl)
theorem dX5_total_7 : decode cX5_total 7 = .ok (.aload_n 0, 1) := bd42 (btAt dk14btotal_cX5_total_0_a 5 rfl)
theorem dX5_total_8 : decode cX5_total 8 = .ok (.getfield 59, 3) := bd180 (a := 0) (b := 59) (btAt dk14btotal_cX5_total_0_a 6 rfl)
theorem dX5_total_11 : decode cX5_total 11 = .ok (.if_icmp .ge 40, 3) := bd162 (a := 0) (b := 40) (btAt dk14btotal_cX5_total_0_a 7 rfl)
theorem dX5_total_14 : decode cX5_total 14 = .ok (.aload_n 0, 1) := bd42 (btAt dk14btotal_cX5_total_0_a 8 rfl)
theorem dX5_total_15 : decode cX5_total 15 = .ok (.getfield 15, 3) := bd180 (a := 0) (b := 15) (btAt dk14btotal_cX5_total_0_a 9 rfl)
theorem dX5_total_18 : decode cX5_total 18 = .ok (.iload 4, 2) := bd21 (a := 4) (btAt dk14btotal_cX5_total_0_a 10 rfl)
theorem dX5_total_20 : decode cX5_total 20 = .ok (.iaload, 1) := bd46 (btAt dk14btotal_cX5_total_0_a 11 rfl)
theorem dX5_total_21 : decode cX5_total 21 = .ok (.iload_n 1, 1) := bd27 (btAt dk14btotal_cX5_total_0_a 12 rfl)
theorem dX5_total_22 : decode cX5_total 22 = .ok (.if_icmp .ne 23, 3) := bd160 (a := 0) (b := 23) (btAt dk14btotal_cX5_total_0_a 13 rfl)
theorem dX5_total_25 : decode cX5_total 25 = .ok (.aload_n 0, 1) := bd42 (btAt dk14btotal_cX5_total_0_a 14 rfl)
theorem dX5_total_26 : decode cX5_total 26 = .ok (.iload 4, 2) := bd21 (a := 4) (btAt dk14btotal_cX5_total_0_a 15 rfl)
theorem dX5_total_28 : decode cX5_total 28 = .ok (.aload_n 2, 1) := bd44 (btAt dk14btotal_cX5_total_0_a 16 rfl)
theorem dX5_total_29 : decode cX5_total 29 = .ok (.invokevirtual 120, 3) := bd182 (a := 0) (b := 120) (btAt dk14btotal_cX5_total_0_a 17 rfl)
theorem dX5_total_32 : decode cX5_total 32 = .ok (.ifCond .eq 13, 3) := bd153 (a := 0) (b := 13) (btAt dk14btotal_cX5_total_0_a 18 rfl)
theorem dX5_total_35 : decode cX5_total 35 = .ok (.iload_n 3, 1) := bd29 (btAt dk14btotal_cX5_total_0_a 19 rfl)
theorem dX5_total_36 : decode cX5_total 36 = .ok (.aload_n 0, 1) := bd42 (btAt dk14btotal_cX5_total_0_a 20 rfl)
theorem dX5_total_37 : decode cX5_total 37 = .ok (.getfield 19, 3) := bd180 (a := 0) (b := 19) (btAt dk14btotal_cX5_total_0_a 21 rfl)
theorem dX5_total_40 : decode cX5_total 40 = .ok (.iload 4, 2) := bd21 (a := 4) (btAt dk14btotal_cX5_total_0_a 22 rfl)
theorem dX5_total_42 : decode cX5_total 42 = .ok (.iaload, 1) := bd46 (btAt dk14btotal_cX5_total_0_a 23 rfl)
theorem dX5_total_43 : decode cX5_total 43 = .ok (.iadd, 1) := bd96 (btAt dk14btotal_cX5_total_0_a 24 rfl)
theorem dX5_total_44 : decode cX5_total 44 = .ok (.istore_n 3, 1) := bd62 (btAt dk14btotal_cX5_total_0_a 25 rfl)
theorem dX5_total_45 : decode cX5_total 45 = .ok (.iinc 4 1, 3) := bd132 (a := 4) (b := 1) (btAt dk14btotal_cX5_total_0_a 26 rfl)
theorem dX5_total_48 : decode cX5_total 48 = .ok (.goto (-43), 3) := bd167 (a := 255) (b := 213) (btAt dk14btotal_cX5_total_0_a 27 rfl)
theorem dX5_total_51 : decode cX5_total 51 = .ok (.iload_n 3, 1) := bd29 (btAt dk14btotal_cX5_total_0_a 28 rfl)
theorem dX5_total_52 : decode cX5_total 52 = .ok (.ireturn, 1) := bd172 (btAt dk14btotal_cX5_total_0_a 29 rfl)
/-- the codes of a hill: what a test's number may be -/
noncomputable def okC (x : Int32) : Prop := x = -1 ∨ x = -2 ∨ x = -3 ∨ ∃ k : Nat, k < 1800 ∧ x = nI k

theorem so_out {x : Int32} (h1 : ¬ x = 0) (h2 : ¬ x = 1) : Op.lookupswitch.offset [(0, 25), (1, 36)] 47 x.toInt = 47 := by
  have e : ∀ y : Int32, ¬ x = y → ¬ y.toInt = x.toInt := fun y h q => h (Int32.toInt_inj.mp q.symm)
  rw [Op.lookupswitch.offset_cons, if_neg (show ¬ (0 : Int) = x.toInt from e 0 h1), Op.lookupswitch.offset_cons, if_neg (show ¬ (1 : Int) = x.toInt from e 1 h2)]
  rfl

set_option maxHeartbeats 4000000 in
set_option maxRecDepth 100000 in
theorem c_isSo (l : Launch) (dC : Nat → ClassId) (dI : Nat → Nat → Nat) (aFc : Nat) (k : Nat) (cFc : ClassId) (fFc : Nat → Int32) (hk18 : k < 1800) : Met l yX5_isSo wsX5_isSo ({ frames := 0, cells := 0, slots := 0, locals := 0 } : Room) (va_Pc [.int (nI k), .ref aFc] (fun U => va_P (dC, dI) vwCl [(zaI aFc cFc 6 fFc)] U.heap ∧ va_K (dC, dI) vwCl [(cFc, .int)] U)) (vp_Si (fun r => r = bI (tsB fFc k))) 0 0 (fun _ => False) := by
  refine met_ofQ (cc := cX5_isSo) (maxL := 4) (ret := (some .boolean)) (by decide) rfl ?_
  intro p e s m args below meth c s₁ Q B hml hv hQ
  obtain ⟨rfl, hP, hK⟩ := hv
  have hx := B.exec
  have hb := B.bytes
  have hr := B.returns
  have hts := atoms_spec (ws := wsX5_isSo) B.pre
  have hown : s.vm.findClass RX5 = some m.cls := findClass_of_methodNamed B.named
  have hlocks := B.notSynchronized
  obtain ⟨A, hAe⟩ : ∃ A : Nat → Prop, A = fun _ => False := ⟨_, rfl⟩
  rw [← hAe] at hQ
  have hS : va_S A s.heap s.heap [] := va_S.rf
  have hl := lv_entry [.int (nI k), .ref aFc] (n := 4) (Nat.le_of_ble_eq_true rfl)
  rw [lg_entry_eq]
  generalize (lg_sl [.int (nI k), .ref aFc] ++ List.replicate (4 - (lg_sl [.int (nI k), .ref aFc]).length) Slot.unset).toArray = ls at hl ⊢
  generalize hag : ([.int (nI k), .ref aFc] : List Value).toArray = args at hts hQ ⊢
  have hl : lv_has ls 4 [(0, .int (nI k)), (1, .ref aFc)] := hl
  refine lv_aload_n hx hb dX5_isSo_0 rfl (lv_at hl 1 rfl) ?_
  refine lv_iload_n hx hb dX5_isSo_1 rfl (lv_at hl 0 rfl) ?_
  refine lv_sipush (v := 300) hx hb dX5_isSo_2 (by decide) ?_
  refine lv_idiv hx hb dX5_isSo_5 (by decide) ?_
  refine qi_as (y := nI (k / 300)) (pk_div (a := k) (d := 300) (by omega) (by omega) (by omega)) ?_
  refine va_iald hx hb hK hP 0 0 rfl rfl (vp_in_nI (n := k / 300) (N := 6) (by omega) (by omega)) dX5_isSo_6 ?_
  refine qi_as (y := fFc (k / 300)) (by rw [nI_clamp (by omega)]) ?_
  refine lv_istore_n (lv' := [(2, .int (fFc (k / 300))), (0, .int (nI k)), (1, .ref aFc)]) hx hb dX5_isSo_7 rfl hl (by decide) rfl (fun ls hl => ?_)
  refine lv_iload_n hx hb dX5_isSo_8 rfl (lv_at hl 1 rfl) ?_
  refine lv_bipush (v := 100) hx hb dX5_isSo_9 (by decide) ?_
  refine lv_irem hx hb dX5_isSo_11 (by decide) ?_
  refine qi_as (y := nI (k % 100)) (pk_rem (a := k) (d := 100) (by omega) (by omega) (by omega)) ?_
  refine lv_istore_n (lv' := [(3, .int (nI (k % 100))), (2, .int (fFc (k / 300))), (0, .int (nI k)), (1, .ref aFc)]) hx hb dX5_isSo_12 rfl hl (by decide) rfl (fun ls hl => ?_)
  refine lv_iload_n hx hb dX5_isSo_13 rfl (lv_at hl 2 rfl) ?_
  refine lv_bipush (v := 100) hx hb dX5_isSo_14 (by decide) ?_
  refine lv_idiv hx hb dX5_isSo_16 (by decide) ?_
  refine qi_as (y := nI (k / 100)) (pk_div (a := k) (d := 100) (by omega) (by omega) (by omega)) ?_
  refine lv_iconst (v := 3) hx hb dX5_isSo_17 (by decide) ?_
  refine lv_irem hx hb dX5_isSo_18 (by decide) ?_
  refine qi_as (y := nI ((k / 100) % 3)) (pk_rem (a := k / 100) (d := 3) (by omega) (by omega) (by omega)) ?_
  by_cases c_1_0 : nI ((k / 100) % 3) = 0
  · skip
    refine lv_lookup (tgt := 44) hx hb dX5_isSo_19 (by decide) (by rw [c_1_0]; first | done | rfl) (by decide) ?_
    refine lv_iload_n hx hb dX5_isSo_44 rfl (lv_at hl 1 rfl) ?_
    refine lv_iload_n hx hb dX5_isSo_45 rfl (lv_at hl 0 rfl) ?_
    refine lv_icmp_ge (tgt := 53) hx hb dX5_isSo_46 (by decide) (fun c_2 => ?_) (fun c_2 => ?_)
    · skip
      refine lv_iconst (v := 0) hx hb dX5_isSo_53 (by decide) ?_
      rw [hQ]
      exact W.zret (v := 0) hx hb hr rfl (fun tQ htQ hWQ => ⟨0, rfl, by first | exact ts_a1 (sw3_0 (by assumption)) (by assumption) | exact ts_a0 (sw3_0 (by assumption)) (by assumption) | exact ts_b1 (sw3_m (by assumption)) (sw3_1 (by assumption)) (by assumption) | exact ts_b0 (sw3_m (by assumption)) (sw3_1 (by assumption)) (by assumption) | exact ts_c1 (sw3_m (by assumption)) (sw3_n (by assumption)) (by assumption) | exact ts_c0 (sw3_m (by assumption)) (sw3_n (by assumption)) (by assumption), by rw [htQ]⟩) (fun q hq => absurd hq List.not_mem_nil) dX5_isSo_54
    · skip
      refine lv_iconst (v := 1) hx hb dX5_isSo_49 (by decide) ?_
      refine lv_goto (tgt := 54) hx hb dX5_isSo_50 (by decide) ?_
      rw [hQ]
      exact W.zret (v := 1) hx hb hr rfl (fun tQ htQ hWQ => ⟨1, rfl, by first | exact ts_a1 (sw3_0 (by assumption)) (by assumption) | exact ts_a0 (sw3_0 (by assumption)) (by assumption) | exact ts_b1 (sw3_m (by assumption)) (sw3_1 (by assumption)) (by assumption) | exact ts_b0 (sw3_m (by assumption)) (sw3_1 (by assumption)) (by assumption) | exact ts_c1 (sw3_m (by assumption)) (sw3_n (by assumption)) (by assumption) | exact ts_c0 (sw3_m (by assumption)) (sw3_n (by assumption)) (by assumption), by rw [htQ]⟩) (fun q hq => absurd hq List.not_mem_nil) dX5_isSo_54
  by_cases c_1_1 : nI ((k / 100) % 3) = 1
  · skip
    refine lv_lookup (tgt := 55) hx hb dX5_isSo_19 (by decide) (by rw [c_1_1]; first | done | rfl) (by decide) ?_
    refine lv_iload_n hx hb dX5_isSo_55 rfl (lv_at hl 1 rfl) ?_
    refine lv_iload_n hx hb dX5_isSo_56 rfl (lv_at hl 0 rfl) ?_
    refine lv_icmp_ne (tgt := 64) hx hb dX5_isSo_57 (by decide) (fun c_3 => ?_) (fun c_3 => ?_)
    · skip
      refine lv_iconst (v := 0) hx hb dX5_isSo_64 (by decide) ?_
      rw [hQ]
      exact W.zret (v := 0) hx hb hr rfl (fun tQ htQ hWQ => ⟨0, rfl, by first | exact ts_a1 (sw3_0 (by assumption)) (by assumption) | exact ts_a0 (sw3_0 (by assumption)) (by assumption) | exact ts_b1 (sw3_m (by assumption)) (sw3_1 (by assumption)) (by assumption) | exact ts_b0 (sw3_m (by assumption)) (sw3_1 (by assumption)) (by assumption) | exact ts_c1 (sw3_m (by assumption)) (sw3_n (by assumption)) (by assumption) | exact ts_c0 (sw3_m (by assumption)) (sw3_n (by assumption)) (by assumption), by rw [htQ]⟩) (fun q hq => absurd hq List.not_mem_nil) dX5_isSo_65
    · skip
      refine lv_iconst (v := 1) hx hb dX5_isSo_60 (by decide) ?_
      refine lv_goto (tgt := 65) hx hb dX5_isSo_61 (by decide) ?_
      rw [hQ]
      exact W.zret (v := 1) hx hb hr rfl (fun tQ htQ hWQ => ⟨1, rfl, by first | exact ts_a1 (sw3_0 (by assumption)) (by assumption) | exact ts_a0 (sw3_0 (by assumption)) (by assumption) | exact ts_b1 (sw3_m (by assumption)) (sw3_1 (by assumption)) (by assumption) | exact ts_b0 (sw3_m (by assumption)) (sw3_1 (by assumption)) (by assumption) | exact ts_c1 (sw3_m (by assumption)) (sw3_n (by assumption)) (by assumption) | exact ts_c0 (sw3_m (by assumption)) (sw3_n (by assumption)) (by assumption), by rw [htQ]⟩) (fun q hq => absurd hq List.not_mem_nil) dX5_isSo_65
  refine lv_lookup (tgt := 66) hx hb dX5_isSo_19 (by decide) (so_out c_1_0 c_1_1) (by decide) ?_
  refine lv_iload_n hx hb dX5_isSo_66 rfl (lv_at hl 1 rfl) ?_
  refine lv_iload_n hx hb dX5_isSo_67 rfl (lv_at hl 0 rfl) ?_
  refine lv_icmp_le (tgt := 75) hx hb dX5_isSo_68 (by decide) (fun c_4 => ?_) (fun c_4 => ?_)
  · skip
    refine lv_iconst (v := 0) hx hb dX5_isSo_75 (by decide) ?_
    rw [hQ]
    exact W.zret (v := 0) hx hb hr rfl (fun tQ htQ hWQ => ⟨0, rfl, by first | exact ts_a1 (sw3_0 (by assumption)) (by assumption) | exact ts_a0 (sw3_0 (by assumption)) (by assumption) | exact ts_b1 (sw3_m (by assumption)) (sw3_1 (by assumption)) (by assumption) | exact ts_b0 (sw3_m (by assumption)) (sw3_1 (by assumption)) (by assumption) | exact ts_c1 (sw3_m (by assumption)) (sw3_n (by assumption)) (by assumption) | exact ts_c0 (sw3_m (by assumption)) (sw3_n (by assumption)) (by assumption), by rw [htQ]⟩) (fun q hq => absurd hq List.not_mem_nil) dX5_isSo_76
  · skip
    refine lv_iconst (v := 1) hx hb dX5_isSo_71 (by decide) ?_
    refine lv_goto (tgt := 76) hx hb dX5_isSo_72 (by decide) ?_
    rw [hQ]
    exact W.zret (v := 1) hx hb hr rfl (fun tQ htQ hWQ => ⟨1, rfl, by first | exact ts_a1 (sw3_0 (by assumption)) (by assumption) | exact ts_a0 (sw3_0 (by assumption)) (by assumption) | exact ts_b1 (sw3_m (by assumption)) (sw3_1 (by assumption)) (by assumption) | exact ts_b0 (sw3_m (by assumption)) (sw3_1 (by assumption)) (by assumption) | exact ts_c1 (sw3_m (by assumption)) (sw3_n (by assumption)) (by assumption) | exact ts_c0 (sw3_m (by assumption)) (sw3_n (by assumption)) (by assumption), by rw [htQ]⟩) (fun q hq => absurd hq List.not_mem_nil) dX5_isSo_76

theorem kc_holds_0 : (.fieldLink RX5 22 "MistHeaps$Hill" "ends" "[I" : Cond) ∈ wsX5_holds := kc_of 119 rfl rfl rfl
theorem kc_holds_1 : ∀ w ∈ wsX50, w ∈ wsX5_holds := fun w h => List.mem_cons_of_mem _ (gin_wsX50 w h)
theorem kc_holds_2 : (.fieldLink RX5 25 "MistHeaps$Hill" "codes" "[I" : Cond) ∈ wsX5_holds := kc_of 120 rfl rfl rfl
set_option maxHeartbeats 4000000 in
set_option maxRecDepth 100000 in
theorem c_holds (l : Launch) (dC : Nat → ClassId) (dI : Nat → Nat → Nat)  (aHl : Nat) (aFc : Nat) (bW : Nat) (bA : Nat) (bE : Nat) (bC : Nat) (cl : Nat) (j : Nat) (sg : Int32) (cdd : Int32) (szz : Int32) (att : Int32) (nmb : Int32) (cFc : ClassId) (cbW : ClassId) (cbA : ClassId) (cbE : ClassId) (cbC : ClassId) (fFc : Nat → Int32) (fbW : Nat → Int32) (fbA : Nat → Int32) (fbE : Nat → Int32) (fbC : Nat → Int32) (tpv : Value) (cz : List pCla) (hj : j < 10) (hjc : j < cl) (hj2 : ¬ (cz.getD j dfC).1 = 2) (zcl : cl ≤ 10) (zE : ∀ k0, k0 < 10 → ∃ e0 : Nat, e0 ≤ 100 ∧ fbE k0 = nI e0) (zC : ∀ k0, k0 < 100 → okC (fbC k0)) (zHC : HC cl sg fbW fbA fbE fbC cz ∧ WfC cz) : Met l yX5_holds wsX5_holds ({ frames := 1, cells := 0, slots := 0, locals := 23 } : Room) (va_Pc [.ref aHl, .int (nI j), .ref aFc] (fun U => va_P (dC, dI) vwCl [(zaI aFc cFc 6 fFc)] U.heap ∧ va_K (dC, dI) vwCl [(cFc, .int)] U ∧ Fz dC dI [(zo7iirrrriviii aHl sg (nI cl) bW bA bE bC cdd tpv szz att nmb), (zaI bW cbW 10 fbW), (zaI bA cbA 10 fbA), (zaI bE cbE 10 fbE), (zaI bC cbC 100 fbC)] [(cbW, .int), (cbA, .int), (cbE, .int), (cbC, .int)] (fun _ => False) U)) (vp_Si (fun r => r = bI (hld fFc (cz.getD j dfC).2.2))) 0 0 (fun _ => False) := by
  refine met_ofQ (cc := cX5_holds) (maxL := 7) (ret := (some .boolean)) (by decide) rfl ?_
  intro p e s m args below meth c s₁ Q B hml hv hQ
  obtain ⟨rfl, hP, hK, hZ⟩ := hv
  have hx := B.exec
  have hb := B.bytes
  have hr := B.returns
  have hts := atoms_spec (ws := wsX5_holds) B.pre
  have hown : s.vm.findClass RX5 = some m.cls := findClass_of_methodNamed B.named
  have hlocks := B.notSynchronized
  obtain ⟨A, hAe⟩ : ∃ A : Nat → Prop, A = fun _ => False := ⟨_, rfl⟩
  rw [← hAe] at hQ hZ
  have hS : va_S A s.heap s.heap [] := va_S.rf
  have hl := lv_entry [.ref aHl, .int (nI j), .ref aFc] (n := 7) (Nat.le_of_ble_eq_true rfl)
  rw [lg_entry_eq]
  generalize (lg_sl [.ref aHl, .int (nI j), .ref aFc] ++ List.replicate (7 - (lg_sl [.ref aHl, .int (nI j), .ref aFc]).length) Slot.unset).toArray = ls at hl ⊢
  generalize hag : ([.ref aHl, .int (nI j), .ref aFc] : List Value).toArray = args at hts hQ ⊢
  have hl : lv_has ls 7 [(0, .ref aHl), (1, .int (nI j)), (2, .ref aFc)] := hl
  obtain ⟨a9, g0, g1, g2, g3, g4, hGd⟩ := hd_pre zHC hjc hj2 fFc
  refine lv_iload_n hx hb dX5_holds_0 rfl (lv_at hl 1 rfl) ?_
  have J1 : ∀ v_1 : Int32, (v_1 = nI a9) → W p l e ({ frames := 1, cells := 0, slots := 0, locals := 23 } : Room) s m args below meth c s.heap [] 0 0 Q (F0 m 16 ls [.int v_1]) := by
    intro v_1 hv_2
    subst hv_2
    refine lv_istore_n (lv' := [(3, .int (nI a9)), (0, .ref aHl), (1, .int (nI j)), (2, .ref aFc)]) hx hb dX5_holds_16 rfl hl (by decide) rfl (fun ls hl => ?_)
    refine lv_iconst (v := 0) hx hb dX5_holds_17 (by decide) ?_
    refine lv_istore (lv' := [(4, .int 0), (3, .int (nI a9)), (0, .ref aHl), (1, .int (nI j)), (2, .ref aFc)]) hx hb dX5_holds_18 hl (by decide) rfl (fun ls hl => ?_)
    refine lv_iload_n hx hb dX5_holds_20 rfl (lv_at hl 1 rfl) ?_
    refine lv_istore (lv' := [(5, .int (nI a9)), (4, .int 0), (3, .int (nI a9)), (0, .ref aHl), (1, .int (nI j)), (2, .ref aFc)]) hx hb dX5_holds_21 hl (by decide) rfl (fun ls hl => ?_)
    have L23 : ∀ (nF : Nat) (t : Nat) (q : Int32), (cz.getD j dfC).2.2.length - t < nF → (t ≤ (cz.getD j dfC).2.2.length) → (q = prn fFc 0 ((cz.getD j dfC).2.2.take t)) → ∀ (ls : Array Slot), lv_has ls 7 [(0, .ref aHl), (1, .int (nI j)), (2, .ref aFc), (4, .int q), (5, .int (nI (a9 + t)))] → W p l e ({ frames := 1, cells := 0, slots := 0, locals := 23 } : Room) s m args below meth c s.heap [] 0 0 Q (F0 m 23 ls []) := by
      intro nF
      induction nF with
      | zero => intro t q hm; exact absurd hm (Nat.not_lt_zero _)
      | succ nF ih23 =>
        intro t q hm ht hq9 ls hl
        refine lv_iload hx hb dX5_holds_23 (lv_at hl 4 rfl) ?_
        refine lv_aload_n hx hb dX5_holds_25 rfl (lv_at hl 0 rfl) ?_
        refine va_get (D := (dC, dI)) (ci := 7) (v := .ref bE) (C := RX5) (T := TX5) (N := 11) hx hb hts kc_holds_1 hown hZ.2.1 (hZ.P hS) 0 rfl rfl 4 (by decide) (hts (.fieldLink RX5 22 "MistHeaps$Hill" "ends" "[I") kc_holds_0) (fun _ h9 => h9) rfl dX5_holds_26 ?_
        refine lv_iload_n hx hb dX5_holds_29 rfl (lv_at hl 1 rfl) ?_
        refine va_iald hx hb hZ.2.1 (hZ.P hS) 3 2 rfl rfl (vp_in_nI (n := j) (N := 10) (by omega) (by omega)) dX5_holds_30 ?_
        refine qi_as (y := nI (a9 + (cz.getD j dfC).2.2.length)) ((show fbE (nI j : Int32).toNatClampNeg = fbE j from by rw [nI_clamp (by omega)]).trans (g2)) ?_
        refine lv_icmp_ge (tgt := 128) hx hb dX5_holds_31 (by decide) (fun c_3 => ?_) (fun c_3 => ?_)
        · skip
          have c_3 : (a9 + (cz.getD j dfC).2.2.length) ≤ (a9 + t) := (nI_leI (a := (a9 + (cz.getD j dfC).2.2.length)) (b := (a9 + t)) (by omega) (by omega)).mp c_3
          refine lv_iload hx hb dX5_holds_128 (lv_at hl 3 rfl) ?_
          refine lv_iconst (v := 1) hx hb dX5_holds_130 (by decide) ?_
          refine lv_iand hx hb dX5_holds_131 ?_
          refine lv_iconst (v := 1) hx hb dX5_holds_132 (by decide) ?_
          refine lv_icmp_ne (tgt := 140) hx hb dX5_holds_133 (by decide) (fun c_4 => ?_) (fun c_4 => ?_)
          · skip
            refine lv_iconst (v := 0) hx hb dX5_holds_140 (by decide) ?_
            rw [hQ]
            exact W.zret (v := 0) hx hb hr rfl (fun tQ htQ hWQ => ⟨0, rfl, by first | exact hd_1 hGd hq9 (by omega) (by assumption) | exact hd_0 hGd hq9 (by omega) (by assumption), by rw [htQ]⟩) (fun q hq => absurd hq List.not_mem_nil) dX5_holds_141
          · skip
            refine lv_iconst (v := 1) hx hb dX5_holds_136 (by decide) ?_
            refine lv_goto (tgt := 141) hx hb dX5_holds_137 (by decide) ?_
            rw [hQ]
            exact W.zret (v := 1) hx hb hr rfl (fun tQ htQ hWQ => ⟨1, rfl, by first | exact hd_1 hGd hq9 (by omega) (by assumption) | exact hd_0 hGd hq9 (by omega) (by assumption), by rw [htQ]⟩) (fun q hq => absurd hq List.not_mem_nil) dX5_holds_141
        · skip
          have c_3 : ¬ (a9 + (cz.getD j dfC).2.2.length) ≤ (a9 + t) := fun q => c_3 ((nI_leI (a := (a9 + (cz.getD j dfC).2.2.length)) (b := (a9 + t)) (by omega) (by omega)).mpr q)
          refine lv_aload_n hx hb dX5_holds_34 rfl (lv_at hl 0 rfl) ?_
          refine va_get (D := (dC, dI)) (ci := 7) (v := .ref bC) (C := RX5) (T := TX5) (N := 11) hx hb hts kc_holds_1 hown hZ.2.1 (hZ.P hS) 0 rfl rfl 5 (by decide) (hts (.fieldLink RX5 25 "MistHeaps$Hill" "codes" "[I") kc_holds_2) (fun _ h9 => h9) rfl dX5_holds_35 ?_
          refine lv_iload hx hb dX5_holds_38 (lv_at hl 4 rfl) ?_
          refine va_iald hx hb hZ.2.1 (hZ.P hS) 4 3 rfl rfl (vp_in_nI (n := a9 + t) (N := 100) (by omega) (by omega)) dX5_holds_40 ?_
          obtain ⟨x0, ex⟩ : ∃ q : Int32, q = fbC (a9 + t) := ⟨_, rfl⟩
          obtain ⟨tk, etk⟩ : ∃ q : Nat, q = (cz.getD j dfC).2.2.getD t 0 := ⟨_, rfl⟩
          have ext : x0 = ccd tk := by rw [ex, etk]; exact g3 t (by omega)
          have htk : tOk tk := by rw [etk]; obtain ⟨b9, g9⟩ := hGd; exact g9.1 _ (gd_mem (by omega))
          refine qi_as (y := x0) ((show fbC (nI (a9 + t) : Int32).toNatClampNeg = fbC (a9 + t) from by rw [nI_clamp (by omega)]).trans (ex.symm)) ?_
          refine lv_istore (lv' := [(6, .int x0), (0, .ref aHl), (1, .int (nI j)), (2, .ref aFc), (4, .int q), (5, .int (nI (a9 + t)))]) hx hb dX5_holds_41 hl (by decide) rfl (fun ls hl => ?_)
          rcases htk with htk | rfl | rfl | rfl
          · skip
            obtain rfl : x0 = nI tk := ext.trans (if_pos htk)
            refine lv_iload hx hb dX5_holds_43 (lv_at hl 0 rfl) ?_
            refine lv_iconst (v := (-1)) hx hb dX5_holds_45 (by decide) ?_
            refine lv_icmp_ne (tgt := 58) hx hb dX5_holds_46 (by decide) (fun c_5 => ?_) (fun c_5 => absurd c_5 (nI_ngv (by omega) (by decide)))
            refine lv_iload hx hb dX5_holds_58 (lv_at hl 0 rfl) ?_
            refine lv_bipush (v := (-2)) hx hb dX5_holds_60 (by decide) ?_
            refine lv_icmp_ne (tgt := 80) hx hb dX5_holds_62 (by decide) (fun c_6 => ?_) (fun c_6 => absurd c_6 (nI_ngv (by omega) (by decide)))
            refine lv_iload hx hb dX5_holds_80 (lv_at hl 0 rfl) ?_
            refine lv_bipush (v := (-3)) hx hb dX5_holds_82 (by decide) ?_
            refine lv_icmp_ne (tgt := 101) hx hb dX5_holds_84 (by decide) (fun c_7 => ?_) (fun c_7 => absurd c_7 (nI_ngv (by omega) (by decide)))
            refine lv_iload hx hb dX5_holds_101 (lv_at hl 4 rfl) ?_
            refine lv_iconst (v := 1) hx hb dX5_holds_103 (by decide) ?_
            refine lv_ishl hx hb dX5_holds_104 ?_
            refine lv_iload hx hb dX5_holds_105 (lv_at hl 0 rfl) ?_
            refine lv_aload_n hx hb dX5_holds_107 rfl (lv_at hl 3 rfl) ?_
            have hPc := hP.sub (ws' := [(zaI aFc cFc 6 fFc)]) [0] rfl
            have hKc := hK.sub (tys' := [(cFc, .int)]) [0] rfl
            refine vp_callSi (va_runS (As := [.int (nI tk), .ref aFc]) (rest := [.int (q <<< (1 &&& 31))]) ⟨hx, hb, hml, hown, hts⟩ (c_isSo l dC dI aFc tk cFc fFc (htk)) (va_cwS 2 hts gX5_holds_X5_isSo rfl rfl rfl hd_yX5_isSo.2 ⟨Nat.le_of_ble_eq_true rfl, Nat.le_of_ble_eq_true rfl⟩) ⟨fun a U g mk q => by obtain ⟨q0, qP, qK⟩ := q; exact ⟨q0, mvP g mk a qP, mvK g mk a qK⟩, fun U hU hW => ⟨rfl, by rw [hU]; exact hPc, va_K.moved hW.alike hKc⟩⟩ rfl rfl hl.1 rfl (lv_room (Nat.le_of_ble_eq_true rfl)) dX5_holds_108 ⟨Nat.le_of_ble_eq_true rfl, Nat.le_of_ble_eq_true rfl⟩).run (fun r_8 hw_9 => ?_)
            rcases hb_10 : tsB fFc tk with _ | _
            · skip
              obtain rfl : r_8 = 0 := by rw [hw_9, hb_10]; rfl
              refine lv_if_eq (tgt := 118) hx hb dX5_holds_111 (by decide) (fun _ => ?_) (fun c_11 => absurd c_11 (by decide))
              refine lv_iconst (v := 0) hx hb dX5_holds_118 (by decide) ?_
              refine lv_ior hx hb dX5_holds_119 ?_
              refine lv_istore (lv' := [(4, .int ((q <<< (1 &&& 31)) ||| 0)), (6, .int (nI tk)), (0, .ref aHl), (1, .int (nI j)), (2, .ref aFc), (5, .int (nI (a9 + t)))]) hx hb dX5_holds_120 hl (by decide) rfl (fun ls hl => ?_)
              refine lv_iinc (v := nI (a9 + t + 1)) (lv' := [(5, .int (nI (a9 + t + 1))), (4, .int ((q <<< (1 &&& 31)) ||| 0)), (6, .int (nI tk)), (0, .ref aHl), (1, .int (nI j)), (2, .ref aFc)]) hx hb dX5_holds_122 hl (k := 5) rfl (nI_add (a9 + t) 1) (by decide) rfl (fun ls hl => ?_)
              refine lv_goto (tgt := 23) hx hb dX5_holds_125 (by decide) ?_
              exact ih23 (t + 1) ((q <<< (1 &&& 31)) ||| 0) (by omega) (by omega) (pr_st hq9 (by omega) etk (ps_0 htk hb_10)) ls (lv_sub hl [3, 4, 5, 1, 0] rfl)
            · skip
              obtain rfl : r_8 = 1 := by rw [hw_9, hb_10]; rfl
              refine lv_if_eq (tgt := 118) hx hb dX5_holds_111 (by decide) (fun c_12 => absurd c_12 (by decide)) (fun _ => ?_)
              refine lv_iconst (v := 1) hx hb dX5_holds_114 (by decide) ?_
              refine lv_goto (tgt := 119) hx hb dX5_holds_115 (by decide) ?_
              refine lv_ior hx hb dX5_holds_119 ?_
              refine lv_istore (lv' := [(4, .int ((q <<< (1 &&& 31)) ||| 1)), (6, .int (nI tk)), (0, .ref aHl), (1, .int (nI j)), (2, .ref aFc), (5, .int (nI (a9 + t)))]) hx hb dX5_holds_120 hl (by decide) rfl (fun ls hl => ?_)
              refine lv_iinc (v := nI (a9 + t + 1)) (lv' := [(5, .int (nI (a9 + t + 1))), (4, .int ((q <<< (1 &&& 31)) ||| 1)), (6, .int (nI tk)), (0, .ref aHl), (1, .int (nI j)), (2, .ref aFc)]) hx hb dX5_holds_122 hl (k := 5) rfl (nI_add (a9 + t) 1) (by decide) rfl (fun ls hl => ?_)
              refine lv_goto (tgt := 23) hx hb dX5_holds_125 (by decide) ?_
              exact ih23 (t + 1) ((q <<< (1 &&& 31)) ||| 1) (by omega) (by omega) (pr_st hq9 (by omega) etk (ps_1 htk hb_10)) ls (lv_sub hl [3, 4, 5, 1, 0] rfl)
          · skip
            have e8 : x0 = (-1) := ext.trans (by decide)
            subst e8
            refine lv_iload hx hb dX5_holds_43 (lv_at hl 0 rfl) ?_
            refine lv_iconst (v := (-1)) hx hb dX5_holds_45 (by decide) ?_
            refine lv_icmp_ne (tgt := 58) hx hb dX5_holds_46 (by decide) (fun c_13 => absurd c_13 (by decide)) (fun _ => ?_)
            refine lv_iload hx hb dX5_holds_49 (lv_at hl 4 rfl) ?_
            refine lv_iconst (v := 1) hx hb dX5_holds_51 (by decide) ?_
            refine lv_ixor hx hb dX5_holds_52 ?_
            refine lv_istore (lv' := [(4, .int (q ^^^ 1)), (6, .int (-1)), (0, .ref aHl), (1, .int (nI j)), (2, .ref aFc), (5, .int (nI (a9 + t)))]) hx hb dX5_holds_53 hl (by decide) rfl (fun ls hl => ?_)
            refine lv_goto (tgt := 122) hx hb dX5_holds_55 (by decide) ?_
            refine lv_iinc (v := nI (a9 + t + 1)) (lv' := [(5, .int (nI (a9 + t + 1))), (4, .int (q ^^^ 1)), (6, .int (-1)), (0, .ref aHl), (1, .int (nI j)), (2, .ref aFc)]) hx hb dX5_holds_122 hl (k := 5) rfl (nI_add (a9 + t) 1) (by decide) rfl (fun ls hl => ?_)
            refine lv_goto (tgt := 23) hx hb dX5_holds_125 (by decide) ?_
            exact ih23 (t + 1) (q ^^^ 1) (by omega) (by omega) (pr_st hq9 (by omega) etk (ps_n)) ls (lv_sub hl [3, 4, 5, 1, 0] rfl)
          · skip
            have e8 : x0 = (-2) := ext.trans (by decide)
            subst e8
            refine lv_iload hx hb dX5_holds_43 (lv_at hl 0 rfl) ?_
            refine lv_iconst (v := (-1)) hx hb dX5_holds_45 (by decide) ?_
            refine lv_icmp_ne (tgt := 58) hx hb dX5_holds_46 (by decide) (fun _ => ?_) (fun c_14 => absurd c_14 (by decide))
            refine lv_iload hx hb dX5_holds_58 (lv_at hl 0 rfl) ?_
            refine lv_bipush (v := (-2)) hx hb dX5_holds_60 (by decide) ?_
            refine lv_icmp_ne (tgt := 80) hx hb dX5_holds_62 (by decide) (fun c_15 => absurd c_15 (by decide)) (fun _ => ?_)
            refine lv_iload hx hb dX5_holds_65 (lv_at hl 4 rfl) ?_
            refine lv_iconst (v := 1) hx hb dX5_holds_67 (by decide) ?_
            refine lv_ishr hx hb dX5_holds_68 ?_
            refine lv_iload hx hb dX5_holds_69 (lv_at hl 4 rfl) ?_
            refine lv_bipush (v := (-2)) hx hb dX5_holds_71 (by decide) ?_
            refine lv_ior hx hb dX5_holds_73 ?_
            refine lv_iand hx hb dX5_holds_74 ?_
            refine lv_istore (lv' := [(4, .int ((q >>> (1 &&& 31)) &&& (q ||| (-2)))), (6, .int (-2)), (0, .ref aHl), (1, .int (nI j)), (2, .ref aFc), (5, .int (nI (a9 + t)))]) hx hb dX5_holds_75 hl (by decide) rfl (fun ls hl => ?_)
            refine lv_goto (tgt := 122) hx hb dX5_holds_77 (by decide) ?_
            refine lv_iinc (v := nI (a9 + t + 1)) (lv' := [(5, .int (nI (a9 + t + 1))), (4, .int ((q >>> (1 &&& 31)) &&& (q ||| (-2)))), (6, .int (-2)), (0, .ref aHl), (1, .int (nI j)), (2, .ref aFc)]) hx hb dX5_holds_122 hl (k := 5) rfl (nI_add (a9 + t) 1) (by decide) rfl (fun ls hl => ?_)
            refine lv_goto (tgt := 23) hx hb dX5_holds_125 (by decide) ?_
            exact ih23 (t + 1) ((q >>> (1 &&& 31)) &&& (q ||| (-2))) (by omega) (by omega) (pr_st hq9 (by omega) etk (ps_a)) ls (lv_sub hl [3, 4, 5, 1, 0] rfl)
          · skip
            have e8 : x0 = (-3) := ext.trans (by decide)
            subst e8
            refine lv_iload hx hb dX5_holds_43 (lv_at hl 0 rfl) ?_
            refine lv_iconst (v := (-1)) hx hb dX5_holds_45 (by decide) ?_
            refine lv_icmp_ne (tgt := 58) hx hb dX5_holds_46 (by decide) (fun _ => ?_) (fun c_16 => absurd c_16 (by decide))
            refine lv_iload hx hb dX5_holds_58 (lv_at hl 0 rfl) ?_
            refine lv_bipush (v := (-2)) hx hb dX5_holds_60 (by decide) ?_
            refine lv_icmp_ne (tgt := 80) hx hb dX5_holds_62 (by decide) (fun _ => ?_) (fun c_17 => absurd c_17 (by decide))
            refine lv_iload hx hb dX5_holds_80 (lv_at hl 0 rfl) ?_
            refine lv_bipush (v := (-3)) hx hb dX5_holds_82 (by decide) ?_
            refine lv_icmp_ne (tgt := 101) hx hb dX5_holds_84 (by decide) (fun c_18 => absurd c_18 (by decide)) (fun _ => ?_)
            refine lv_iload hx hb dX5_holds_87 (lv_at hl 4 rfl) ?_
            refine lv_iconst (v := 1) hx hb dX5_holds_89 (by decide) ?_
            refine lv_ishr hx hb dX5_holds_90 ?_
            refine lv_iload hx hb dX5_holds_91 (lv_at hl 4 rfl) ?_
            refine lv_iconst (v := 1) hx hb dX5_holds_93 (by decide) ?_
            refine lv_iand hx hb dX5_holds_94 ?_
            refine lv_ior hx hb dX5_holds_95 ?_
            refine lv_istore (lv' := [(4, .int ((q >>> (1 &&& 31)) ||| (q &&& 1))), (6, .int (-3)), (0, .ref aHl), (1, .int (nI j)), (2, .ref aFc), (5, .int (nI (a9 + t)))]) hx hb dX5_holds_96 hl (by decide) rfl (fun ls hl => ?_)
            refine lv_goto (tgt := 122) hx hb dX5_holds_98 (by decide) ?_
            refine lv_iinc (v := nI (a9 + t + 1)) (lv' := [(5, .int (nI (a9 + t + 1))), (4, .int ((q >>> (1 &&& 31)) ||| (q &&& 1))), (6, .int (-3)), (0, .ref aHl), (1, .int (nI j)), (2, .ref aFc)]) hx hb dX5_holds_122 hl (k := 5) rfl (nI_add (a9 + t) 1) (by decide) rfl (fun ls hl => ?_)
            refine lv_goto (tgt := 23) hx hb dX5_holds_125 (by decide) ?_
            exact ih23 (t + 1) ((q >>> (1 &&& 31)) ||| (q &&& 1)) (by omega) (by omega) (pr_st hq9 (by omega) etk (ps_o)) ls (lv_sub hl [3, 4, 5, 1, 0] rfl)
    exact L23 _ (0) (0) (Nat.lt_succ_self _) (by omega) (rfl) ls (lv_sub hl [3, 4, 5, 1, 0] rfl)
  refine lv_if_ne (tgt := 8) hx hb dX5_holds_1 (by decide) (fun c_19 => ?_) (fun c_19 => ?_)
  · skip
    have c_19 : ¬ j = 0 := fun q => c_19 ((nI_eq (a := j) (b := 0) (by omega) (by omega)).mpr q)
    refine lv_aload_n hx hb dX5_holds_8 rfl (lv_at hl 0 rfl) ?_
    refine va_get (D := (dC, dI)) (ci := 7) (v := .ref bE) (C := RX5) (T := TX5) (N := 11) hx hb hts kc_holds_1 hown hZ.2.1 (hZ.P hS) 0 rfl rfl 4 (by decide) (hts (.fieldLink RX5 22 "MistHeaps$Hill" "ends" "[I") kc_holds_0) (fun _ h9 => h9) rfl dX5_holds_9 ?_
    refine lv_iload_n hx hb dX5_holds_12 rfl (lv_at hl 1 rfl) ?_
    refine lv_iconst (v := 1) hx hb dX5_holds_13 (by decide) ?_
    refine lv_isub hx hb dX5_holds_14 ?_
    refine qi_as (y := nI (j - 1)) (pk_sub (a := j) (b := 1) (by omega)) ?_
    refine va_iald hx hb hZ.2.1 (hZ.P hS) 3 2 rfl rfl (vp_in_nI (n := j - 1) (N := 10) (by omega) (by omega)) dX5_holds_15 ?_
    refine qi_as (y := nI a9) ((show fbE (nI (j - 1) : Int32).toNatClampNeg = fbE (j - 1) from by rw [nI_clamp (by omega)]).trans (g1 (by omega))) ?_
    exact J1 (nI a9) (rfl)
  · skip
    have c_19 : j = 0 := (nI_eq (a := j) (b := 0) (by omega) (by omega)).mp c_19
    refine lv_iconst (v := 0) hx hb dX5_holds_4 (by decide) ?_
    refine lv_goto (tgt := 16) hx hb dX5_holds_5 (by decide) ?_
    exact J1 0 (by rw [g0 (by omega)]; rfl)

theorem kc_total_0 : (.fieldLink RX5 59 "MistHeaps$Hill" "clauses" "I" : Cond) ∈ wsX5_total := kc_of 116 rfl rfl rfl
theorem kc_total_1 : ∀ w ∈ wsX50, w ∈ wsX5_total := fun w h => List.mem_cons_of_mem _ (gin_wsX50 w h)
theorem kc_total_2 : (.fieldLink RX5 15 "MistHeaps$Hill" "words" "[I" : Cond) ∈ wsX5_total := kc_of 117 rfl rfl rfl
theorem kc_total_3 : (.fieldLink RX5 19 "MistHeaps$Hill" "amounts" "[I" : Cond) ∈ wsX5_total := kc_of 118 rfl rfl rfl
set_option maxHeartbeats 4000000 in
set_option maxRecDepth 100000 in
theorem c_total (l : Launch) (dC : Nat → ClassId) (dI : Nat → Nat → Nat)  (aHl : Nat) (aFc : Nat) (bW : Nat) (bA : Nat) (bE : Nat) (bC : Nat) (cl : Nat) (sg : Int32) (cdd : Int32) (szz : Int32) (att : Int32) (nmb : Int32) (cFc : ClassId) (cbW : ClassId) (cbA : ClassId) (cbE : ClassId) (cbC : ClassId) (fFc : Nat → Int32) (fbW : Nat → Int32) (fbA : Nat → Int32) (fbE : Nat → Int32) (fbC : Nat → Int32) (tpv : Value) (cz : List pCla) (w0 : Nat) (hw0 : w0 < 4 ∧ ¬ w0 = 2) (zcl : cl ≤ 10) (zE : ∀ k0, k0 < 10 → ∃ e0 : Nat, e0 ≤ 100 ∧ fbE k0 = nI e0) (zC : ∀ k0, k0 < 100 → okC (fbC k0)) (zHC : HC cl sg fbW fbA fbE fbC cz ∧ WfC cz) : Met l yX5_total wsX5_total ({ frames := 2, cells := 0, slots := 0, locals := 49 } : Room) (va_Pc [.ref aHl, .int (nI w0), .ref aFc] (fun U => va_P (dC, dI) vwCl [(zaI aFc cFc 6 fFc)] U.heap ∧ va_K (dC, dI) vwCl [(cFc, .int)] U ∧ Fz dC dI [(zo7iirrrriviii aHl sg (nI cl) bW bA bE bC cdd tpv szz att nmb), (zaI bW cbW 10 fbW), (zaI bA cbA 10 fbA), (zaI bE cbE 10 fbE), (zaI bC cbC 100 fbC)] [(cbW, .int), (cbA, .int), (cbE, .int), (cbC, .int)] (fun _ => False) U)) (vp_Si (fun r => r = tot fFc w0 cz)) 0 0 (fun _ => False) := by
  refine met_ofQ (cc := cX5_total) (maxL := 5) (ret := (some .int)) (by decide) rfl ?_
  intro p e s m args below meth c s₁ Q B hml hv hQ
  obtain ⟨rfl, hP, hK, hZ⟩ := hv
  have hx := B.exec
  have hb := B.bytes
  have hr := B.returns
  have hts := atoms_spec (ws := wsX5_total) B.pre
  have hown : s.vm.findClass RX5 = some m.cls := findClass_of_methodNamed B.named
  have hlocks := B.notSynchronized
  obtain ⟨A, hAe⟩ : ∃ A : Nat → Prop, A = fun _ => False := ⟨_, rfl⟩
  rw [← hAe] at hQ hZ
  have hS : va_S A s.heap s.heap [] := va_S.rf
  have hl := lv_entry [.ref aHl, .int (nI w0), .ref aFc] (n := 5) (Nat.le_of_ble_eq_true rfl)
  rw [lg_entry_eq]
  generalize (lg_sl [.ref aHl, .int (nI w0), .ref aFc] ++ List.replicate (5 - (lg_sl [.ref aHl, .int (nI w0), .ref aFc]).length) Slot.unset).toArray = ls at hl ⊢
  generalize hag : ([.ref aHl, .int (nI w0), .ref aFc] : List Value).toArray = args at hts hQ ⊢
  have hl : lv_has ls 5 [(0, .ref aHl), (1, .int (nI w0)), (2, .ref aFc)] := hl
  refine lv_iconst (v := 0) hx hb dX5_total_0 (by decide) ?_
  refine lv_istore_n (lv' := [(3, .int 0), (0, .ref aHl), (1, .int (nI w0)), (2, .ref aFc)]) hx hb dX5_total_1 rfl hl (by decide) rfl (fun ls hl => ?_)
  refine lv_iconst (v := 0) hx hb dX5_total_2 (by decide) ?_
  refine lv_istore (lv' := [(4, .int 0), (3, .int 0), (0, .ref aHl), (1, .int (nI w0)), (2, .ref aFc)]) hx hb dX5_total_3 hl (by decide) rfl (fun ls hl => ?_)
  have L5 : ∀ (nF : Nat) (i : Nat) (q : Int32), cl - i < nF → (i ≤ cl) → (q + tot fFc w0 (cz.drop i) = tot fFc w0 cz) → ∀ (ls : Array Slot), lv_has ls 5 [(0, .ref aHl), (1, .int (nI w0)), (2, .ref aFc), (3, .int q), (4, .int (nI i))] → W p l e ({ frames := 2, cells := 0, slots := 0, locals := 49 } : Room) s m args below meth c s.heap [] 0 0 Q (F0 m 5 ls []) := by
    intro nF
    induction nF with
    | zero => intro i q hm; exact absurd hm (Nat.not_lt_zero _)
    | succ nF ih5 =>
      intro i q hm hi hq9 ls hl
      refine lv_iload hx hb dX5_total_5 (lv_at hl 4 rfl) ?_
      refine lv_aload_n hx hb dX5_total_7 rfl (lv_at hl 0 rfl) ?_
      refine va_get (D := (dC, dI)) (ci := 7) (v := .int (nI cl)) (C := RX5) (T := TX5) (N := 11) hx hb hts kc_total_1 hown hZ.2.1 (hZ.P hS) 0 rfl rfl 1 (by decide) (hts (.fieldLink RX5 59 "MistHeaps$Hill" "clauses" "I") kc_total_0) (fun _ h9 => h9) rfl dX5_total_8 ?_
      refine lv_icmp_ge (tgt := 51) hx hb dX5_total_11 (by decide) (fun c_1 => ?_) (fun c_1 => ?_)
      · skip
        have c_1 : cl ≤ i := (nI_leI (a := cl) (b := i) (by omega) (by omega)).mp c_1
        refine lv_iload_n hx hb dX5_total_51 rfl (lv_at hl 3 rfl) ?_
        rw [hQ]
        exact W.iret (v := q) hx hb hr (fun tQ htQ hWQ => ⟨q, rfl, tt_e hq9 (by have := zHC.1.1; omega), by rw [htQ]⟩) (fun q hq => absurd hq List.not_mem_nil) dX5_total_52
      · skip
        have c_1 : ¬ cl ≤ i := fun q => c_1 ((nI_leI (a := cl) (b := i) (by omega) (by omega)).mpr q)
        refine lv_aload_n hx hb dX5_total_14 rfl (lv_at hl 0 rfl) ?_
        refine va_get (D := (dC, dI)) (ci := 7) (v := .ref bW) (C := RX5) (T := TX5) (N := 11) hx hb hts kc_total_1 hown hZ.2.1 (hZ.P hS) 0 rfl rfl 2 (by decide) (hts (.fieldLink RX5 15 "MistHeaps$Hill" "words" "[I") kc_total_2) (fun _ h9 => h9) rfl dX5_total_15 ?_
        refine lv_iload hx hb dX5_total_18 (lv_at hl 4 rfl) ?_
        refine va_iald hx hb hZ.2.1 (hZ.P hS) 1 0 rfl rfl (vp_in_nI (n := i) (N := 10) (by omega) (by omega)) dX5_total_20 ?_
        have hlc : cz.length = cl := zHC.1.1
        have hw4 := (zHC.2 _ (gC_mem (show i < cz.length by omega))).1
        refine qi_as (y := nI ((cz.getD i dfC).1)) ((show fbW (nI i : Int32).toNatClampNeg = fbW i from by rw [nI_clamp (by omega)]).trans ((zHC.1.2.2.1 i (by omega)).1)) ?_
        refine lv_iload_n hx hb dX5_total_21 rfl (lv_at hl 1 rfl) ?_
        refine lv_icmp_ne (tgt := 45) hx hb dX5_total_22 (by decide) (fun c_2 => ?_) (fun c_2 => ?_)
        · skip
          have c_2 : ¬ ((cz.getD i dfC).1) = w0 := fun q => c_2 ((nI_eq (a := ((cz.getD i dfC).1)) (b := w0) (by omega) (by omega)).mpr q)
          refine lv_iinc (v := nI (i + 1)) (lv' := [(4, .int (nI (i + 1))), (0, .ref aHl), (1, .int (nI w0)), (2, .ref aFc), (3, .int q)]) hx hb dX5_total_45 hl (k := 4) rfl (nI_add i 1) (by decide) rfl (fun ls hl => ?_)
          refine lv_goto (tgt := 5) hx hb dX5_total_48 (by decide) ?_
          exact ih5 (i + 1) (q) (by omega) (by omega) (tt_n hq9 (by omega) c_2) ls (lv_sub hl [1, 2, 3, 4, 0] rfl)
        · skip
          have c_2 : ((cz.getD i dfC).1) = w0 := (nI_eq (a := ((cz.getD i dfC).1)) (b := w0) (by omega) (by omega)).mp c_2
          refine lv_aload_n hx hb dX5_total_25 rfl (lv_at hl 0 rfl) ?_
          refine lv_iload hx hb dX5_total_26 (lv_at hl 4 rfl) ?_
          refine lv_aload_n hx hb dX5_total_28 rfl (lv_at hl 2 rfl) ?_
          have hPc := hP.sub (ws' := [(zaI aFc cFc 6 fFc)]) [0] rfl
          have hKc := hK.sub (tys' := [(cFc, .int)]) [0] rfl
          refine vp_callSi (va_runV (As := [.int (nI i), .ref aFc]) (rest := []) ⟨hx, hb, hml, hown, hts⟩ (c_holds l dC dI  aHl aFc bW bA bE bC cl i sg cdd szz att nmb cFc cbW cbA cbE cbC fFc fbW fbA fbE fbC tpv cz (by omega) (by omega) (by omega) (zcl) (zE) (zC) (zHC)) (cwV 2 hts gX5_total_X5_holds rfl rfl rfl hd_yX5_holds ⟨Nat.le_of_ble_eq_true rfl, Nat.le_of_ble_eq_true rfl⟩) ⟨fun a U g mk q => by obtain ⟨q0, qP, qK, qhZ⟩ := q; exact ⟨q0, mvP g mk a qP, mvK g mk a qK, qhZ.mv g mk a⟩, va_recv hZ.2.1 (hZ.P hS) (ci := 7) (q := (RX5, TX5, 11)) (q0 := 0) rfl rfl, fun U hU hW => ⟨rfl, by rw [hU]; exact hPc, va_K.moved hW.alike hKc, (hZ.sub [0, 1, 2, 3, 4] [0, 1, 2, 3] rfl rfl).callF hS hU hW⟩⟩ rfl rfl hl.1 rfl (lv_room (Nat.le_of_ble_eq_true rfl)) dX5_total_29 ⟨Nat.le_of_ble_eq_true rfl, Nat.le_of_ble_eq_true rfl⟩).run (fun r_3 hw_4 => ?_)
          rcases hb_5 : hld fFc (cz.getD i dfC).2.2 with _ | _
          · skip
            obtain rfl : r_3 = 0 := by rw [hw_4, hb_5]; rfl
            refine lv_if_eq (tgt := 45) hx hb dX5_total_32 (by decide) (fun _ => ?_) (fun c_6 => absurd c_6 (by decide))
            refine lv_iinc (v := nI (i + 1)) (lv' := [(4, .int (nI (i + 1))), (0, .ref aHl), (1, .int (nI w0)), (2, .ref aFc), (3, .int q)]) hx hb dX5_total_45 hl (k := 4) rfl (nI_add i 1) (by decide) rfl (fun ls hl => ?_)
            refine lv_goto (tgt := 5) hx hb dX5_total_48 (by decide) ?_
            exact ih5 (i + 1) (q) (by omega) (by omega) (tt_0 hq9 (by omega) hb_5) ls (lv_sub hl [1, 2, 3, 4, 0] rfl)
          · skip
            obtain rfl : r_3 = 1 := by rw [hw_4, hb_5]; rfl
            refine lv_if_eq (tgt := 45) hx hb dX5_total_32 (by decide) (fun c_7 => absurd c_7 (by decide)) (fun _ => ?_)
            refine lv_iload_n hx hb dX5_total_35 rfl (lv_at hl 3 rfl) ?_
            refine lv_aload_n hx hb dX5_total_36 rfl (lv_at hl 0 rfl) ?_
            refine va_get (D := (dC, dI)) (ci := 7) (v := .ref bA) (C := RX5) (T := TX5) (N := 11) hx hb hts kc_total_1 hown hZ.2.1 (hZ.P hS) 0 rfl rfl 3 (by decide) (hts (.fieldLink RX5 19 "MistHeaps$Hill" "amounts" "[I") kc_total_3) (fun _ h9 => h9) rfl dX5_total_37 ?_
            refine lv_iload hx hb dX5_total_40 (lv_at hl 4 rfl) ?_
            refine va_iald hx hb hZ.2.1 (hZ.P hS) 2 1 rfl rfl (vp_in_nI (n := i) (N := 10) (by omega) (by omega)) dX5_total_42 ?_
            refine qi_as (y := nI ((cz.getD i dfC).2.1)) ((show fbA (nI i : Int32).toNatClampNeg = fbA i from by rw [nI_clamp (by omega)]).trans ((zHC.1.2.2.1 i (by omega)).2.1)) ?_
            refine lv_iadd hx hb dX5_total_43 ?_
            refine lv_istore_n (lv' := [(3, .int (q + (nI ((cz.getD i dfC).2.1)))), (0, .ref aHl), (1, .int (nI w0)), (2, .ref aFc), (4, .int (nI i))]) hx hb dX5_total_44 rfl hl (by decide) rfl (fun ls hl => ?_)
            refine lv_iinc (v := nI (i + 1)) (lv' := [(4, .int (nI (i + 1))), (3, .int (q + (nI ((cz.getD i dfC).2.1)))), (0, .ref aHl), (1, .int (nI w0)), (2, .ref aFc)]) hx hb dX5_total_45 hl (k := 4) rfl (nI_add i 1) (by decide) rfl (fun ls hl => ?_)
            refine lv_goto (tgt := 5) hx hb dX5_total_48 (by decide) ?_
            exact ih5 (i + 1) (q + (nI ((cz.getD i dfC).2.1))) (by omega) (by omega) (tt_1 hq9 (by omega) c_2 hb_5) ls (lv_sub hl [2, 3, 4, 1, 0] rfl)
  exact L5 _ (0) (0) (Nat.lt_succ_self _) (by omega) (Int32.zero_add _) ls (lv_sub hl [2, 3, 4, 1, 0] rfl)
end mg13a
section mg13a
theorem ggX4_reachBy_X3_reachBy : GoodIn wsX4_reachBy wsX3_reachBy := gga_of 683 rfl rfl rfl
theorem gX4_reachBy_X3_reachBy_s13 : GoodIn wsX4_reachBy (va_wsSU RX4 13 yX3_reachBy wsX3_reachBy) := goodIn_app (ggh_of [666, 661, 567, 659, 67] rfl rfl rfl) ggX4_reachBy_X3_reachBy
theorem ggX6_reachBy_X3_reachBy : GoodIn wsX6_reachBy wsX3_reachBy := gga_of 683 rfl rfl rfl
theorem gX6_reachBy_X3_reachBy_s7 : GoodIn wsX6_reachBy (va_wsSU RX6 7 yX3_reachBy wsX3_reachBy) := goodIn_app (ggh_of [670, 661, 578, 659, 67] rfl rfl rfl) ggX6_reachBy_X3_reachBy
theorem ggX9_reachBy_X6_reachBy : GoodIn wsX9_reachBy wsX6_reachBy := gga_of 669 rfl rfl rfl
theorem gX9_reachBy_X6_reachBy_s13 : GoodIn wsX9_reachBy (va_wsSU RX9 13 yX6_reachBy wsX6_reachBy) := goodIn_app (ggh_of [681, 1542, 611, 668, 82] rfl rfl rfl) ggX9_reachBy_X6_reachBy
noncomputable def dk14creach_cX3_reachBy_0 : List (Nat × List Nat) := [(0, [3]), (1, [27]), (2, [184, 0, 28]), (5, [172])]
set_option maxRecDepth 100000 in
theorem dk14creach_cX3_reachBy_0_a : btA cX3_reachBy dk14creach_cX3_reachBy_0 = true := by decide +kernel
theorem dX3_reachBy_0 : decode cX3_reachBy 0 = .ok (.iconst 0, 1) := bd3 (btAt dk14creach_cX3_reachBy_0_a 0 rfl)
theorem dX3_reachBy_1 : decode cX3_reachBy 1 = .ok (.iload_n 1, 1) := bd27 (btAt dk14creach_cX3_reachBy_0_a 1 rfl)
theorem dX3_reachBy_2 : decode cX3_reachBy 2 = .ok (.invokestatic 28, 3) := bd184 (a := 0) (b := 28) (btAt dk14creach_cX3_reachBy_0_a 2 rfl)
theorem dX3_reachBy_5 : decode cX3_reachBy 5 = .ok (.ireturn, 1) := bd172 (btAt dk14creach_cX3_reachBy_0_a 3 rfl)
noncomputable def dk14creach_cX4_reachBy_0 : List (Nat × List Nat) := [(0, [42]), (1, [27]), (2, [42]), (3, [180, 0, 7]), (6, [6]), (7, [108]), (8, [96]), (9, [28]), (10, [183, 0, 13]), (13, [172])]
set_option maxRecDepth 100000 in
theorem dk14creach_cX4_reachBy_0_a : btA cX4_reachBy dk14creach_cX4_reachBy_0 = true := by decide +kernel
theorem dX4_reachBy_0 : decode cX4_reachBy 0 = .ok (.aload_n 0, 1) := bd42 (btAt dk14creach_cX4_reachBy_0_a 0 rfl)
theorem dX4_reachBy_1 : decode cX4_reachBy 1 = .ok (.iload_n 1, 1) := bd27 (btAt dk14creach_cX4_reachBy_0_a 1 rfl)
theorem dX4_reachBy_2 : decode cX4_reachBy 2 = .ok (.aload_n 0, 1) := bd42 (btAt dk14creach_cX4_reachBy_0_a 2 rfl)
theorem dX4_reachBy_3 : decode cX4_reachBy 3 = .ok (.getfield 7, 3) := bd180 (a := 0) (b := 7) (btAt dk14creach_cX4_reachBy_0_a 3 rfl)
theorem dX4_reachBy_6 : decode cX4_reachBy 6 = .ok (.iconst 3, 1) := bd6 (btAt dk14creach_cX4_reachBy_0_a 4 rfl)
theorem dX4_reachBy_7 : decode cX4_reachBy 7 = .ok (.idiv, 1) := bd108 (btAt dk14creach_cX4_reachBy_0_a 5 rfl)
theorem dX4_reachBy_8 : decode cX4_reachBy 8 = .ok (.iadd, 1) := bd96 (btAt dk14creach_cX4_reachBy_0_a 6 rfl)
theorem dX4_reachBy_9 : decode cX4_reachBy 9 = .ok (.iload_n 2, 1) := bd28 (btAt dk14creach_cX4_reachBy_0_a 7 rfl)
theorem dX4_reachBy_10 : decode cX4_reachBy 10 = .ok (.invokespecial 13, 3) := bd183 (a := 0) (b := 13) (btAt dk14creach_cX4_reachBy_0_a 8 rfl)
theorem dX4_reachBy_13 : decode cX4_reachBy 13 = .ok (.ireturn, 1) := bd172 (btAt dk14creach_cX4_reachBy_0_a 9 rfl)
noncomputable def dk14creach_cX6_reachBy_0 : List (Nat × List Nat) := [(0, [42]), (1, [27]), (2, [4]), (3, [100]), (4, [28]), (5, [183, 0, 7]), (8, [172])]
set_option maxRecDepth 100000 in
theorem dk14creach_cX6_reachBy_0_a : btA cX6_reachBy dk14creach_cX6_reachBy_0 = true := by decide +kernel
theorem dX6_reachBy_0 : decode cX6_reachBy 0 = .ok (.aload_n 0, 1) := bd42 (btAt dk14creach_cX6_reachBy_0_a 0 rfl)
theorem dX6_reachBy_1 : decode cX6_reachBy 1 = .ok (.iload_n 1, 1) := bd27 (btAt dk14creach_cX6_reachBy_0_a 1 rfl)
theorem dX6_reachBy_2 : decode cX6_reachBy 2 = .ok (.iconst 1, 1) := bd4 (btAt dk14creach_cX6_reachBy_0_a 2 rfl)
theorem dX6_reachBy_3 : decode cX6_reachBy 3 = .ok (.isub, 1) := bd100 (btAt dk14creach_cX6_reachBy_0_a 3 rfl)
theorem dX6_reachBy_4 : decode cX6_reachBy 4 = .ok (.iload_n 2, 1) := bd28 (btAt dk14creach_cX6_reachBy_0_a 4 rfl)
theorem dX6_reachBy_5 : decode cX6_reachBy 5 = .ok (.invokespecial 7, 3) := bd183 (a := 0) (b := 7) (btAt dk14creach_cX6_reachBy_0_a 5 rfl)
theorem dX6_reachBy_8 : decode cX6_reachBy 8 = .ok (.ireturn, 1) := bd172 (btAt dk14creach_cX6_reachBy_0_a 6 rfl)
noncomputable def dk14creach_cX9_reachBy_0 : List (Nat × List Nat) := [(0, [28]), (1, [42]), (2, [180, 0, 7]), (5, [164, 0, 7]), (8, [3]), (9, [167, 0, 9]), (12, [42]), (13, [27]), (14, [28]), (15, [183, 0, 13]), (18, [172])]
set_option maxRecDepth 100000 in
theorem dk14creach_cX9_reachBy_0_a : btA cX9_reachBy dk14creach_cX9_reachBy_0 = true := by decide +kernel
theorem dX9_reachBy_0 : decode cX9_reachBy 0 = .ok (.iload_n 2, 1) := bd28 (btAt dk14creach_cX9_reachBy_0_a 0 rfl)
theorem dX9_reachBy_1 : decode cX9_reachBy 1 = .ok (.aload_n 0, 1) := bd42 (btAt dk14creach_cX9_reachBy_0_a 1 rfl)
theorem dX9_reachBy_2 : decode cX9_reachBy 2 = .ok (.getfield 7, 3) := bd180 (a := 0) (b := 7) (btAt dk14creach_cX9_reachBy_0_a 2 rfl)
theorem dX9_reachBy_5 : decode cX9_reachBy 5 = .ok (.if_icmp .le 7, 3) := bd164 (a := 0) (b := 7) (btAt dk14creach_cX9_reachBy_0_a 3 rfl)
theorem dX9_reachBy_8 : decode cX9_reachBy 8 = .ok (.iconst 0, 1) := bd3 (btAt dk14creach_cX9_reachBy_0_a 4 rfl)
theorem dX9_reachBy_9 : decode cX9_reachBy 9 = .ok (.goto 9, 3) := bd167 (a := 0) (b := 9) (btAt dk14creach_cX9_reachBy_0_a 5 rfl)
theorem dX9_reachBy_12 : decode cX9_reachBy 12 = .ok (.aload_n 0, 1) := bd42 (btAt dk14creach_cX9_reachBy_0_a 6 rfl)
theorem dX9_reachBy_13 : decode cX9_reachBy 13 = .ok (.iload_n 1, 1) := bd27 (btAt dk14creach_cX9_reachBy_0_a 7 rfl)
theorem dX9_reachBy_14 : decode cX9_reachBy 14 = .ok (.iload_n 2, 1) := bd28 (btAt dk14creach_cX9_reachBy_0_a 8 rfl)
theorem dX9_reachBy_15 : decode cX9_reachBy 15 = .ok (.invokespecial 13, 3) := bd183 (a := 0) (b := 13) (btAt dk14creach_cX9_reachBy_0_a 9 rfl)
theorem dX9_reachBy_18 : decode cX9_reachBy 18 = .ok (.ireturn, 1) := bd172 (btAt dk14creach_cX9_reachBy_0_a 10 rfl)
theorem kc_reach3_X1_0 : (.methodLink RX3 28 Lib.Math.max.name : Cond) ∈ wsX3_reachBy := kc_of 684 rfl rfl rfl
theorem kc_reach3_X1_1 : (.static Lib.Math.max.name : Cond) ∈ wsX3_reachBy := kc_of 426 rfl rfl rfl
theorem kc_reach3_X1_2 : (.initialized "java/lang/Math" : Cond) ∈ wsX3_reachBy := kc_of 77 rfl rfl rfl
theorem kc_reach3_X1_3 : (.code Lib.Math.max.name Lib.Math.max.code 2 (some .int) : Cond) ∈ wsX3_reachBy := kc_of 427 rfl rfl rfl
set_option maxHeartbeats 4000000 in
set_option maxRecDepth 100000 in
theorem c_reach3_X1 (l : Launch) (dC : Nat → ClassId) (dI : Nat → Nat → Nat)  (i0 : Nat) (sk : Int32) (sv : Int32) (scl : Int32) (x : Int32) (y : Int32) (a0 : Nat) : Met l yX3_reachBy wsX3_reachBy ({ frames := 1, cells := 0, slots := 0, locals := 13 } : Room) (va_Pc [.ref a0, .int x, .int y] (fun U => Fz dC dI [(zo3iiii a0 sk (nI i0) sv scl)] [] (fun _ => False) U)) (vp_Si (fun r => r = mx0 x)) 0 0 (fun _ => False) := by
  refine met_ofQ (cc := cX3_reachBy) (maxL := 3) (ret := (some .int)) (by decide) rfl ?_
  intro p e s m args below meth c s₁ Q B hml hv hQ
  obtain ⟨rfl, hZ⟩ := hv
  have hx := B.exec
  have hb := B.bytes
  have hr := B.returns
  have hts := atoms_spec (ws := wsX3_reachBy) B.pre
  have hown : s.vm.findClass RX3 = some m.cls := findClass_of_methodNamed B.named
  have hlocks := B.notSynchronized
  obtain ⟨A, hAe⟩ : ∃ A : Nat → Prop, A = fun _ => False := ⟨_, rfl⟩
  rw [← hAe] at hQ hZ
  have hS : va_S A s.heap s.heap [] := va_S.rf
  have hl := lv_entry [.ref a0, .int x, .int y] (n := 3) (Nat.le_of_ble_eq_true rfl)
  rw [lg_entry_eq]
  generalize (lg_sl [.ref a0, .int x, .int y] ++ List.replicate (3 - (lg_sl [.ref a0, .int x, .int y]).length) Slot.unset).toArray = ls at hl ⊢
  generalize hag : ([.ref a0, .int x, .int y] : List Value).toArray = args at hts hQ ⊢
  have hl : lv_has ls 3 [(0, .ref a0), (1, .int x), (2, .int y)] := hl
  refine lv_iconst (v := 0) hx hb dX3_reachBy_0 (by decide) ?_
  refine lv_iload_n hx hb dX3_reachBy_1 rfl (lv_at hl 1 rfl) ?_
  refine va_mmax hx hb (by rw [hml]; exact hl.1.symm) hown (hts (.methodLink RX3 28 Lib.Math.max.name) kc_reach3_X1_0) (hts (.static Lib.Math.max.name) kc_reach3_X1_1) (hts (.initialized "java/lang/Math") kc_reach3_X1_2) (hts (.code Lib.Math.max.name Lib.Math.max.code 2 (some .int)) kc_reach3_X1_3) (Nat.le_of_ble_eq_true rfl) (Nat.le_of_ble_eq_true rfl) (Nat.le_of_ble_eq_true rfl) (Nat.le_of_ble_eq_true rfl) dX3_reachBy_2 ?_
  rw [hQ]
  exact W.iret (v := (if 0 < x then x else 0)) hx hb hr (fun tQ htQ hWQ => ⟨(if 0 < x then x else 0), rfl, rfl, by rw [htQ]⟩) (fun q hq => absurd hq List.not_mem_nil) dX3_reachBy_5

theorem kc_reach3_X3_0 : (.methodLink RX3 28 Lib.Math.max.name : Cond) ∈ wsX3_reachBy := kc_of 684 rfl rfl rfl
theorem kc_reach3_X3_1 : (.static Lib.Math.max.name : Cond) ∈ wsX3_reachBy := kc_of 426 rfl rfl rfl
theorem kc_reach3_X3_2 : (.initialized "java/lang/Math" : Cond) ∈ wsX3_reachBy := kc_of 77 rfl rfl rfl
theorem kc_reach3_X3_3 : (.code Lib.Math.max.name Lib.Math.max.code 2 (some .int) : Cond) ∈ wsX3_reachBy := kc_of 427 rfl rfl rfl
set_option maxHeartbeats 4000000 in
set_option maxRecDepth 100000 in
theorem c_reach3_X3 (l : Launch) (dC : Nat → ClassId) (dI : Nat → Nat → Nat)  (i0 : Nat) (sk : Int32) (sv : Int32) (scl : Int32) (x : Int32) (y : Int32) (a0 : Nat) : Met l yX3_reachBy wsX3_reachBy ({ frames := 1, cells := 0, slots := 0, locals := 13 } : Room) (va_Pc [.ref a0, .int x, .int y] (fun U => Fz dC dI [(zo5iiii a0 sk (nI i0) sv scl)] [] (fun _ => False) U)) (vp_Si (fun r => r = mx0 x)) 0 0 (fun _ => False) := by
  refine met_ofQ (cc := cX3_reachBy) (maxL := 3) (ret := (some .int)) (by decide) rfl ?_
  intro p e s m args below meth c s₁ Q B hml hv hQ
  obtain ⟨rfl, hZ⟩ := hv
  have hx := B.exec
  have hb := B.bytes
  have hr := B.returns
  have hts := atoms_spec (ws := wsX3_reachBy) B.pre
  have hown : s.vm.findClass RX3 = some m.cls := findClass_of_methodNamed B.named
  have hlocks := B.notSynchronized
  obtain ⟨A, hAe⟩ : ∃ A : Nat → Prop, A = fun _ => False := ⟨_, rfl⟩
  rw [← hAe] at hQ hZ
  have hS : va_S A s.heap s.heap [] := va_S.rf
  have hl := lv_entry [.ref a0, .int x, .int y] (n := 3) (Nat.le_of_ble_eq_true rfl)
  rw [lg_entry_eq]
  generalize (lg_sl [.ref a0, .int x, .int y] ++ List.replicate (3 - (lg_sl [.ref a0, .int x, .int y]).length) Slot.unset).toArray = ls at hl ⊢
  generalize hag : ([.ref a0, .int x, .int y] : List Value).toArray = args at hts hQ ⊢
  have hl : lv_has ls 3 [(0, .ref a0), (1, .int x), (2, .int y)] := hl
  refine lv_iconst (v := 0) hx hb dX3_reachBy_0 (by decide) ?_
  refine lv_iload_n hx hb dX3_reachBy_1 rfl (lv_at hl 1 rfl) ?_
  refine va_mmax hx hb (by rw [hml]; exact hl.1.symm) hown (hts (.methodLink RX3 28 Lib.Math.max.name) kc_reach3_X3_0) (hts (.static Lib.Math.max.name) kc_reach3_X3_1) (hts (.initialized "java/lang/Math") kc_reach3_X3_2) (hts (.code Lib.Math.max.name Lib.Math.max.code 2 (some .int)) kc_reach3_X3_3) (Nat.le_of_ble_eq_true rfl) (Nat.le_of_ble_eq_true rfl) (Nat.le_of_ble_eq_true rfl) (Nat.le_of_ble_eq_true rfl) dX3_reachBy_2 ?_
  rw [hQ]
  exact W.iret (v := (if 0 < x then x else 0)) hx hb hr (fun tQ htQ hWQ => ⟨(if 0 < x then x else 0), rfl, rfl, by rw [htQ]⟩) (fun q hq => absurd hq List.not_mem_nil) dX3_reachBy_5

theorem kc_reach3_X4_0 : (.methodLink RX3 28 Lib.Math.max.name : Cond) ∈ wsX3_reachBy := kc_of 684 rfl rfl rfl
theorem kc_reach3_X4_1 : (.static Lib.Math.max.name : Cond) ∈ wsX3_reachBy := kc_of 426 rfl rfl rfl
theorem kc_reach3_X4_2 : (.initialized "java/lang/Math" : Cond) ∈ wsX3_reachBy := kc_of 77 rfl rfl rfl
theorem kc_reach3_X4_3 : (.code Lib.Math.max.name Lib.Math.max.code 2 (some .int) : Cond) ∈ wsX3_reachBy := kc_of 427 rfl rfl rfl
set_option maxHeartbeats 4000000 in
set_option maxRecDepth 100000 in
theorem c_reach3_X4 (l : Launch) (dC : Nat → ClassId) (dI : Nat → Nat → Nat)  (i0 : Nat) (sk : Int32) (sv : Int32) (scl : Int32) (x : Int32) (y : Int32) (a0 : Nat) : Met l yX3_reachBy wsX3_reachBy ({ frames := 1, cells := 0, slots := 0, locals := 13 } : Room) (va_Pc [.ref a0, .int x, .int y] (fun U => Fz dC dI [(zo6iiii a0 sk (nI i0) sv scl)] [] (fun _ => False) U)) (vp_Si (fun r => r = mx0 x)) 0 0 (fun _ => False) := by
  refine met_ofQ (cc := cX3_reachBy) (maxL := 3) (ret := (some .int)) (by decide) rfl ?_
  intro p e s m args below meth c s₁ Q B hml hv hQ
  obtain ⟨rfl, hZ⟩ := hv
  have hx := B.exec
  have hb := B.bytes
  have hr := B.returns
  have hts := atoms_spec (ws := wsX3_reachBy) B.pre
  have hown : s.vm.findClass RX3 = some m.cls := findClass_of_methodNamed B.named
  have hlocks := B.notSynchronized
  obtain ⟨A, hAe⟩ : ∃ A : Nat → Prop, A = fun _ => False := ⟨_, rfl⟩
  rw [← hAe] at hQ hZ
  have hS : va_S A s.heap s.heap [] := va_S.rf
  have hl := lv_entry [.ref a0, .int x, .int y] (n := 3) (Nat.le_of_ble_eq_true rfl)
  rw [lg_entry_eq]
  generalize (lg_sl [.ref a0, .int x, .int y] ++ List.replicate (3 - (lg_sl [.ref a0, .int x, .int y]).length) Slot.unset).toArray = ls at hl ⊢
  generalize hag : ([.ref a0, .int x, .int y] : List Value).toArray = args at hts hQ ⊢
  have hl : lv_has ls 3 [(0, .ref a0), (1, .int x), (2, .int y)] := hl
  refine lv_iconst (v := 0) hx hb dX3_reachBy_0 (by decide) ?_
  refine lv_iload_n hx hb dX3_reachBy_1 rfl (lv_at hl 1 rfl) ?_
  refine va_mmax hx hb (by rw [hml]; exact hl.1.symm) hown (hts (.methodLink RX3 28 Lib.Math.max.name) kc_reach3_X4_0) (hts (.static Lib.Math.max.name) kc_reach3_X4_1) (hts (.initialized "java/lang/Math") kc_reach3_X4_2) (hts (.code Lib.Math.max.name Lib.Math.max.code 2 (some .int)) kc_reach3_X4_3) (Nat.le_of_ble_eq_true rfl) (Nat.le_of_ble_eq_true rfl) (Nat.le_of_ble_eq_true rfl) (Nat.le_of_ble_eq_true rfl) dX3_reachBy_2 ?_
  rw [hQ]
  exact W.iret (v := (if 0 < x then x else 0)) hx hb hr (fun tQ htQ hWQ => ⟨(if 0 < x then x else 0), rfl, rfl, by rw [htQ]⟩) (fun q hq => absurd hq List.not_mem_nil) dX3_reachBy_5

theorem kc_reach3_X6_0 : (.methodLink RX3 28 Lib.Math.max.name : Cond) ∈ wsX3_reachBy := kc_of 684 rfl rfl rfl
theorem kc_reach3_X6_1 : (.static Lib.Math.max.name : Cond) ∈ wsX3_reachBy := kc_of 426 rfl rfl rfl
theorem kc_reach3_X6_2 : (.initialized "java/lang/Math" : Cond) ∈ wsX3_reachBy := kc_of 77 rfl rfl rfl
theorem kc_reach3_X6_3 : (.code Lib.Math.max.name Lib.Math.max.code 2 (some .int) : Cond) ∈ wsX3_reachBy := kc_of 427 rfl rfl rfl
set_option maxHeartbeats 4000000 in
set_option maxRecDepth 100000 in
theorem c_reach3_X6 (l : Launch) (dC : Nat → ClassId) (dI : Nat → Nat → Nat)  (i0 : Nat) (sk : Int32) (sv : Int32) (scl : Int32) (x : Int32) (y : Int32) (a0 : Nat) : Met l yX3_reachBy wsX3_reachBy ({ frames := 1, cells := 0, slots := 0, locals := 13 } : Room) (va_Pc [.ref a0, .int x, .int y] (fun U => Fz dC dI [(zo8iiii a0 sk (nI i0) sv scl)] [] (fun _ => False) U)) (vp_Si (fun r => r = mx0 x)) 0 0 (fun _ => False) := by
  refine met_ofQ (cc := cX3_reachBy) (maxL := 3) (ret := (some .int)) (by decide) rfl ?_
  intro p e s m args below meth c s₁ Q B hml hv hQ
  obtain ⟨rfl, hZ⟩ := hv
  have hx := B.exec
  have hb := B.bytes
  have hr := B.returns
  have hts := atoms_spec (ws := wsX3_reachBy) B.pre
  have hown : s.vm.findClass RX3 = some m.cls := findClass_of_methodNamed B.named
  have hlocks := B.notSynchronized
  obtain ⟨A, hAe⟩ : ∃ A : Nat → Prop, A = fun _ => False := ⟨_, rfl⟩
  rw [← hAe] at hQ hZ
  have hS : va_S A s.heap s.heap [] := va_S.rf
  have hl := lv_entry [.ref a0, .int x, .int y] (n := 3) (Nat.le_of_ble_eq_true rfl)
  rw [lg_entry_eq]
  generalize (lg_sl [.ref a0, .int x, .int y] ++ List.replicate (3 - (lg_sl [.ref a0, .int x, .int y]).length) Slot.unset).toArray = ls at hl ⊢
  generalize hag : ([.ref a0, .int x, .int y] : List Value).toArray = args at hts hQ ⊢
  have hl : lv_has ls 3 [(0, .ref a0), (1, .int x), (2, .int y)] := hl
  refine lv_iconst (v := 0) hx hb dX3_reachBy_0 (by decide) ?_
  refine lv_iload_n hx hb dX3_reachBy_1 rfl (lv_at hl 1 rfl) ?_
  refine va_mmax hx hb (by rw [hml]; exact hl.1.symm) hown (hts (.methodLink RX3 28 Lib.Math.max.name) kc_reach3_X6_0) (hts (.static Lib.Math.max.name) kc_reach3_X6_1) (hts (.initialized "java/lang/Math") kc_reach3_X6_2) (hts (.code Lib.Math.max.name Lib.Math.max.code 2 (some .int)) kc_reach3_X6_3) (Nat.le_of_ble_eq_true rfl) (Nat.le_of_ble_eq_true rfl) (Nat.le_of_ble_eq_true rfl) (Nat.le_of_ble_eq_true rfl) dX3_reachBy_2 ?_
  rw [hQ]
  exact W.iret (v := (if 0 < x then x else 0)) hx hb hr (fun tQ htQ hWQ => ⟨(if 0 < x then x else 0), rfl, rfl, by rw [htQ]⟩) (fun q hq => absurd hq List.not_mem_nil) dX3_reachBy_5

theorem kc_reach3_X9_0 : (.methodLink RX3 28 Lib.Math.max.name : Cond) ∈ wsX3_reachBy := kc_of 684 rfl rfl rfl
theorem kc_reach3_X9_1 : (.static Lib.Math.max.name : Cond) ∈ wsX3_reachBy := kc_of 426 rfl rfl rfl
theorem kc_reach3_X9_2 : (.initialized "java/lang/Math" : Cond) ∈ wsX3_reachBy := kc_of 77 rfl rfl rfl
theorem kc_reach3_X9_3 : (.code Lib.Math.max.name Lib.Math.max.code 2 (some .int) : Cond) ∈ wsX3_reachBy := kc_of 427 rfl rfl rfl
set_option maxHeartbeats 4000000 in
set_option maxRecDepth 100000 in
theorem c_reach3_X9 (l : Launch) (dC : Nat → ClassId) (dI : Nat → Nat → Nat)  (i0 : Nat) (sk : Int32) (sv : Int32) (scl : Int32) (x : Int32) (y : Int32) (a0 : Nat) : Met l yX3_reachBy wsX3_reachBy ({ frames := 1, cells := 0, slots := 0, locals := 13 } : Room) (va_Pc [.ref a0, .int x, .int y] (fun U => Fz dC dI [(zo11iiii a0 sk (nI i0) sv scl)] [] (fun _ => False) U)) (vp_Si (fun r => r = mx0 x)) 0 0 (fun _ => False) := by
  refine met_ofQ (cc := cX3_reachBy) (maxL := 3) (ret := (some .int)) (by decide) rfl ?_
  intro p e s m args below meth c s₁ Q B hml hv hQ
  obtain ⟨rfl, hZ⟩ := hv
  have hx := B.exec
  have hb := B.bytes
  have hr := B.returns
  have hts := atoms_spec (ws := wsX3_reachBy) B.pre
  have hown : s.vm.findClass RX3 = some m.cls := findClass_of_methodNamed B.named
  have hlocks := B.notSynchronized
  obtain ⟨A, hAe⟩ : ∃ A : Nat → Prop, A = fun _ => False := ⟨_, rfl⟩
  rw [← hAe] at hQ hZ
  have hS : va_S A s.heap s.heap [] := va_S.rf
  have hl := lv_entry [.ref a0, .int x, .int y] (n := 3) (Nat.le_of_ble_eq_true rfl)
  rw [lg_entry_eq]
  generalize (lg_sl [.ref a0, .int x, .int y] ++ List.replicate (3 - (lg_sl [.ref a0, .int x, .int y]).length) Slot.unset).toArray = ls at hl ⊢
  generalize hag : ([.ref a0, .int x, .int y] : List Value).toArray = args at hts hQ ⊢
  have hl : lv_has ls 3 [(0, .ref a0), (1, .int x), (2, .int y)] := hl
  refine lv_iconst (v := 0) hx hb dX3_reachBy_0 (by decide) ?_
  refine lv_iload_n hx hb dX3_reachBy_1 rfl (lv_at hl 1 rfl) ?_
  refine va_mmax hx hb (by rw [hml]; exact hl.1.symm) hown (hts (.methodLink RX3 28 Lib.Math.max.name) kc_reach3_X9_0) (hts (.static Lib.Math.max.name) kc_reach3_X9_1) (hts (.initialized "java/lang/Math") kc_reach3_X9_2) (hts (.code Lib.Math.max.name Lib.Math.max.code 2 (some .int)) kc_reach3_X9_3) (Nat.le_of_ble_eq_true rfl) (Nat.le_of_ble_eq_true rfl) (Nat.le_of_ble_eq_true rfl) (Nat.le_of_ble_eq_true rfl) dX3_reachBy_2 ?_
  rw [hQ]
  exact W.iret (v := (if 0 < x then x else 0)) hx hb hr (fun tQ htQ hWQ => ⟨(if 0 < x then x else 0), rfl, rfl, by rw [htQ]⟩) (fun q hq => absurd hq List.not_mem_nil) dX3_reachBy_5

theorem kc_reach3_X10_0 : (.methodLink RX3 28 Lib.Math.max.name : Cond) ∈ wsX3_reachBy := kc_of 684 rfl rfl rfl
theorem kc_reach3_X10_1 : (.static Lib.Math.max.name : Cond) ∈ wsX3_reachBy := kc_of 426 rfl rfl rfl
theorem kc_reach3_X10_2 : (.initialized "java/lang/Math" : Cond) ∈ wsX3_reachBy := kc_of 77 rfl rfl rfl
theorem kc_reach3_X10_3 : (.code Lib.Math.max.name Lib.Math.max.code 2 (some .int) : Cond) ∈ wsX3_reachBy := kc_of 427 rfl rfl rfl
set_option maxHeartbeats 4000000 in
set_option maxRecDepth 100000 in
theorem c_reach3_X10 (l : Launch) (dC : Nat → ClassId) (dI : Nat → Nat → Nat)  (i0 : Nat) (sk : Int32) (sv : Int32) (scl : Int32) (x : Int32) (y : Int32) (a0 : Nat) : Met l yX3_reachBy wsX3_reachBy ({ frames := 1, cells := 0, slots := 0, locals := 13 } : Room) (va_Pc [.ref a0, .int x, .int y] (fun U => Fz dC dI [(zo12iiii a0 sk (nI i0) sv scl)] [] (fun _ => False) U)) (vp_Si (fun r => r = mx0 x)) 0 0 (fun _ => False) := by
  refine met_ofQ (cc := cX3_reachBy) (maxL := 3) (ret := (some .int)) (by decide) rfl ?_
  intro p e s m args below meth c s₁ Q B hml hv hQ
  obtain ⟨rfl, hZ⟩ := hv
  have hx := B.exec
  have hb := B.bytes
  have hr := B.returns
  have hts := atoms_spec (ws := wsX3_reachBy) B.pre
  have hown : s.vm.findClass RX3 = some m.cls := findClass_of_methodNamed B.named
  have hlocks := B.notSynchronized
  obtain ⟨A, hAe⟩ : ∃ A : Nat → Prop, A = fun _ => False := ⟨_, rfl⟩
  rw [← hAe] at hQ hZ
  have hS : va_S A s.heap s.heap [] := va_S.rf
  have hl := lv_entry [.ref a0, .int x, .int y] (n := 3) (Nat.le_of_ble_eq_true rfl)
  rw [lg_entry_eq]
  generalize (lg_sl [.ref a0, .int x, .int y] ++ List.replicate (3 - (lg_sl [.ref a0, .int x, .int y]).length) Slot.unset).toArray = ls at hl ⊢
  generalize hag : ([.ref a0, .int x, .int y] : List Value).toArray = args at hts hQ ⊢
  have hl : lv_has ls 3 [(0, .ref a0), (1, .int x), (2, .int y)] := hl
  refine lv_iconst (v := 0) hx hb dX3_reachBy_0 (by decide) ?_
  refine lv_iload_n hx hb dX3_reachBy_1 rfl (lv_at hl 1 rfl) ?_
  refine va_mmax hx hb (by rw [hml]; exact hl.1.symm) hown (hts (.methodLink RX3 28 Lib.Math.max.name) kc_reach3_X10_0) (hts (.static Lib.Math.max.name) kc_reach3_X10_1) (hts (.initialized "java/lang/Math") kc_reach3_X10_2) (hts (.code Lib.Math.max.name Lib.Math.max.code 2 (some .int)) kc_reach3_X10_3) (Nat.le_of_ble_eq_true rfl) (Nat.le_of_ble_eq_true rfl) (Nat.le_of_ble_eq_true rfl) (Nat.le_of_ble_eq_true rfl) dX3_reachBy_2 ?_
  rw [hQ]
  exact W.iret (v := (if 0 < x then x else 0)) hx hb hr (fun tQ htQ hWQ => ⟨(if 0 < x then x else 0), rfl, rfl, by rw [htQ]⟩) (fun q hq => absurd hq List.not_mem_nil) dX3_reachBy_5

theorem kc_reach4_X4_0 : (.fieldLink RX4 7 "MistHeaps$High" "v" "I" : Cond) ∈ wsX4_reachBy := kc_of 241 rfl rfl rfl
theorem kc_reach4_X4_1 : ∀ w ∈ wsX40, w ∈ wsX4_reachBy := fun w h => List.mem_cons_of_mem _ (gin_wsX40 w h)
theorem kc_reach4_X4_2 : (.sameField "MistHeaps$High" "MistHeaps$Heap" "v" "I" : Cond) ∈ wsX4_reachBy := kc_of 242 rfl rfl rfl
set_option maxHeartbeats 4000000 in
set_option maxRecDepth 100000 in
theorem c_reach4_X4 (l : Launch) (dC : Nat → ClassId) (dI : Nat → Nat → Nat)  (i0 : Nat) (sk : Int32) (sv : Int32) (scl : Int32) (x : Int32) (y : Int32) (a0 : Nat) : Met l yX4_reachBy wsX4_reachBy ({ frames := 2, cells := 0, slots := 0, locals := 35 } : Room) (va_Pc [.ref a0, .int x, .int y] (fun U => Fz dC dI [(zo6iiii a0 sk (nI i0) sv scl)] [] (fun _ => False) U)) (vp_Si (fun r => r = mx0 (x + sv / 3))) 0 0 (fun _ => False) := by
  refine met_ofQ (cc := cX4_reachBy) (maxL := 3) (ret := (some .int)) (by decide) rfl ?_
  intro p e s m args below meth c s₁ Q B hml hv hQ
  obtain ⟨rfl, hZ⟩ := hv
  have hx := B.exec
  have hb := B.bytes
  have hr := B.returns
  have hts := atoms_spec (ws := wsX4_reachBy) B.pre
  have hown : s.vm.findClass RX4 = some m.cls := findClass_of_methodNamed B.named
  have hlocks := B.notSynchronized
  obtain ⟨A, hAe⟩ : ∃ A : Nat → Prop, A = fun _ => False := ⟨_, rfl⟩
  rw [← hAe] at hQ hZ
  have hS : va_S A s.heap s.heap [] := va_S.rf
  have hl := lv_entry [.ref a0, .int x, .int y] (n := 3) (Nat.le_of_ble_eq_true rfl)
  rw [lg_entry_eq]
  generalize (lg_sl [.ref a0, .int x, .int y] ++ List.replicate (3 - (lg_sl [.ref a0, .int x, .int y]).length) Slot.unset).toArray = ls at hl ⊢
  generalize hag : ([.ref a0, .int x, .int y] : List Value).toArray = args at hts hQ ⊢
  have hl : lv_has ls 3 [(0, .ref a0), (1, .int x), (2, .int y)] := hl
  refine lv_aload_n hx hb dX4_reachBy_0 rfl (lv_at hl 0 rfl) ?_
  refine lv_iload_n hx hb dX4_reachBy_1 rfl (lv_at hl 1 rfl) ?_
  refine lv_aload_n hx hb dX4_reachBy_2 rfl (lv_at hl 0 rfl) ?_
  refine va_get (D := (dC, dI)) (ci := 6) (v := .int sv) (C := RX4) (T := TX4) (N := 4) hx hb hts kc_reach4_X4_1 hown hZ.2.1 (hZ.P hS) 0 rfl rfl 2 (by decide) (hts (.fieldLink RX4 7 "MistHeaps$High" "v" "I") kc_reach4_X4_0) (fun x h => u_same (hts (.sameField "MistHeaps$High" "MistHeaps$Heap" "v" "I") kc_reach4_X4_2) x h) rfl dX4_reachBy_3 ?_
  refine lv_iconst (v := 3) hx hb dX4_reachBy_6 (by decide) ?_
  refine lv_idiv hx hb dX4_reachBy_7 (by decide) ?_
  refine lv_iadd hx hb dX4_reachBy_8 ?_
  refine lv_iload_n hx hb dX4_reachBy_9 rfl (lv_at hl 2 rfl) ?_
  refine vp_callSi (va_runSU (hZ.2.1.1 6 (RX4, TX4, 4) rfl).2 (As := [.int (x + (sv / 3)), .int y]) (rest := []) ⟨hx, hb, hml, hown, hts⟩ (c_reach3_X4 l dC dI  i0 sk sv scl (x + (sv / 3)) y a0) (va_cwSU 2 hts gX4_reachBy_X3_reachBy_s13 rfl rfl rfl (by decide +kernel) ⟨Nat.le_of_ble_eq_true rfl, Nat.le_of_ble_eq_true rfl⟩) ⟨fun a U g mk q => by obtain ⟨q0, qhZ⟩ := q; exact ⟨q0, qhZ.mv g mk a⟩, va_recv hZ.2.1 (hZ.P hS) (ci := 6) (q := (RX4, TX4, 4)) (q0 := 0) rfl rfl, fun U hU hW => ⟨rfl, (hZ.sub [0] [] rfl rfl).callF hS hU hW⟩⟩ rfl rfl hl.1 rfl (lv_room (Nat.le_of_ble_eq_true rfl)) dX4_reachBy_10 ⟨Nat.le_of_ble_eq_true rfl, Nat.le_of_ble_eq_true rfl⟩).run (fun r_1 hw_2 => ?_)
  obtain rfl := hw_2
  rw [hQ]
  exact W.iret (v := mx0 (x + sv / 3)) hx hb hr (fun tQ htQ hWQ => ⟨mx0 (x + sv / 3), rfl, rfl, by rw [htQ]⟩) (fun q hq => absurd hq List.not_mem_nil) dX4_reachBy_13

theorem kc_reach4_X10_0 : (.fieldLink RX4 7 "MistHeaps$High" "v" "I" : Cond) ∈ wsX4_reachBy := kc_of 241 rfl rfl rfl
theorem kc_reach4_X10_1 : ∀ w ∈ wsX100, w ∈ wsX4_reachBy := fun w h => List.mem_cons_of_mem _ (gin_wsX100 w h)
theorem kc_reach4_X10_2 : (.sameField "MistHeaps$High" "MistHeaps$Heap" "v" "I" : Cond) ∈ wsX4_reachBy := kc_of 242 rfl rfl rfl
set_option maxHeartbeats 4000000 in
set_option maxRecDepth 100000 in
theorem c_reach4_X10 (l : Launch) (dC : Nat → ClassId) (dI : Nat → Nat → Nat)  (i0 : Nat) (sk : Int32) (sv : Int32) (scl : Int32) (x : Int32) (y : Int32) (a0 : Nat) : Met l yX4_reachBy wsX4_reachBy ({ frames := 2, cells := 0, slots := 0, locals := 35 } : Room) (va_Pc [.ref a0, .int x, .int y] (fun U => Fz dC dI [(zo12iiii a0 sk (nI i0) sv scl)] [] (fun _ => False) U)) (vp_Si (fun r => r = mx0 (x + sv / 3))) 0 0 (fun _ => False) := by
  refine met_ofQ (cc := cX4_reachBy) (maxL := 3) (ret := (some .int)) (by decide) rfl ?_
  intro p e s m args below meth c s₁ Q B hml hv hQ
  obtain ⟨rfl, hZ⟩ := hv
  have hx := B.exec
  have hb := B.bytes
  have hr := B.returns
  have hts := atoms_spec (ws := wsX4_reachBy) B.pre
  have hown : s.vm.findClass RX4 = some m.cls := findClass_of_methodNamed B.named
  have hlocks := B.notSynchronized
  obtain ⟨A, hAe⟩ : ∃ A : Nat → Prop, A = fun _ => False := ⟨_, rfl⟩
  rw [← hAe] at hQ hZ
  have hS : va_S A s.heap s.heap [] := va_S.rf
  have hl := lv_entry [.ref a0, .int x, .int y] (n := 3) (Nat.le_of_ble_eq_true rfl)
  rw [lg_entry_eq]
  generalize (lg_sl [.ref a0, .int x, .int y] ++ List.replicate (3 - (lg_sl [.ref a0, .int x, .int y]).length) Slot.unset).toArray = ls at hl ⊢
  generalize hag : ([.ref a0, .int x, .int y] : List Value).toArray = args at hts hQ ⊢
  have hl : lv_has ls 3 [(0, .ref a0), (1, .int x), (2, .int y)] := hl
  refine lv_aload_n hx hb dX4_reachBy_0 rfl (lv_at hl 0 rfl) ?_
  refine lv_iload_n hx hb dX4_reachBy_1 rfl (lv_at hl 1 rfl) ?_
  refine lv_aload_n hx hb dX4_reachBy_2 rfl (lv_at hl 0 rfl) ?_
  refine va_get (D := (dC, dI)) (ci := 12) (v := .int sv) (C := RX10) (T := TX10) (N := 4) hx hb hts kc_reach4_X10_1 hown hZ.2.1 (hZ.P hS) 0 rfl rfl 2 (by decide) (hts (.fieldLink RX4 7 "MistHeaps$High" "v" "I") kc_reach4_X10_0) (fun x h => u_same (hts (.sameField "MistHeaps$High" "MistHeaps$Heap" "v" "I") kc_reach4_X10_2) x h) rfl dX4_reachBy_3 ?_
  refine lv_iconst (v := 3) hx hb dX4_reachBy_6 (by decide) ?_
  refine lv_idiv hx hb dX4_reachBy_7 (by decide) ?_
  refine lv_iadd hx hb dX4_reachBy_8 ?_
  refine lv_iload_n hx hb dX4_reachBy_9 rfl (lv_at hl 2 rfl) ?_
  refine vp_callSi (va_runSU (hZ.2.1.1 12 (RX10, TX10, 4) rfl).2 (As := [.int (x + (sv / 3)), .int y]) (rest := []) ⟨hx, hb, hml, hown, hts⟩ (c_reach3_X10 l dC dI  i0 sk sv scl (x + (sv / 3)) y a0) (va_cwSU 2 hts gX4_reachBy_X3_reachBy_s13 rfl rfl rfl (by decide +kernel) ⟨Nat.le_of_ble_eq_true rfl, Nat.le_of_ble_eq_true rfl⟩) ⟨fun a U g mk q => by obtain ⟨q0, qhZ⟩ := q; exact ⟨q0, qhZ.mv g mk a⟩, va_recv hZ.2.1 (hZ.P hS) (ci := 12) (q := (RX10, TX10, 4)) (q0 := 0) rfl rfl, fun U hU hW => ⟨rfl, (hZ.sub [0] [] rfl rfl).callF hS hU hW⟩⟩ rfl rfl hl.1 rfl (lv_room (Nat.le_of_ble_eq_true rfl)) dX4_reachBy_10 ⟨Nat.le_of_ble_eq_true rfl, Nat.le_of_ble_eq_true rfl⟩).run (fun r_1 hw_2 => ?_)
  obtain rfl := hw_2
  rw [hQ]
  exact W.iret (v := mx0 (x + sv / 3)) hx hb hr (fun tQ htQ hWQ => ⟨mx0 (x + sv / 3), rfl, rfl, by rw [htQ]⟩) (fun q hq => absurd hq List.not_mem_nil) dX4_reachBy_13

set_option maxHeartbeats 4000000 in
set_option maxRecDepth 100000 in
theorem c_reach6_X6 (l : Launch) (dC : Nat → ClassId) (dI : Nat → Nat → Nat)  (i0 : Nat) (sk : Int32) (sv : Int32) (scl : Int32) (x : Int32) (y : Int32) (a0 : Nat) : Met l yX6_reachBy wsX6_reachBy ({ frames := 2, cells := 0, slots := 0, locals := 35 } : Room) (va_Pc [.ref a0, .int x, .int y] (fun U => Fz dC dI [(zo8iiii a0 sk (nI i0) sv scl)] [] (fun _ => False) U)) (vp_Si (fun r => r = mx0 (x - 1))) 0 0 (fun _ => False) := by
  refine met_ofQ (cc := cX6_reachBy) (maxL := 3) (ret := (some .int)) (by decide) rfl ?_
  intro p e s m args below meth c s₁ Q B hml hv hQ
  obtain ⟨rfl, hZ⟩ := hv
  have hx := B.exec
  have hb := B.bytes
  have hr := B.returns
  have hts := atoms_spec (ws := wsX6_reachBy) B.pre
  have hown : s.vm.findClass RX6 = some m.cls := findClass_of_methodNamed B.named
  have hlocks := B.notSynchronized
  obtain ⟨A, hAe⟩ : ∃ A : Nat → Prop, A = fun _ => False := ⟨_, rfl⟩
  rw [← hAe] at hQ hZ
  have hS : va_S A s.heap s.heap [] := va_S.rf
  have hl := lv_entry [.ref a0, .int x, .int y] (n := 3) (Nat.le_of_ble_eq_true rfl)
  rw [lg_entry_eq]
  generalize (lg_sl [.ref a0, .int x, .int y] ++ List.replicate (3 - (lg_sl [.ref a0, .int x, .int y]).length) Slot.unset).toArray = ls at hl ⊢
  generalize hag : ([.ref a0, .int x, .int y] : List Value).toArray = args at hts hQ ⊢
  have hl : lv_has ls 3 [(0, .ref a0), (1, .int x), (2, .int y)] := hl
  refine lv_aload_n hx hb dX6_reachBy_0 rfl (lv_at hl 0 rfl) ?_
  refine lv_iload_n hx hb dX6_reachBy_1 rfl (lv_at hl 1 rfl) ?_
  refine lv_iconst (v := 1) hx hb dX6_reachBy_2 (by decide) ?_
  refine lv_isub hx hb dX6_reachBy_3 ?_
  refine lv_iload_n hx hb dX6_reachBy_4 rfl (lv_at hl 2 rfl) ?_
  refine vp_callSi (va_runSU (hZ.2.1.1 8 (RX6, TX6, 4) rfl).2 (As := [.int (x - 1), .int y]) (rest := []) ⟨hx, hb, hml, hown, hts⟩ (c_reach3_X6 l dC dI  i0 sk sv scl (x - 1) y a0) (va_cwSU 2 hts gX6_reachBy_X3_reachBy_s7 rfl rfl rfl (by decide +kernel) ⟨Nat.le_of_ble_eq_true rfl, Nat.le_of_ble_eq_true rfl⟩) ⟨fun a U g mk q => by obtain ⟨q0, qhZ⟩ := q; exact ⟨q0, qhZ.mv g mk a⟩, va_recv hZ.2.1 (hZ.P hS) (ci := 8) (q := (RX6, TX6, 4)) (q0 := 0) rfl rfl, fun U hU hW => ⟨rfl, (hZ.sub [0] [] rfl rfl).callF hS hU hW⟩⟩ rfl rfl hl.1 rfl (lv_room (Nat.le_of_ble_eq_true rfl)) dX6_reachBy_5 ⟨Nat.le_of_ble_eq_true rfl, Nat.le_of_ble_eq_true rfl⟩).run (fun r_1 hw_2 => ?_)
  obtain rfl := hw_2
  rw [hQ]
  exact W.iret (v := mx0 (x - 1)) hx hb hr (fun tQ htQ hWQ => ⟨mx0 (x - 1), rfl, rfl, by rw [htQ]⟩) (fun q hq => absurd hq List.not_mem_nil) dX6_reachBy_8

set_option maxHeartbeats 4000000 in
set_option maxRecDepth 100000 in
theorem c_reach6_X9 (l : Launch) (dC : Nat → ClassId) (dI : Nat → Nat → Nat)  (i0 : Nat) (sk : Int32) (sv : Int32) (scl : Int32) (x : Int32) (y : Int32) (a0 : Nat) : Met l yX6_reachBy wsX6_reachBy ({ frames := 2, cells := 0, slots := 0, locals := 35 } : Room) (va_Pc [.ref a0, .int x, .int y] (fun U => Fz dC dI [(zo11iiii a0 sk (nI i0) sv scl)] [] (fun _ => False) U)) (vp_Si (fun r => r = mx0 (x - 1))) 0 0 (fun _ => False) := by
  refine met_ofQ (cc := cX6_reachBy) (maxL := 3) (ret := (some .int)) (by decide) rfl ?_
  intro p e s m args below meth c s₁ Q B hml hv hQ
  obtain ⟨rfl, hZ⟩ := hv
  have hx := B.exec
  have hb := B.bytes
  have hr := B.returns
  have hts := atoms_spec (ws := wsX6_reachBy) B.pre
  have hown : s.vm.findClass RX6 = some m.cls := findClass_of_methodNamed B.named
  have hlocks := B.notSynchronized
  obtain ⟨A, hAe⟩ : ∃ A : Nat → Prop, A = fun _ => False := ⟨_, rfl⟩
  rw [← hAe] at hQ hZ
  have hS : va_S A s.heap s.heap [] := va_S.rf
  have hl := lv_entry [.ref a0, .int x, .int y] (n := 3) (Nat.le_of_ble_eq_true rfl)
  rw [lg_entry_eq]
  generalize (lg_sl [.ref a0, .int x, .int y] ++ List.replicate (3 - (lg_sl [.ref a0, .int x, .int y]).length) Slot.unset).toArray = ls at hl ⊢
  generalize hag : ([.ref a0, .int x, .int y] : List Value).toArray = args at hts hQ ⊢
  have hl : lv_has ls 3 [(0, .ref a0), (1, .int x), (2, .int y)] := hl
  refine lv_aload_n hx hb dX6_reachBy_0 rfl (lv_at hl 0 rfl) ?_
  refine lv_iload_n hx hb dX6_reachBy_1 rfl (lv_at hl 1 rfl) ?_
  refine lv_iconst (v := 1) hx hb dX6_reachBy_2 (by decide) ?_
  refine lv_isub hx hb dX6_reachBy_3 ?_
  refine lv_iload_n hx hb dX6_reachBy_4 rfl (lv_at hl 2 rfl) ?_
  refine vp_callSi (va_runSU (hZ.2.1.1 11 (RX9, TX9, 4) rfl).2 (As := [.int (x - 1), .int y]) (rest := []) ⟨hx, hb, hml, hown, hts⟩ (c_reach3_X9 l dC dI  i0 sk sv scl (x - 1) y a0) (va_cwSU 2 hts gX6_reachBy_X3_reachBy_s7 rfl rfl rfl (by decide +kernel) ⟨Nat.le_of_ble_eq_true rfl, Nat.le_of_ble_eq_true rfl⟩) ⟨fun a U g mk q => by obtain ⟨q0, qhZ⟩ := q; exact ⟨q0, qhZ.mv g mk a⟩, va_recv hZ.2.1 (hZ.P hS) (ci := 11) (q := (RX9, TX9, 4)) (q0 := 0) rfl rfl, fun U hU hW => ⟨rfl, (hZ.sub [0] [] rfl rfl).callF hS hU hW⟩⟩ rfl rfl hl.1 rfl (lv_room (Nat.le_of_ble_eq_true rfl)) dX6_reachBy_5 ⟨Nat.le_of_ble_eq_true rfl, Nat.le_of_ble_eq_true rfl⟩).run (fun r_1 hw_2 => ?_)
  obtain rfl := hw_2
  rw [hQ]
  exact W.iret (v := mx0 (x - 1)) hx hb hr (fun tQ htQ hWQ => ⟨mx0 (x - 1), rfl, rfl, by rw [htQ]⟩) (fun q hq => absurd hq List.not_mem_nil) dX6_reachBy_8

theorem kc_reach9_0 : (.fieldLink RX9 7 "MistHeaps$Snowed" "v" "I" : Cond) ∈ wsX9_reachBy := kc_of 239 rfl rfl rfl
theorem kc_reach9_1 : ∀ w ∈ wsX90, w ∈ wsX9_reachBy := fun w h => List.mem_cons_of_mem _ (gin_wsX90 w h)
theorem kc_reach9_2 : (.sameField "MistHeaps$Snowed" "MistHeaps$Heap" "v" "I" : Cond) ∈ wsX9_reachBy := kc_of 240 rfl rfl rfl
set_option maxHeartbeats 4000000 in
set_option maxRecDepth 100000 in
theorem c_reach9 (l : Launch) (dC : Nat → ClassId) (dI : Nat → Nat → Nat)  (i0 : Nat) (sk : Int32) (sv : Int32) (scl : Int32) (x : Int32) (y : Int32) (a0 : Nat) : Met l yX9_reachBy wsX9_reachBy ({ frames := 3, cells := 0, slots := 0, locals := 57 } : Room) (va_Pc [.ref a0, .int x, .int y] (fun U => Fz dC dI [(zo11iiii a0 sk (nI i0) sv scl)] [] (fun _ => False) U)) (vp_Si (fun r => r = if y ≤ sv then mx0 (x - 1) else 0)) 0 0 (fun _ => False) := by
  refine met_ofQ (cc := cX9_reachBy) (maxL := 3) (ret := (some .int)) (by decide) rfl ?_
  intro p e s m args below meth c s₁ Q B hml hv hQ
  obtain ⟨rfl, hZ⟩ := hv
  have hx := B.exec
  have hb := B.bytes
  have hr := B.returns
  have hts := atoms_spec (ws := wsX9_reachBy) B.pre
  have hown : s.vm.findClass RX9 = some m.cls := findClass_of_methodNamed B.named
  have hlocks := B.notSynchronized
  obtain ⟨A, hAe⟩ : ∃ A : Nat → Prop, A = fun _ => False := ⟨_, rfl⟩
  rw [← hAe] at hQ hZ
  have hS : va_S A s.heap s.heap [] := va_S.rf
  have hl := lv_entry [.ref a0, .int x, .int y] (n := 3) (Nat.le_of_ble_eq_true rfl)
  rw [lg_entry_eq]
  generalize (lg_sl [.ref a0, .int x, .int y] ++ List.replicate (3 - (lg_sl [.ref a0, .int x, .int y]).length) Slot.unset).toArray = ls at hl ⊢
  generalize hag : ([.ref a0, .int x, .int y] : List Value).toArray = args at hts hQ ⊢
  have hl : lv_has ls 3 [(0, .ref a0), (1, .int x), (2, .int y)] := hl
  refine lv_iload_n hx hb dX9_reachBy_0 rfl (lv_at hl 2 rfl) ?_
  refine lv_aload_n hx hb dX9_reachBy_1 rfl (lv_at hl 0 rfl) ?_
  refine va_get (D := (dC, dI)) (ci := 11) (v := .int sv) (C := RX9) (T := TX9) (N := 4) hx hb hts kc_reach9_1 hown hZ.2.1 (hZ.P hS) 0 rfl rfl 2 (by decide) (hts (.fieldLink RX9 7 "MistHeaps$Snowed" "v" "I") kc_reach9_0) (fun x h => u_same (hts (.sameField "MistHeaps$Snowed" "MistHeaps$Heap" "v" "I") kc_reach9_2) x h) rfl dX9_reachBy_2 ?_
  refine lv_icmp_le (tgt := 12) hx hb dX9_reachBy_5 (by decide) (fun c_1 => ?_) (fun c_1 => ?_)
  · skip
    refine lv_aload_n hx hb dX9_reachBy_12 rfl (lv_at hl 0 rfl) ?_
    refine lv_iload_n hx hb dX9_reachBy_13 rfl (lv_at hl 1 rfl) ?_
    refine lv_iload_n hx hb dX9_reachBy_14 rfl (lv_at hl 2 rfl) ?_
    refine vp_callSi (va_runSU (hZ.2.1.1 11 (RX9, TX9, 4) rfl).2 (As := [.int x, .int y]) (rest := []) ⟨hx, hb, hml, hown, hts⟩ (c_reach6_X9 l dC dI  i0 sk sv scl x y a0) (va_cwSU 2 hts gX9_reachBy_X6_reachBy_s13 rfl rfl rfl (by decide +kernel) ⟨Nat.le_of_ble_eq_true rfl, Nat.le_of_ble_eq_true rfl⟩) ⟨fun a U g mk q => by obtain ⟨q0, qhZ⟩ := q; exact ⟨q0, qhZ.mv g mk a⟩, va_recv hZ.2.1 (hZ.P hS) (ci := 11) (q := (RX9, TX9, 4)) (q0 := 0) rfl rfl, fun U hU hW => ⟨rfl, (hZ.sub [0] [] rfl rfl).callF hS hU hW⟩⟩ rfl rfl hl.1 rfl (lv_room (Nat.le_of_ble_eq_true rfl)) dX9_reachBy_15 ⟨Nat.le_of_ble_eq_true rfl, Nat.le_of_ble_eq_true rfl⟩).run (fun r_2 hw_3 => ?_)
    obtain rfl := hw_3
    rw [hQ]
    exact W.iret (v := mx0 (x - 1)) hx hb hr (fun tQ htQ hWQ => ⟨mx0 (x - 1), rfl, by first | exact (if_pos (by assumption)).symm | exact (if_neg (by assumption)).symm, by rw [htQ]⟩) (fun q hq => absurd hq List.not_mem_nil) dX9_reachBy_18
  · skip
    refine lv_iconst (v := 0) hx hb dX9_reachBy_8 (by decide) ?_
    refine lv_goto (tgt := 18) hx hb dX9_reachBy_9 (by decide) ?_
    rw [hQ]
    exact W.iret (v := 0) hx hb hr (fun tQ htQ hWQ => ⟨0, rfl, by first | exact (if_pos (by assumption)).symm | exact (if_neg (by assumption)).symm, by rw [htQ]⟩) (fun q hq => absurd hq List.not_mem_nil) dX9_reachBy_18
end mg13a
section mg13a
theorem ggX6_doGoes_X3_doGoes : GoodIn wsX6_doGoes wsX3_doGoes := gga_of 1049 rfl rfl rfl
theorem ggX4_doSees_X3_doSees : GoodIn wsX4_doSees wsX3_doSees := gga_of 1025 rfl rfl rfl
theorem ggX1_doLooks_X3_doLooks : GoodIn wsX1_doLooks wsX3_doLooks := gga_of 1077 rfl rfl rfl
theorem ggX10_leadsTo_X11_rowOf : GoodIn wsX10_leadsTo wsX11_rowOf := gga_of 643 rfl rfl rfl
theorem ggX10_leadsTo_X10_isOnSide : GoodIn wsX10_leadsTo wsX10_isOnSide := gga_of 749 rfl rfl rfl
theorem gX10_leadsTo_X10_isOnSide : GoodIn wsX10_leadsTo (va_wsS RX10 26 yX10_isOnSide wsX10_isOnSide) := goodIn_app (ggh_of [747, 748, 84] rfl rfl rfl) ggX10_leadsTo_X10_isOnSide
theorem ggX10_leadsTo_X11_columnOf : GoodIn wsX10_leadsTo wsX11_columnOf := gga_of 646 rfl rfl rfl
noncomputable def dk14dlead_cX7_reachBy_0 : List (Nat × List Nat) := [(0, [4]), (1, [42]), (2, [27]), (3, [28]), (4, [183, 0, 7]), (7, [184, 0, 11]), (10, [172])]
set_option maxRecDepth 100000 in
theorem dk14dlead_cX7_reachBy_0_a : btA cX7_reachBy dk14dlead_cX7_reachBy_0 = true := by decide +kernel
theorem dX7_reachBy_0 : decode cX7_reachBy 0 = .ok (.iconst 1, 1) := bd4 (btAt dk14dlead_cX7_reachBy_0_a 0 rfl)
theorem dX7_reachBy_1 : decode cX7_reachBy 1 = .ok (.aload_n 0, 1) := bd42 (btAt dk14dlead_cX7_reachBy_0_a 1 rfl)
theorem dX7_reachBy_2 : decode cX7_reachBy 2 = .ok (.iload_n 1, 1) := bd27 (btAt dk14dlead_cX7_reachBy_0_a 2 rfl)
theorem dX7_reachBy_3 : decode cX7_reachBy 3 = .ok (.iload_n 2, 1) := bd28 (btAt dk14dlead_cX7_reachBy_0_a 3 rfl)
theorem dX7_reachBy_4 : decode cX7_reachBy 4 = .ok (.invokespecial 7, 3) := bd183 (a := 0) (b := 7) (btAt dk14dlead_cX7_reachBy_0_a 4 rfl)
theorem dX7_reachBy_7 : decode cX7_reachBy 7 = .ok (.invokestatic 11, 3) := bd184 (a := 0) (b := 11) (btAt dk14dlead_cX7_reachBy_0_a 5 rfl)
theorem dX7_reachBy_10 : decode cX7_reachBy 10 = .ok (.ireturn, 1) := bd172 (btAt dk14dlead_cX7_reachBy_0_a 6 rfl)
set_option maxRecDepth 100000 in
theorem dX3_leadsTo_0 : decode cX3_leadsTo 0 = .ok (.iconst 1, 1) := bd4 (by decide +kernel)
set_option maxRecDepth 100000 in
theorem dX3_leadsTo_1 : decode cX3_leadsTo 1 = .ok (.ireturn, 1) := bd172 (by decide +kernel)
set_option maxRecDepth 100000 in
theorem dX1_leadsTo_0 : decode cX1_leadsTo 0 = .ok (.iconst 0, 1) := bd3 (by decide +kernel)
set_option maxRecDepth 100000 in
theorem dX1_leadsTo_1 : decode cX1_leadsTo 1 = .ok (.ireturn, 1) := bd172 (by decide +kernel)
noncomputable def dk14dlead_cX10_isOnSide_0 : List (Nat × List Nat) := [(0, [26]), (1, [153, 0, 9]), (4, [26]), (5, [27]), (6, [104]), (7, [158, 0, 7]), (10, [4]), (11, [167, 0, 4]), (14, [3]), (15, [172])]
set_option maxRecDepth 100000 in
theorem dk14dlead_cX10_isOnSide_0_a : btA cX10_isOnSide dk14dlead_cX10_isOnSide_0 = true := by decide +kernel
theorem dX10_isOnSide_0 : decode cX10_isOnSide 0 = .ok (.iload_n 0, 1) := bd26 (btAt dk14dlead_cX10_isOnSide_0_a 0 rfl)
theorem dX10_isOnSide_1 : decode cX10_isOnSide 1 = .ok (.ifCond .eq 9, 3) := bd153 (a := 0) (b := 9) (btAt dk14dlead_cX10_isOnSide_0_a 1 rfl)
theorem dX10_isOnSide_4 : decode cX10_isOnSide 4 = .ok (.iload_n 0, 1) := bd26 (btAt dk14dlead_cX10_isOnSide_0_a 2 rfl)
theorem dX10_isOnSide_5 : decode cX10_isOnSide 5 = .ok (.iload_n 1, 1) := bd27 (btAt dk14dlead_cX10_isOnSide_0_a 3 rfl)
theorem dX10_isOnSide_6 : decode cX10_isOnSide 6 = .ok (.imul, 1) := bd104 (btAt dk14dlead_cX10_isOnSide_0_a 4 rfl)
theorem dX10_isOnSide_7 : decode cX10_isOnSide 7 = .ok (.ifCond .le 7, 3) := bd158 (a := 0) (b := 7) (btAt dk14dlead_cX10_isOnSide_0_a 5 rfl)
theorem dX10_isOnSide_10 : decode cX10_isOnSide 10 = .ok (.iconst 1, 1) := bd4 (btAt dk14dlead_cX10_isOnSide_0_a 6 rfl)
theorem dX10_isOnSide_11 : decode cX10_isOnSide 11 = .ok (.goto 4, 3) := bd167 (a := 0) (b := 4) (btAt dk14dlead_cX10_isOnSide_0_a 7 rfl)
theorem dX10_isOnSide_14 : decode cX10_isOnSide 14 = .ok (.iconst 0, 1) := bd3 (btAt dk14dlead_cX10_isOnSide_0_a 8 rfl)
theorem dX10_isOnSide_15 : decode cX10_isOnSide 15 = .ok (.ireturn, 1) := bd172 (btAt dk14dlead_cX10_isOnSide_0_a 9 rfl)
noncomputable def dk14dlead_cX10_leadsTo_0 : List (Nat × List Nat) := [(0, [42]), (1, [180, 0, 9]), (4, [16, 8]), (6, [112]), (7, [61]), (8, [178, 0, 15]), (11, [28]), (12, [46]), (13, [27]), (14, [184, 0, 19]), (17, [42]), (18, [180, 0, 23]), (21, [184, 0, 19]), (24, [100]), (25, [184, 0, 26]), (28, [153, 0, 30]), (31, [178, 0, 30]), (34, [28]), (35, [46]), (36, [27]), (37, [184, 0, 33]), (40, [42]), (41, [180, 0, 23]), (44, [184, 0, 33]), (47, [100]), (48, [184, 0, 26]), (51, [153, 0, 7]), (54, [4]), (55, [167, 0, 4]), (58, [3]), (59, [172])]
set_option maxRecDepth 100000 in
theorem dk14dlead_cX10_leadsTo_0_a : btA cX10_leadsTo dk14dlead_cX10_leadsTo_0 = true := by decide +kernel
theorem dX10_leadsTo_0 : decode cX10_leadsTo 0 = .ok (.aload_n 0, 1) := bd42 (btAt dk14dlead_cX10_leadsTo_0_a 0 rfl)
theorem dX10_leadsTo_1 : decode cX10_leadsTo 1 = .ok (.getfield 9, 3) := bd180 (a := 0) (b := 9) (btAt dk14dlead_cX10_leadsTo_0_a 1 rfl)
theorem dX10_leadsTo_4 : decode cX10_leadsTo 4 = .ok (.bipush 8, 2) := bd16 (a := 8) (btAt dk14dlead_cX10_leadsTo_0_a 2 rfl)
theorem dX10_leadsTo_6 : decode cX10_leadsTo 6 = .ok (.irem, 1) := bd112 (btAt dk14dlead_cX10_leadsTo_0_a 3 rfl)
theorem dX10_leadsTo_7 : decode cX10_leadsTo 7 = .ok (.istore_n 2, 1) := bd61 (btAt dk14dlead_cX10_leadsTo_0_a 4 rfl)
theorem dX10_leadsTo_8 : decode cX10_leadsTo 8 = .ok (.getstatic 15, 3) := bd178 (a := 0) (b := 15) (btAt dk14dlead_cX10_leadsTo_0_a 5 rfl)
theorem dX10_leadsTo_11 : decode cX10_leadsTo 11 = .ok (.iload_n 2, 1) := bd28 (btAt dk14dlead_cX10_leadsTo_0_a 6 rfl)
theorem dX10_leadsTo_12 : decode cX10_leadsTo 12 = .ok (.iaload, 1) := bd46 (btAt dk14dlead_cX10_leadsTo_0_a 7 rfl)
theorem dX10_leadsTo_13 : decode cX10_leadsTo 13 = .ok (.iload_n 1, 1) := bd27 (btAt dk14dlead_cX10_leadsTo_0_a 8 rfl)
theorem dX10_leadsTo_14 : decode cX10_leadsTo 14 = .ok (.invokestatic 19, 3) := bd184 (a := 0) (b := 19) (btAt dk14dlead_cX10_leadsTo_0_a 9 rfl)
theorem dX10_leadsTo_17 : decode cX10_leadsTo 17 = .ok (.aload_n 0, 1) := bd42 (btAt dk14dlead_cX10_leadsTo_0_a 10 rfl)
theorem dX10_leadsTo_18 : decode cX10_leadsTo 18 = .ok (.getfield 23, 3) := bd180 (a := 0) (b := 23) (btAt dk14dlead_cX10_leadsTo_0_a 11 rfl)
theorem dX10_leadsTo_21 : decode cX10_leadsTo 21 = .ok (.invokestatic 19, 3) := bd184 (a := 0) (b := 19) (btAt dk14dlead_cX10_leadsTo_0_a 12 rfl)
theorem dX10_leadsTo_24 : decode cX10_leadsTo 24 = .ok (.isub, 1) := bd100 (btAt dk14dlead_cX10_leadsTo_0_a 13 rfl)
theorem dX10_leadsTo_25 : decode cX10_leadsTo 25 = .ok (.invokestatic 26, 3) := bd184 (a := 0) (b := 26) (btAt dk14dlead_cX10_leadsTo_0_a 14 rfl)
theorem dX10_leadsTo_28 : decode cX10_leadsTo 28 = .ok (.ifCond .eq 30, 3) := bd153 (a := 0) (b := 30) (btAt dk14dlead_cX10_leadsTo_0_a 15 rfl)
theorem dX10_leadsTo_31 : decode cX10_leadsTo 31 = .ok (.getstatic 30, 3) := bd178 (a := 0) (b := 30) (btAt dk14dlead_cX10_leadsTo_0_a 16 rfl)
theorem dX10_leadsTo_34 : decode cX10_leadsTo 34 = .ok (.iload_n 2, 1) := bd28 (btAt dk14dlead_cX10_leadsTo_0_a 17 rfl)
theorem dX10_leadsTo_35 : decode cX10_leadsTo 35 = .ok (.iaload, 1) := bd46 (btAt dk14dlead_cX10_leadsTo_0_a 18 rfl)
theorem dX10_leadsTo_36 : decode cX10_leadsTo 36 = .ok (.iload_n 1, 1) := bd27 (btAt dk14dlead_cX10_leadsTo_0_a 19 rfl)
theorem dX10_leadsTo_37 : decode cX10_leadsTo 37 = .ok (.invokestatic 33, 3) := bd184 (a := 0) (b := 33) (btAt dk14dlead_cX10_leadsTo_0_a 20 rfl)
theorem dX10_leadsTo_40 : decode cX10_leadsTo 40 = .ok (.aload_n 0, 1) := bd42 (btAt dk14dlead_cX10_leadsTo_0_a 21 rfl)
theorem dX10_leadsTo_41 : decode cX10_leadsTo 41 = .ok (.getfield 23, 3) := bd180 (a := 0) (b := 23) (btAt dk14dlead_cX10_leadsTo_0_a 22 rfl)
theorem dX10_leadsTo_44 : decode cX10_leadsTo 44 = .ok (.invokestatic 33, 3) := bd184 (a := 0) (b := 33) (btAt dk14dlead_cX10_leadsTo_0_a 23 rfl)
theorem dX10_leadsTo_47 : decode cX10_leadsTo 47 = .ok (.isub, 1) := bd100 (btAt dk14dlead_cX10_leadsTo_0_a 24 rfl)
theorem dX10_leadsTo_48 : decode cX10_leadsTo 48 = .ok (.invokestatic 26, 3) := bd184 (a := 0) (b := 26) (btAt dk14dlead_cX10_leadsTo_0_a 25 rfl)
theorem dX10_leadsTo_51 : decode cX10_leadsTo 51 = .ok (.ifCond .eq 7, 3) := bd153 (a := 0) (b := 7) (btAt dk14dlead_cX10_leadsTo_0_a 26 rfl)
theorem dX10_leadsTo_54 : decode cX10_leadsTo 54 = .ok (.iconst 1, 1) := bd4 (btAt dk14dlead_cX10_leadsTo_0_a 27 rfl)
theorem dX10_leadsTo_55 : decode cX10_leadsTo 55 = .ok (.goto 4, 3) := bd167 (a := 0) (b := 4) (btAt dk14dlead_cX10_leadsTo_0_a 28 rfl)
theorem dX10_leadsTo_58 : decode cX10_leadsTo 58 = .ok (.iconst 0, 1) := bd3 (btAt dk14dlead_cX10_leadsTo_0_a 29 rfl)
theorem dX10_leadsTo_59 : decode cX10_leadsTo 59 = .ok (.ireturn, 1) := bd172 (btAt dk14dlead_cX10_leadsTo_0_a 30 rfl)
/-- a nest mate's static rows by their links, and which kind is above which -/
noncomputable def nestF : List Cond := [.fieldLinkNest RX10 15 "MistHeaps" "DOWN" "[I" "MistHeaps", .fieldLinkNest RX10 30 "MistHeaps" "RIGHT" "[I" "MistHeaps", .fieldLinkNest RX3 24 "MistHeaps" "KIND_ABOVE" "[I" "MistHeaps"]
theorem nestF_tab : ∀ w ∈ nestF, w.onTables = true := by decide +kernel
theorem nestF_warm {s U : State} (hW : s.WarmedH U.vm) (h : ∀ w ∈ nestF, va_Nw w s) : ∀ w ∈ nestF, va_Nw w U := by
  have k : ∀ w ∈ nestF, ∃ (a : String) (i : Nat) (b n d h : String), w = .fieldLinkNest a i b n d h := by
    intro w hw
    simp only [nestF, List.mem_cons, List.not_mem_nil, or_false] at hw
    rcases hw with rfl | rfl | rfl <;> exact ⟨_, _, _, _, _, _, rfl⟩
  intro w hw
  obtain ⟨a, i, b, n, d, h9, rfl⟩ := k w hw
  exact va_Nw.warmF hW (h _ hw)
noncomputable def fAbove : Nat → Int32 := fun k => [-1, 0, 0, 0, 1, 2, 3].getD k 0
theorem fAbove_of {k : Nat} (h : k < 7) : fAbove k = -1 ∨ ∃ j : Nat, j < 7 ∧ fAbove k = nI j := by
  have : k = 0 ∨ k = 1 ∨ k = 2 ∨ k = 3 ∨ k = 4 ∨ k = 5 ∨ k = 6 := by omega
  rcases this with rfl | rfl | rfl | rfl | rfl | rfl | rfl
  · exact Or.inl rfl
  · exact Or.inr ⟨0, by omega, rfl⟩
  · exact Or.inr ⟨0, by omega, rfl⟩
  · exact Or.inr ⟨0, by omega, rfl⟩
  · exact Or.inr ⟨1, by omega, rfl⟩
  · exact Or.inr ⟨2, by omega, rfl⟩
  · exact Or.inr ⟨3, by omega, rfl⟩
noncomputable def Gn (kA : Nat) (A : Nat → Prop) (U : State) : Prop := (∀ w ∈ nestF, va_Nw w U) ∧ va_Z "MistHeaps" "KIND_ABOVE" "[I" (.ref kA) A U U.heap ∧ va_T .int kA 7 (fun k => .int (fAbove k)) A U U.heap
theorem Gn.same {kA : Nat} {A : Nat → Prop} {u U : State} (h : Gn kA A u) (hvm : u.vm = U.vm) (hh : U.heap = u.heap) : Gn kA A U := by
  obtain ⟨h1, h2, h3⟩ := h
  have hv : u.vm.Alike U.vm := by rw [hvm]; exact Vm.Alike.refl _
  refine ⟨fun w hw => va_Nw.same (nestF_tab w hw) hvm (h1 w hw), ?_, ?_⟩
  · rw [hh]; exact h2.moved hv
  · rw [hh]; exact h3.moved hv
theorem Gn.mv {kA : Nat} {A : Nat → Prop} {U : State} (g : _) (mk : _) (a : _) (h : Gn kA A U) : Gn kA A (U.calling g mk a) := h.same rfl rfl
theorem Gn.call {kA : Nat} {A B : Nat → Prop} {s U : State} {H : Heap} {locs : List Loc} (h : Gn kA A s) (hS : va_S A s.heap H locs) (hU : U.heap = H) (hW : s.WarmedH U.vm) (hB : ∀ q, B q → A q) : Gn kA B U := by
  obtain ⟨h1, h2, h3⟩ := h
  refine ⟨nestF_warm hW h1, ?_, ?_⟩
  · rw [hU]; exact ((h2.kept (H1 := H) hS.2.1).moved hW.alike).narrow hB
  · rw [hU]; exact ((h3.kept (H1 := H) hS.2.1).moved hW.alike).narrow hB
theorem Gn.callF {kA : Nat} {A : Nat → Prop} {s U : State} {H : Heap} {locs : List Loc} (h : Gn kA A s) (hS : va_S A s.heap H locs) (hU : U.heap = H) (hW : s.WarmedH U.vm) : Gn kA (fun _ => False) U := h.call hS hU hW (fun _ q => q.elim)

/-- the words of a super call that names the class above, whose body is of one class more above -/
noncomputable def s2W (own : String) (idx : Nat) (x y : MethodName) (ws : List Cond) : List Cond := ([.methodLink own idx x, .sameMethod x.cls y.cls x.name x.desc, .superclass own x.cls, .superclass x.cls y.cls, .instanceMethod y, .initialized y.cls] : List Cond) ++ ws
noncomputable def okW (w : Cond) : Prop := (w.onTables && w.keeps) = true ∨ ∃ ty, w = .arrayClass ty
theorem s2_ok {own : String} {idx : Nat} {x y : MethodName} {ws : List Cond} (h : ∀ w ∈ ws, okW w) : ∀ w ∈ s2W own idx x y ws, okW w := by
  intro w hw
  rcases List.mem_append.mp hw with q | q
  · simp only [List.mem_cons, List.not_mem_nil, or_false] at q
    rcases q with rfl | rfl | rfl | rfl | rfl | rfl <;> exact Or.inl (by first | rfl | simp [Cond.onTables, Cond.keeps, Cond.steady])
  · exact h w q
noncomputable def x7r : MethodName := ⟨"MistHeaps$False", "reachBy", "(II)I"⟩
noncomputable def x7g : MethodName := ⟨"MistHeaps$False", "doGoes", "(ILjava/util/ArrayList;)I"⟩
noncomputable def x9s : MethodName := ⟨"MistHeaps$Low", "doSees", "(ILjava/util/ArrayList;)I"⟩
noncomputable def x10l : MethodName := ⟨"MistHeaps$High", "doLooks", "(ILjava/util/ArrayList;)I"⟩
noncomputable def oldW : List Cond := (s2W RX7 7 x7r yX3_reachBy wsX3_reachBy ++ s2W RX7 22 x7g yX3_doGoes wsX3_doGoes) ++ (s2W RX9 21 x9s yX3_doSees wsX3_doSees ++ s2W RX10 40 x10l yX3_doLooks wsX3_doLooks)
theorem oldW_ok : ∀ w ∈ oldW, okW w := List.forall_mem_append.mpr ⟨List.forall_mem_append.mpr ⟨s2_ok (fun w h => (ggX4_reachBy_X3_reachBy w h).2), s2_ok (fun w h => (ggX6_doGoes_X3_doGoes w h).2)⟩, List.forall_mem_append.mpr ⟨s2_ok (fun w h => (ggX4_doSees_X3_doSees w h).2), s2_ok (fun w h => (ggX1_doLooks_X3_doLooks w h).2)⟩⟩
/-- what the printed words of the overriding methods leave out -/
noncomputable def Gw (A : Nat → Prop) (U : State) : Prop := ∀ w ∈ oldW, w.before #[] U = true
theorem Gw.same {A : Nat → Prop} {u U : State} (h : Gw A u) (hvm : u.vm = U.vm) (hh : U.heap = u.heap) : Gw A U := fun w hw => word_at (s := u) (U := U) (by rw [← hvm]; exact State.WarmedH.refl u) (oldW_ok w hw) (h w hw)
theorem Gw.mv {A : Nat → Prop} {U : State} (g : _) (mk : _) (a : _) (h : Gw A U) : Gw A (U.calling g mk a) := h.same rfl rfl
theorem Gw.call {A B : Nat → Prop} {s U : State} {H : Heap} {locs : List Loc} (h : Gw A s) (hS : va_S A s.heap H locs) (hU : U.heap = H) (hW : s.WarmedH U.vm) (hB : ∀ q, B q → A q) : Gw B U := fun w hw => word_at hW (oldW_ok w hw) (h w hw)
theorem Gw.callF {A : Nat → Prop} {s U : State} {H : Heap} {locs : List Loc} (h : Gw A s) (hS : va_S A s.heap H locs) (hU : U.heap = H) (hW : s.WarmedH U.vm) : Gw (fun _ => False) U := fun w hw => word_at hW (oldW_ok w hw) (h w hw)
noncomputable def s2_C (R : Room) (s : State) (args : Array Value) (own : String) (index : Nat) (x y : MethodName) (bytes : ByteArray) (maxL : Nat) (ret : Option FieldType) (ws : List Cond) (rm : Room) (mc ms n : Nat) : Prop :=
  (rm.cells = mc ∧ rm.slots = ms ∧ rm.frames + 1 ≤ R.frames ∧ 8 + (maxL + 11) + rm.locals ≤ R.locals ∧ (∀ w ∈ ws, ∀ (a' : Array Value) (U : State), s.WarmedH U.vm → w.before a' U = true) ∧ Cond.code y bytes maxL ret ∈ ws) ∧
  (Cond.methodLink own index x).before args s = true ∧ (Cond.sameMethod x.cls y.cls x.name x.desc).before args s = true ∧ (Cond.superclass own x.cls).before args s = true ∧ (Cond.superclass x.cls y.cls).before args s = true ∧ (Cond.instanceMethod y).before args s = true ∧ (Cond.initialized y.cls).before args s = true ∧ (Cond.code y bytes maxL ret).before args s = true ∧ x.name = y.name ∧ x.desc = y.desc ∧ y.name ≠ "<init>" ∧ (∀ sig, parseMethodDescriptor y.desc = some sig → n = sig.parameters.length)
theorem s2_cw {R : Room} {s : State} {args : Array Value} {own : String} {index maxL mc ms : Nat} {x y : MethodName} {bytes : ByteArray} {ret : Option FieldType} {ws ws' : List Cond} {rm : Room} {A : Nat → Prop} (n : Nat) (hG : Gw A s) (hT : ∀ w ∈ s2W own index x y ws, w ∈ oldW) (hw : ws = Cond.code y bytes maxL ret :: ws') (hrc : rm.cells = mc) (hrs : rm.slots = ms) (hxn : x.name = y.name) (hxd : x.desc = y.desc)
    (hd : y.name ≠ "<init>" ∧ (parseMethodDescriptor y.desc).map (fun d => d.parameters.length) = some n) (hR : rm.frames + 1 ≤ R.frames ∧ 8 + (maxL + 11) + rm.locals ≤ R.locals) : s2_C R s args own index x y bytes maxL ret ws rm mc ms n := by
  have ok : ∀ w ∈ s2W own index x y ws, ∀ (a' : Array Value) (U : State), s.WarmedH U.vm → w.before a' U = true := fun w h a' U hW => word_at hW (oldW_ok w (hT w h)) (hG w (hT w h))
  have ok1 : ∀ w ∈ s2W own index x y ws, w.before args s = true := fun w h => ok w h args s (State.WarmedH.refl s)
  have hin : ∀ w ∈ ws, w ∈ s2W own index x y ws := fun w h => List.mem_append_right _ h
  have hc : Cond.code y bytes maxL ret ∈ ws := by rw [hw]; exact List.mem_cons_self
  refine ⟨⟨hrc, hrs, hR.1, hR.2, fun w h => ok w (hin w h), hc⟩, ok1 _ (by simp [s2W]), ok1 _ (by simp [s2W]), ok1 _ (by simp [s2W]), ok1 _ (by simp [s2W]), ok1 _ (by simp [s2W]), ok1 _ (by simp [s2W]), ok1 _ (hin _ hc), hxn, hxd, hd.1, fun sig h => ?_⟩
  have h2 := hd.2
  rw [h] at h2
  exact (Option.some.inj h2).symm
section
variable {p : Program} {l : Launch} {e : Env} {R : Room} {s : State} {m : MethodId} {args : Array Value} {below : List Frame} {meth : Method} {c : Code}
theorem s2_call {T : State} {locs : List Loc} {cells slots : Nat} (X : Stand p l e R s m args below meth c T locs cells slots) (hexec : p.tables.exec = Jvm.exec) {own : String} {index : Nat} {x y : MethodName} {bytes : ByteArray} {maxL : Nat} {ret : Option FieldType}
    (hown : s.vm.findClass own = some m.cls) (hlink : (Cond.methodLink own index x).before args s = true) (hsame : (Cond.sameMethod x.cls y.cls x.name x.desc).before args s = true) (hsup : (Cond.superclass own x.cls).before args s = true) (hsup2 : (Cond.superclass x.cls y.cls).before args s = true)
    (hinst : (Cond.instanceMethod y).before args s = true) (hcode : (Cond.code y bytes maxL ret).before args s = true) (hxn : x.name = y.name) (hxd : x.desc = y.desc) (hno : y.name ≠ "<init>")
    {W : Nat} {Pre : Pt → Array Value → Prop} {Post : Pt → Array Value → Option Value → Pt → Prop} (hK : Back l R p e below s args y 3 W Pre Post)
    {b : Addr} {cellB : Cell} {kB : Class} (hcell : T.heap[b]? = some cellB) (hobj : cellB.vm.isStatics = false) (hkB : s.vm.classes[cellB.cls]? = some kB)
    {g : JFrame} (hg : g.method = m) (hsize : g.locals.size = c.maxLocals) {argsL rest : List Value} (hlen : ∀ sig, parseMethodDescriptor y.desc = some sig → argsL.length = sig.parameters.length)
    (hstack : g.stack = argsL.reverse ++ .ref b :: rest) (hW : 2 * g.monitorRoom + (rest.map fun v => v.category).sum ≤ W) (hdg : decode c.code g.pc = .ok (.invokespecial index, 3))
    (hpre : ∀ vm₁, s.WarmedH vm₁ → Pre ⟨T.setVm vm₁, locs, cells, slots⟩ (Value.ref b :: argsL).toArray) :
    ∃ (v : Option Value) (vm₁ : Vm) (B : Pt), s.WarmedH vm₁ ∧ Stand p l e R s m args below meth c B.U B.locs B.cells B.slots ∧ Post ⟨T.setVm vm₁, locs, cells, slots⟩ (Value.ref b :: argsL).toArray v B ∧
      ∀ target, Steps p.tables e below (B.U.setTop { g with pc := g.pc + 3, stack := v.toList ++ rest }) target → Steps p.tables e below (T.setTop g) target := by
  obtain ⟨mk, methM, hnamed, hmethM, hstM, habM⟩ := Cond.instanceMethod_spec hinst
  obtain ⟨methM', cM, hmethM', -, -, -, -, -, -, hsigM⟩ := Cond.code_spec hnamed hcode
  cases hmethM.symm.trans hmethM'
  obtain ⟨ps, dk, kp, hps, hdk, hkp, hsuper, -, -, hnid⟩ := Cond.superclass_spec hown hsup
  obtain ⟨pt, dk2, kp2, hpt, hdk2, hkp2, hsuper2, -, -, -⟩ := Cond.superclass_spec hps hsup2
  have hn : s.methodNamed? ⟨y.cls, x.name, x.desc⟩ = some mk := by rw [hxn, hxd]; exact hnamed
  have hpm : pt = mk.cls := Option.some.inj (hpt.symm.trans (findClass_of_methodNamed hnamed))
  have hsub : s.vm.isSubclass ps mk.cls = true := by
    rw [← hpm]
    obtain ⟨k, hk⟩ : ∃ k, s.vm.classes.size = k + 1 := by
      have h9 : ps < s.vm.classes.size := (Array.getElem?_eq_some_iff.mp hdk2).1
      exact ⟨s.vm.classes.size - 1, (Nat.succ_pred_eq_of_pos (Nat.lt_of_le_of_lt (Nat.zero_le _) h9)).symm⟩
    simp [Vm.isSubclass, hk, Vm.isSubclassAux, hdk2, hsuper2]
  obtain ⟨vm₁, X₁, hstep₁⟩ := X.invokespecialUp hexec hown hlink hsame hn hmethM hstM habM (by rw [hxn]; exact hno) hdk hnid hps hsuper hsub (a := b) (cell := cellB) hcell
    (fun z h => by rw [h] at hobj; cases hobj) hkB (g := g) hg (argsL := argsL) (rest := rest) (hlen _ hsigM) hstack hdg
  obtain ⟨v, B, X', hpost, hsteps⟩ := hK m meth c ⟨T.setVm vm₁, locs, cells, slots⟩ { g with stack := rest } (.invokespecial index) mk (Value.ref b :: argsL).toArray X₁ hg hsize hdg hW (X₁.named hnamed) (hpre vm₁ X₁.warmed)
  exact ⟨v, vm₁, B, X₁.warmed, X', hpost, fun target h => hstep₁ _ (by rw [doInvoke_state]; exact hsteps.trans h)⟩
variable {H : Heap} {locs : List Loc} {cells slots : Nat}
theorem va_runS2 {x y : MethodName} {bytes cc : ByteArray} {maxL nL mc ms n index : Nat} {ret : Option FieldType} {ws : List Cond} {rm : Room} {Pc : Array Value → State → Prop} {Qc : Array Value → State → Outcome → State → Prop} {free : Addr → Prop} {Ts : List Cond} {own C : String} {cC : ClassId} {b : Addr} {As rest : List Value} {g : JFrame}
    (hat : ClassAt s C cC) (S : CallFix p m c cc nL s args Ts own) (hM : Met l y ws rm Pc Qc mc ms free) (cw : s2_C R s args own index x y bytes maxL ret ws rm mc ms n) (hp : PreV s H C b Pc As)
    (hg : g.method = m) (hn : As.length = n) (hsize : g.locals.size = nL) (hstack : g.stack = As.reverse ++ .ref b :: rest) (hW : 2 * g.monitorRoom + (rest.map fun v => v.category).sum ≤ 8) (hdg : decode cc g.pc = .ok (.invokespecial index, 3)) (hf : cells + mc ≤ R.cells ∧ slots + ms ≤ R.slots) :
    va_Run p l e R s m args below meth c H locs cells slots mc ms g rest (Qc (Value.ref b :: As).toArray) (free) := by
  obtain ⟨⟨hrc, hrs, hfr, hlo, hws, hcw⟩, hl1, hl2, hl3, hl3b, hl4, hini, hcode, hxn, hxd, hno, hlen⟩ := cw
  have hK : Back l R p e below s args y 3 8 (PreOf R mc ms Pc) (PostOf Qc mc ms free) := back_of (bytes := bytes) (maxL := maxL) (ret := ret) hM hp.1 hrc hrs hfr hlo hws hcw (fun a' U hW => word_at hW (Or.inl (by first | rfl | simp [Cond.onTables, Cond.keeps, Cond.steady])) hini)
  obtain ⟨hx, hb, hml, ho, -⟩ := S
  obtain ⟨-, ⟨cellB, hcB, hoB, hclB⟩, hPc⟩ := hp
  obtain ⟨hfc, kB, hkB, -⟩ := hat
  cases hfc.symm.trans hclB
  intro T hT X
  obtain ⟨v, vm₁, ⟨U', l2, c2, s2⟩, hW₁, X', ⟨g', mk, t, L, e1, e2, hq, h1, hL, h2, h3⟩, st⟩ := s2_call X hx (bytes := bytes) (maxL := maxL) (ret := ret) ho hl1 hl2 hl3 hl3b hl4 hcode hxn hxd hno hK (by rw [hT]; exact hcB) hoB hkB hg (hsize.trans hml.symm) (argsL := As) (rest := rest) (fun sig h => hn.trans (hlen sig h)) hstack hW (by rw [hb]; exact hdg)
    (fun vm₁ hW₁ => ⟨hf.1, hf.2, hPc (T.setVm vm₁) hT hW₁⟩)
  dsimp only [Pt.U, Pt.locs, Pt.cells, Pt.slots] at X' e1 e2 h1 h2 h3 st
  subst h1; subst h2; subst h3
  exact ⟨v, (T.setVm vm₁).calling g' mk (Value.ref b :: As).toArray, t, U', L, hT, X', hL, e1, e2, hq, st⟩
end
theorem in7r : ∀ w ∈ s2W RX7 7 x7r yX3_reachBy wsX3_reachBy, w ∈ oldW := fun w h => List.mem_append_left _ (List.mem_append_left _ h)
theorem in7g : ∀ w ∈ s2W RX7 22 x7g yX3_doGoes wsX3_doGoes, w ∈ oldW := fun w h => List.mem_append_left _ (List.mem_append_right _ h)
theorem in9s : ∀ w ∈ s2W RX9 21 x9s yX3_doSees wsX3_doSees, w ∈ oldW := fun w h => List.mem_append_right _ (List.mem_append_left _ h)
theorem in10l : ∀ w ∈ s2W RX10 40 x10l yX3_doLooks wsX3_doLooks, w ∈ oldW := fun w h => List.mem_append_right _ (List.mem_append_right _ h)

theorem kc_reach3_X7_0 : (.methodLink RX3 28 Lib.Math.max.name : Cond) ∈ wsX3_reachBy := kc_of 684 rfl rfl rfl
theorem kc_reach3_X7_1 : (.static Lib.Math.max.name : Cond) ∈ wsX3_reachBy := kc_of 426 rfl rfl rfl
theorem kc_reach3_X7_2 : (.initialized "java/lang/Math" : Cond) ∈ wsX3_reachBy := kc_of 77 rfl rfl rfl
theorem kc_reach3_X7_3 : (.code Lib.Math.max.name Lib.Math.max.code 2 (some .int) : Cond) ∈ wsX3_reachBy := kc_of 427 rfl rfl rfl
set_option maxHeartbeats 4000000 in
set_option maxRecDepth 100000 in
theorem c_reach3_X7 (l : Launch) (dC : Nat → ClassId) (dI : Nat → Nat → Nat)  (i0 : Nat) (sk : Int32) (sv : Int32) (scl : Int32) (x : Int32) (y : Int32) (a0 : Nat) : Met l yX3_reachBy wsX3_reachBy ({ frames := 1, cells := 0, slots := 0, locals := 13 } : Room) (va_Pc [.ref a0, .int x, .int y] (fun U => Fz dC dI [(zo9iiii a0 sk (nI i0) sv scl)] [] (fun _ => False) U)) (vp_Si (fun r => r = mx0 x)) 0 0 (fun _ => False) := by
  refine met_ofQ (cc := cX3_reachBy) (maxL := 3) (ret := (some .int)) (by decide) rfl ?_
  intro p e s m args below meth c s₁ Q B hml hv hQ
  obtain ⟨rfl, hZ⟩ := hv
  have hx := B.exec
  have hb := B.bytes
  have hr := B.returns
  have hts := atoms_spec (ws := wsX3_reachBy) B.pre
  have hown : s.vm.findClass RX3 = some m.cls := findClass_of_methodNamed B.named
  have hlocks := B.notSynchronized
  obtain ⟨A, hAe⟩ : ∃ A : Nat → Prop, A = fun _ => False := ⟨_, rfl⟩
  rw [← hAe] at hQ hZ
  have hS : va_S A s.heap s.heap [] := va_S.rf
  have hl := lv_entry [.ref a0, .int x, .int y] (n := 3) (Nat.le_of_ble_eq_true rfl)
  rw [lg_entry_eq]
  generalize (lg_sl [.ref a0, .int x, .int y] ++ List.replicate (3 - (lg_sl [.ref a0, .int x, .int y]).length) Slot.unset).toArray = ls at hl ⊢
  generalize hag : ([.ref a0, .int x, .int y] : List Value).toArray = args at hts hQ ⊢
  have hl : lv_has ls 3 [(0, .ref a0), (1, .int x), (2, .int y)] := hl
  refine lv_iconst (v := 0) hx hb dX3_reachBy_0 (by decide) ?_
  refine lv_iload_n hx hb dX3_reachBy_1 rfl (lv_at hl 1 rfl) ?_
  refine va_mmax hx hb (by rw [hml]; exact hl.1.symm) hown (hts (.methodLink RX3 28 Lib.Math.max.name) kc_reach3_X7_0) (hts (.static Lib.Math.max.name) kc_reach3_X7_1) (hts (.initialized "java/lang/Math") kc_reach3_X7_2) (hts (.code Lib.Math.max.name Lib.Math.max.code 2 (some .int)) kc_reach3_X7_3) (Nat.le_of_ble_eq_true rfl) (Nat.le_of_ble_eq_true rfl) (Nat.le_of_ble_eq_true rfl) (Nat.le_of_ble_eq_true rfl) dX3_reachBy_2 ?_
  rw [hQ]
  exact W.iret (v := (if 0 < x then x else 0)) hx hb hr (fun tQ htQ hWQ => ⟨(if 0 < x then x else 0), rfl, rfl, by rw [htQ]⟩) (fun q hq => absurd hq List.not_mem_nil) dX3_reachBy_5

theorem kc_reach7_0 : (.methodLink RX7 11 Lib.Math.min.name : Cond) ∈ wsX7_reachBy := kc_of 677 rfl rfl rfl
theorem kc_reach7_1 : (.static Lib.Math.min.name : Cond) ∈ wsX7_reachBy := kc_of 477 rfl rfl rfl
theorem kc_reach7_2 : (.initialized "java/lang/Math" : Cond) ∈ wsX7_reachBy := kc_of 77 rfl rfl rfl
theorem kc_reach7_3 : (.code Lib.Math.min.name Lib.Math.min.code 2 (some .int) : Cond) ∈ wsX7_reachBy := kc_of 478 rfl rfl rfl
set_option maxHeartbeats 4000000 in
set_option maxRecDepth 100000 in
theorem c_reach7 (l : Launch) (dC : Nat → ClassId) (dI : Nat → Nat → Nat)   (i0 : Nat) (sk : Int32) (sv : Int32) (scl : Int32) (x : Int32) (y : Int32) (a0 : Nat) : Met l yX7_reachBy wsX7_reachBy ({ frames := 2, cells := 0, slots := 0, locals := 35 } : Room) (va_Pc [.ref a0, .int x, .int y] (fun U => Gw (fun _ => False) U ∧ Fz dC dI [(zo9iiii a0 sk (nI i0) sv scl)] [] (fun _ => False) U)) (vp_Si (fun r => r = if mx0 x < 1 then mx0 x else 1)) 0 0 (fun _ => False) := by
  refine met_ofQ (cc := cX7_reachBy) (maxL := 3) (ret := (some .int)) (by decide) rfl ?_
  intro p e s m args below meth c s₁ Q B hml hv hQ
  obtain ⟨rfl, hW_, hZ⟩ := hv
  have hx := B.exec
  have hb := B.bytes
  have hr := B.returns
  have hts := atoms_spec (ws := wsX7_reachBy) B.pre
  have hown : s.vm.findClass RX7 = some m.cls := findClass_of_methodNamed B.named
  have hlocks := B.notSynchronized
  obtain ⟨A, hAe⟩ : ∃ A : Nat → Prop, A = fun _ => False := ⟨_, rfl⟩
  rw [← hAe] at hQ hW_ hZ
  have hS : va_S A s.heap s.heap [] := va_S.rf
  have hl := lv_entry [.ref a0, .int x, .int y] (n := 3) (Nat.le_of_ble_eq_true rfl)
  rw [lg_entry_eq]
  generalize (lg_sl [.ref a0, .int x, .int y] ++ List.replicate (3 - (lg_sl [.ref a0, .int x, .int y]).length) Slot.unset).toArray = ls at hl ⊢
  generalize hag : ([.ref a0, .int x, .int y] : List Value).toArray = args at hts hQ ⊢
  have hl : lv_has ls 3 [(0, .ref a0), (1, .int x), (2, .int y)] := hl
  refine lv_iconst (v := 1) hx hb dX7_reachBy_0 (by decide) ?_
  refine lv_aload_n hx hb dX7_reachBy_1 rfl (lv_at hl 0 rfl) ?_
  refine lv_iload_n hx hb dX7_reachBy_2 rfl (lv_at hl 1 rfl) ?_
  refine lv_iload_n hx hb dX7_reachBy_3 rfl (lv_at hl 2 rfl) ?_
  refine vp_callSi (va_runS2 (hZ.2.1.1 9 (RX7, TX7, 4) rfl).2 (As := [.int x, .int y]) (rest := [.int 1]) ⟨hx, hb, hml, hown, hts⟩ (c_reach3_X7 l dC dI  i0 sk sv scl x y a0) (s2_cw (x := x7r) 2 hW_ in7r rfl rfl rfl rfl rfl (by decide +kernel) ⟨Nat.le_of_ble_eq_true rfl, Nat.le_of_ble_eq_true rfl⟩) ⟨fun a U g mk q => by obtain ⟨q0, qhZ⟩ := q; exact ⟨q0, qhZ.mv g mk a⟩, va_recv hZ.2.1 (hZ.P hS) (ci := 9) (q := (RX7, TX7, 4)) (q0 := 0) rfl rfl, fun U hU hW => ⟨rfl, (hZ.sub [0] [] rfl rfl).callF hS hU hW⟩⟩ rfl rfl hl.1 rfl (lv_room (Nat.le_of_ble_eq_true rfl)) dX7_reachBy_4 ⟨Nat.le_of_ble_eq_true rfl, Nat.le_of_ble_eq_true rfl⟩).run (fun r_1 hw_2 => ?_)
  obtain rfl := hw_2
  refine va_mmin hx hb (by rw [hml]; exact hl.1.symm) hown (hts (.methodLink RX7 11 Lib.Math.min.name) kc_reach7_0) (hts (.static Lib.Math.min.name) kc_reach7_1) (hts (.initialized "java/lang/Math") kc_reach7_2) (hts (.code Lib.Math.min.name Lib.Math.min.code 2 (some .int)) kc_reach7_3) (Nat.le_of_ble_eq_true rfl) (Nat.le_of_ble_eq_true rfl) (Nat.le_of_ble_eq_true rfl) (Nat.le_of_ble_eq_true rfl) dX7_reachBy_7 ?_
  rw [hQ]
  exact W.iret (v := (if (mx0 x) < 1 then (mx0 x) else 1)) hx hb hr (fun tQ htQ hWQ => ⟨(if (mx0 x) < 1 then (mx0 x) else 1), rfl, rfl, by rw [htQ]⟩) (fun q hq => absurd hq List.not_mem_nil) dX7_reachBy_10

set_option maxHeartbeats 4000000 in
set_option maxRecDepth 100000 in
theorem c_lead3_X3 (l : Launch) (dC : Nat → ClassId) (dI : Nat → Nat → Nat)  (i0 : Nat) (sk : Int32) (sv : Int32) (scl : Int32) (x : Int32) (a0 : Nat) : Met l yX3_leadsTo wsX3_leadsTo ({ frames := 0, cells := 0, slots := 0, locals := 0 } : Room) (va_Pc [.ref a0, .int x] (fun U => Fz dC dI [(zo5iiii a0 sk (nI i0) sv scl)] [] (fun _ => False) U)) (vp_Si (fun r => r = 1)) 0 0 (fun _ => False) := by
  refine met_ofQ (cc := cX3_leadsTo) (maxL := 2) (ret := (some .boolean)) (by decide) rfl ?_
  intro p e s m args below meth c s₁ Q B hml hv hQ
  obtain ⟨rfl, hZ⟩ := hv
  have hx := B.exec
  have hb := B.bytes
  have hr := B.returns
  have hts := atoms_spec (ws := wsX3_leadsTo) B.pre
  have hown : s.vm.findClass RX3 = some m.cls := findClass_of_methodNamed B.named
  have hlocks := B.notSynchronized
  obtain ⟨A, hAe⟩ : ∃ A : Nat → Prop, A = fun _ => False := ⟨_, rfl⟩
  rw [← hAe] at hQ hZ
  have hS : va_S A s.heap s.heap [] := va_S.rf
  have hl := lv_entry [.ref a0, .int x] (n := 2) (Nat.le_of_ble_eq_true rfl)
  rw [lg_entry_eq]
  generalize (lg_sl [.ref a0, .int x] ++ List.replicate (2 - (lg_sl [.ref a0, .int x]).length) Slot.unset).toArray = ls at hl ⊢
  generalize hag : ([.ref a0, .int x] : List Value).toArray = args at hts hQ ⊢
  have hl : lv_has ls 2 [(0, .ref a0), (1, .int x)] := hl
  refine lv_iconst (v := 1) hx hb dX3_leadsTo_0 (by decide) ?_
  rw [hQ]
  exact W.zret (v := 1) hx hb hr rfl (fun tQ htQ hWQ => ⟨1, rfl, rfl, by rw [htQ]⟩) (fun q hq => absurd hq List.not_mem_nil) dX3_leadsTo_1

set_option maxHeartbeats 4000000 in
set_option maxRecDepth 100000 in
theorem c_lead3_X4 (l : Launch) (dC : Nat → ClassId) (dI : Nat → Nat → Nat)  (i0 : Nat) (sk : Int32) (sv : Int32) (scl : Int32) (x : Int32) (a0 : Nat) : Met l yX3_leadsTo wsX3_leadsTo ({ frames := 0, cells := 0, slots := 0, locals := 0 } : Room) (va_Pc [.ref a0, .int x] (fun U => Fz dC dI [(zo6iiii a0 sk (nI i0) sv scl)] [] (fun _ => False) U)) (vp_Si (fun r => r = 1)) 0 0 (fun _ => False) := by
  refine met_ofQ (cc := cX3_leadsTo) (maxL := 2) (ret := (some .boolean)) (by decide) rfl ?_
  intro p e s m args below meth c s₁ Q B hml hv hQ
  obtain ⟨rfl, hZ⟩ := hv
  have hx := B.exec
  have hb := B.bytes
  have hr := B.returns
  have hts := atoms_spec (ws := wsX3_leadsTo) B.pre
  have hown : s.vm.findClass RX3 = some m.cls := findClass_of_methodNamed B.named
  have hlocks := B.notSynchronized
  obtain ⟨A, hAe⟩ : ∃ A : Nat → Prop, A = fun _ => False := ⟨_, rfl⟩
  rw [← hAe] at hQ hZ
  have hS : va_S A s.heap s.heap [] := va_S.rf
  have hl := lv_entry [.ref a0, .int x] (n := 2) (Nat.le_of_ble_eq_true rfl)
  rw [lg_entry_eq]
  generalize (lg_sl [.ref a0, .int x] ++ List.replicate (2 - (lg_sl [.ref a0, .int x]).length) Slot.unset).toArray = ls at hl ⊢
  generalize hag : ([.ref a0, .int x] : List Value).toArray = args at hts hQ ⊢
  have hl : lv_has ls 2 [(0, .ref a0), (1, .int x)] := hl
  refine lv_iconst (v := 1) hx hb dX3_leadsTo_0 (by decide) ?_
  rw [hQ]
  exact W.zret (v := 1) hx hb hr rfl (fun tQ htQ hWQ => ⟨1, rfl, rfl, by rw [htQ]⟩) (fun q hq => absurd hq List.not_mem_nil) dX3_leadsTo_1

set_option maxHeartbeats 4000000 in
set_option maxRecDepth 100000 in
theorem c_lead3_X6 (l : Launch) (dC : Nat → ClassId) (dI : Nat → Nat → Nat)  (i0 : Nat) (sk : Int32) (sv : Int32) (scl : Int32) (x : Int32) (a0 : Nat) : Met l yX3_leadsTo wsX3_leadsTo ({ frames := 0, cells := 0, slots := 0, locals := 0 } : Room) (va_Pc [.ref a0, .int x] (fun U => Fz dC dI [(zo8iiii a0 sk (nI i0) sv scl)] [] (fun _ => False) U)) (vp_Si (fun r => r = 1)) 0 0 (fun _ => False) := by
  refine met_ofQ (cc := cX3_leadsTo) (maxL := 2) (ret := (some .boolean)) (by decide) rfl ?_
  intro p e s m args below meth c s₁ Q B hml hv hQ
  obtain ⟨rfl, hZ⟩ := hv
  have hx := B.exec
  have hb := B.bytes
  have hr := B.returns
  have hts := atoms_spec (ws := wsX3_leadsTo) B.pre
  have hown : s.vm.findClass RX3 = some m.cls := findClass_of_methodNamed B.named
  have hlocks := B.notSynchronized
  obtain ⟨A, hAe⟩ : ∃ A : Nat → Prop, A = fun _ => False := ⟨_, rfl⟩
  rw [← hAe] at hQ hZ
  have hS : va_S A s.heap s.heap [] := va_S.rf
  have hl := lv_entry [.ref a0, .int x] (n := 2) (Nat.le_of_ble_eq_true rfl)
  rw [lg_entry_eq]
  generalize (lg_sl [.ref a0, .int x] ++ List.replicate (2 - (lg_sl [.ref a0, .int x]).length) Slot.unset).toArray = ls at hl ⊢
  generalize hag : ([.ref a0, .int x] : List Value).toArray = args at hts hQ ⊢
  have hl : lv_has ls 2 [(0, .ref a0), (1, .int x)] := hl
  refine lv_iconst (v := 1) hx hb dX3_leadsTo_0 (by decide) ?_
  rw [hQ]
  exact W.zret (v := 1) hx hb hr rfl (fun tQ htQ hWQ => ⟨1, rfl, rfl, by rw [htQ]⟩) (fun q hq => absurd hq List.not_mem_nil) dX3_leadsTo_1

set_option maxHeartbeats 4000000 in
set_option maxRecDepth 100000 in
theorem c_lead3_X9 (l : Launch) (dC : Nat → ClassId) (dI : Nat → Nat → Nat)  (i0 : Nat) (sk : Int32) (sv : Int32) (scl : Int32) (x : Int32) (a0 : Nat) : Met l yX3_leadsTo wsX3_leadsTo ({ frames := 0, cells := 0, slots := 0, locals := 0 } : Room) (va_Pc [.ref a0, .int x] (fun U => Fz dC dI [(zo11iiii a0 sk (nI i0) sv scl)] [] (fun _ => False) U)) (vp_Si (fun r => r = 1)) 0 0 (fun _ => False) := by
  refine met_ofQ (cc := cX3_leadsTo) (maxL := 2) (ret := (some .boolean)) (by decide) rfl ?_
  intro p e s m args below meth c s₁ Q B hml hv hQ
  obtain ⟨rfl, hZ⟩ := hv
  have hx := B.exec
  have hb := B.bytes
  have hr := B.returns
  have hts := atoms_spec (ws := wsX3_leadsTo) B.pre
  have hown : s.vm.findClass RX3 = some m.cls := findClass_of_methodNamed B.named
  have hlocks := B.notSynchronized
  obtain ⟨A, hAe⟩ : ∃ A : Nat → Prop, A = fun _ => False := ⟨_, rfl⟩
  rw [← hAe] at hQ hZ
  have hS : va_S A s.heap s.heap [] := va_S.rf
  have hl := lv_entry [.ref a0, .int x] (n := 2) (Nat.le_of_ble_eq_true rfl)
  rw [lg_entry_eq]
  generalize (lg_sl [.ref a0, .int x] ++ List.replicate (2 - (lg_sl [.ref a0, .int x]).length) Slot.unset).toArray = ls at hl ⊢
  generalize hag : ([.ref a0, .int x] : List Value).toArray = args at hts hQ ⊢
  have hl : lv_has ls 2 [(0, .ref a0), (1, .int x)] := hl
  refine lv_iconst (v := 1) hx hb dX3_leadsTo_0 (by decide) ?_
  rw [hQ]
  exact W.zret (v := 1) hx hb hr rfl (fun tQ htQ hWQ => ⟨1, rfl, rfl, by rw [htQ]⟩) (fun q hq => absurd hq List.not_mem_nil) dX3_leadsTo_1

set_option maxHeartbeats 4000000 in
set_option maxRecDepth 100000 in
theorem c_lead1_X1 (l : Launch) (dC : Nat → ClassId) (dI : Nat → Nat → Nat)  (i0 : Nat) (sk : Int32) (sv : Int32) (scl : Int32) (x : Int32) (a0 : Nat) : Met l yX1_leadsTo wsX1_leadsTo ({ frames := 0, cells := 0, slots := 0, locals := 0 } : Room) (va_Pc [.ref a0, .int x] (fun U => Fz dC dI [(zo3iiii a0 sk (nI i0) sv scl)] [] (fun _ => False) U)) (vp_Si (fun r => r = 0)) 0 0 (fun _ => False) := by
  refine met_ofQ (cc := cX1_leadsTo) (maxL := 2) (ret := (some .boolean)) (by decide) rfl ?_
  intro p e s m args below meth c s₁ Q B hml hv hQ
  obtain ⟨rfl, hZ⟩ := hv
  have hx := B.exec
  have hb := B.bytes
  have hr := B.returns
  have hts := atoms_spec (ws := wsX1_leadsTo) B.pre
  have hown : s.vm.findClass RX1 = some m.cls := findClass_of_methodNamed B.named
  have hlocks := B.notSynchronized
  obtain ⟨A, hAe⟩ : ∃ A : Nat → Prop, A = fun _ => False := ⟨_, rfl⟩
  rw [← hAe] at hQ hZ
  have hS : va_S A s.heap s.heap [] := va_S.rf
  have hl := lv_entry [.ref a0, .int x] (n := 2) (Nat.le_of_ble_eq_true rfl)
  rw [lg_entry_eq]
  generalize (lg_sl [.ref a0, .int x] ++ List.replicate (2 - (lg_sl [.ref a0, .int x]).length) Slot.unset).toArray = ls at hl ⊢
  generalize hag : ([.ref a0, .int x] : List Value).toArray = args at hts hQ ⊢
  have hl : lv_has ls 2 [(0, .ref a0), (1, .int x)] := hl
  refine lv_iconst (v := 0) hx hb dX1_leadsTo_0 (by decide) ?_
  rw [hQ]
  exact W.zret (v := 0) hx hb hr rfl (fun tQ htQ hWQ => ⟨0, rfl, rfl, by rw [htQ]⟩) (fun q hq => absurd hq List.not_mem_nil) dX1_leadsTo_1

set_option maxHeartbeats 4000000 in
set_option maxRecDepth 100000 in
theorem c_lead1_X7 (l : Launch) (dC : Nat → ClassId) (dI : Nat → Nat → Nat)  (i0 : Nat) (sk : Int32) (sv : Int32) (scl : Int32) (x : Int32) (a0 : Nat) : Met l yX1_leadsTo wsX1_leadsTo ({ frames := 0, cells := 0, slots := 0, locals := 0 } : Room) (va_Pc [.ref a0, .int x] (fun U => Fz dC dI [(zo9iiii a0 sk (nI i0) sv scl)] [] (fun _ => False) U)) (vp_Si (fun r => r = 0)) 0 0 (fun _ => False) := by
  refine met_ofQ (cc := cX1_leadsTo) (maxL := 2) (ret := (some .boolean)) (by decide) rfl ?_
  intro p e s m args below meth c s₁ Q B hml hv hQ
  obtain ⟨rfl, hZ⟩ := hv
  have hx := B.exec
  have hb := B.bytes
  have hr := B.returns
  have hts := atoms_spec (ws := wsX1_leadsTo) B.pre
  have hown : s.vm.findClass RX1 = some m.cls := findClass_of_methodNamed B.named
  have hlocks := B.notSynchronized
  obtain ⟨A, hAe⟩ : ∃ A : Nat → Prop, A = fun _ => False := ⟨_, rfl⟩
  rw [← hAe] at hQ hZ
  have hS : va_S A s.heap s.heap [] := va_S.rf
  have hl := lv_entry [.ref a0, .int x] (n := 2) (Nat.le_of_ble_eq_true rfl)
  rw [lg_entry_eq]
  generalize (lg_sl [.ref a0, .int x] ++ List.replicate (2 - (lg_sl [.ref a0, .int x]).length) Slot.unset).toArray = ls at hl ⊢
  generalize hag : ([.ref a0, .int x] : List Value).toArray = args at hts hQ ⊢
  have hl : lv_has ls 2 [(0, .ref a0), (1, .int x)] := hl
  refine lv_iconst (v := 0) hx hb dX1_leadsTo_0 (by decide) ?_
  rw [hQ]
  exact W.zret (v := 0) hx hb hr rfl (fun tQ htQ hWQ => ⟨0, rfl, rfl, by rw [htQ]⟩) (fun q hq => absurd hq List.not_mem_nil) dX1_leadsTo_1

set_option maxHeartbeats 4000000 in
set_option maxRecDepth 100000 in
theorem c_onSide (l : Launch) (dC : Nat → ClassId) (dI : Nat → Nat → Nat) (x y : Int32) : Met l yX10_isOnSide wsX10_isOnSide ({ frames := 0, cells := 0, slots := 0, locals := 0 } : Room) (va_Pc [.int x, .int y] (fun U => True)) (vp_Si (fun r => (r = 1 ∧ (x = 0 ∨ 0 < x * y)) ∨ (r = 0 ∧ ¬ (x = 0 ∨ 0 < x * y)))) 0 0 (fun _ => False) := by
  refine met_ofQ (cc := cX10_isOnSide) (maxL := 2) (ret := (some .boolean)) (by decide) rfl ?_
  intro p e s m args below meth c s₁ Q B hml hv hQ
  obtain ⟨rfl, -⟩ := hv
  have hx := B.exec
  have hb := B.bytes
  have hr := B.returns
  have hts := atoms_spec (ws := wsX10_isOnSide) B.pre
  have hown : s.vm.findClass RX10 = some m.cls := findClass_of_methodNamed B.named
  have hlocks := B.notSynchronized
  obtain ⟨A, hAe⟩ : ∃ A : Nat → Prop, A = fun _ => False := ⟨_, rfl⟩
  rw [← hAe] at hQ
  have hS : va_S A s.heap s.heap [] := va_S.rf
  have hl := lv_entry [.int x, .int y] (n := 2) (Nat.le_of_ble_eq_true rfl)
  rw [lg_entry_eq]
  generalize (lg_sl [.int x, .int y] ++ List.replicate (2 - (lg_sl [.int x, .int y]).length) Slot.unset).toArray = ls at hl ⊢
  generalize hag : ([.int x, .int y] : List Value).toArray = args at hts hQ ⊢
  have hl : lv_has ls 2 [(0, .int x), (1, .int y)] := hl
  refine lv_iload_n hx hb dX10_isOnSide_0 rfl (lv_at hl 0 rfl) ?_
  refine lv_if_eq (tgt := 10) hx hb dX10_isOnSide_1 (by decide) (fun c_1 => ?_) (fun c_1 => ?_)
  · skip
    refine lv_iconst (v := 1) hx hb dX10_isOnSide_10 (by decide) ?_
    refine lv_goto (tgt := 15) hx hb dX10_isOnSide_11 (by decide) ?_
    rw [hQ]
    exact W.zret (v := 1) hx hb hr rfl (fun tQ htQ hWQ => ⟨1, rfl, by first | exact Or.inl ⟨rfl, Or.inl (by assumption)⟩ | exact Or.inl ⟨rfl, Or.inr (Int32.not_le.mp (by assumption))⟩ | exact Or.inr ⟨rfl, fun z9 => z9.elim (by assumption) (fun z8 => absurd z8 (Int32.not_lt.mpr (by assumption)))⟩, by rw [htQ]⟩) (fun q hq => absurd hq List.not_mem_nil) dX10_isOnSide_15
  · skip
    refine lv_iload_n hx hb dX10_isOnSide_4 rfl (lv_at hl 0 rfl) ?_
    refine lv_iload_n hx hb dX10_isOnSide_5 rfl (lv_at hl 1 rfl) ?_
    refine lv_imul hx hb dX10_isOnSide_6 ?_
    refine lv_if_le (tgt := 14) hx hb dX10_isOnSide_7 (by decide) (fun c_2 => ?_) (fun c_2 => ?_)
    · skip
      refine lv_iconst (v := 0) hx hb dX10_isOnSide_14 (by decide) ?_
      rw [hQ]
      exact W.zret (v := 0) hx hb hr rfl (fun tQ htQ hWQ => ⟨0, rfl, by first | exact Or.inl ⟨rfl, Or.inl (by assumption)⟩ | exact Or.inl ⟨rfl, Or.inr (Int32.not_le.mp (by assumption))⟩ | exact Or.inr ⟨rfl, fun z9 => z9.elim (by assumption) (fun z8 => absurd z8 (Int32.not_lt.mpr (by assumption)))⟩, by rw [htQ]⟩) (fun q hq => absurd hq List.not_mem_nil) dX10_isOnSide_15
    · skip
      refine lv_iconst (v := 1) hx hb dX10_isOnSide_10 (by decide) ?_
      refine lv_goto (tgt := 15) hx hb dX10_isOnSide_11 (by decide) ?_
      rw [hQ]
      exact W.zret (v := 1) hx hb hr rfl (fun tQ htQ hWQ => ⟨1, rfl, by first | exact Or.inl ⟨rfl, Or.inl (by assumption)⟩ | exact Or.inl ⟨rfl, Or.inr (Int32.not_le.mp (by assumption))⟩ | exact Or.inr ⟨rfl, fun z9 => z9.elim (by assumption) (fun z8 => absurd z8 (Int32.not_lt.mpr (by assumption)))⟩, by rw [htQ]⟩) (fun q hq => absurd hq List.not_mem_nil) dX10_isOnSide_15

theorem kc_lead10_0 : (.fieldLink RX10 9 "MistHeaps$Turning" "v" "I" : Cond) ∈ wsX10_leadsTo := kc_of 237 rfl rfl rfl
theorem kc_lead10_1 : ∀ w ∈ wsX100, w ∈ wsX10_leadsTo := fun w h => List.mem_cons_of_mem _ (gin_wsX100 w h)
theorem kc_lead10_2 : (.sameField "MistHeaps$Turning" "MistHeaps$Heap" "v" "I" : Cond) ∈ wsX10_leadsTo := kc_of 238 rfl rfl rfl
theorem kc_lead10_3 : (.initialized RX11 : Cond) ∈ wsX10_leadsTo := kc_of 63 rfl rfl rfl
theorem kc_lead10_4 : (.static yX11_rowOf : Cond) ∈ wsX10_leadsTo := kc_of 642 rfl rfl rfl
theorem kc_lead10_5 : (.fieldLink RX10 23 "MistHeaps$Turning" "cell" "I" : Cond) ∈ wsX10_leadsTo := kc_of 247 rfl rfl rfl
theorem kc_lead10_6 : (.sameField "MistHeaps$Turning" "MistHeaps$Heap" "cell" "I" : Cond) ∈ wsX10_leadsTo := kc_of 248 rfl rfl rfl
theorem kc_lead10_7 : (.static yX11_columnOf : Cond) ∈ wsX10_leadsTo := kc_of 645 rfl rfl rfl
set_option maxHeartbeats 4000000 in
set_option maxRecDepth 100000 in
theorem c_lead10 (l : Launch) (dC : Nat → ClassId) (dI : Nat → Nat → Nat) (gd : Nat → Nat) (kA : Nat)  (i0 : Nat) (sk : Int32) (sv : Int32) (scl : Int32) (x : Int32) (a0 : Nat) (zv9 : ∃ v9 : Nat, v9 ≤ 9 ∧ sv = nI v9) (zs9 : ∃ c9 : Nat, c9 < 36 ∧ scl = nI c9) (zx9 : ∃ x9 : Nat, x9 < 36 ∧ x = nI x9) : Met l yX10_leadsTo wsX10_leadsTo ({ frames := 1, cells := 0, slots := 0, locals := 21 } : Room) (va_Pc [.ref a0, .int x] (fun U => Gl gd (fun _ => False) U ∧ Gn kA (fun _ => False) U ∧ Fz dC dI [(zo12iiii a0 sk (nI i0) sv scl)] [] (fun _ => False) U)) (vp_Si (fun r => (r = 1 ∧ ldP sv scl x) ∨ (r = 0 ∧ ¬ ldP sv scl x))) 0 0 (fun _ => False) := by
  refine met_ofQ (cc := cX10_leadsTo) (maxL := 3) (ret := (some .boolean)) (by decide) rfl ?_
  intro p e s m args below meth c s₁ Q B hml hv hQ
  obtain ⟨rfl, hG, hN_, hZ⟩ := hv
  have hx := B.exec
  have hb := B.bytes
  have hr := B.returns
  have hts := atoms_spec (ws := wsX10_leadsTo) B.pre
  have hown : s.vm.findClass RX10 = some m.cls := findClass_of_methodNamed B.named
  have hlocks := B.notSynchronized
  obtain ⟨A, hAe⟩ : ∃ A : Nat → Prop, A = fun _ => False := ⟨_, rfl⟩
  rw [← hAe] at hQ hG hN_ hZ
  have hS : va_S A s.heap s.heap [] := va_S.rf
  have hl := lv_entry [.ref a0, .int x] (n := 3) (Nat.le_of_ble_eq_true rfl)
  rw [lg_entry_eq]
  generalize (lg_sl [.ref a0, .int x] ++ List.replicate (3 - (lg_sl [.ref a0, .int x]).length) Slot.unset).toArray = ls at hl ⊢
  generalize hag : ([.ref a0, .int x] : List Value).toArray = args at hts hQ ⊢
  have hl : lv_has ls 3 [(0, .ref a0), (1, .int x)] := hl
  obtain ⟨v9, hv9, rfl⟩ := zv9
  refine lv_aload_n hx hb dX10_leadsTo_0 rfl (lv_at hl 0 rfl) ?_
  refine va_get (D := (dC, dI)) (ci := 12) (v := .int (nI v9)) (C := RX10) (T := TX10) (N := 4) hx hb hts kc_lead10_1 hown hZ.2.1 (hZ.P hS) 0 rfl rfl 2 (by decide) (hts (.fieldLink RX10 9 "MistHeaps$Turning" "v" "I") kc_lead10_0) (fun x h => u_same (hts (.sameField "MistHeaps$Turning" "MistHeaps$Heap" "v" "I") kc_lead10_2) x h) rfl dX10_leadsTo_1 ?_
  refine lv_bipush (v := 8) hx hb dX10_leadsTo_4 (by decide) ?_
  refine lv_irem hx hb dX10_leadsTo_6 (by decide) ?_
  refine qi_as (y := nI (v9 % 8)) (pk_rem (a := v9) (d := 8) (by omega) (by omega) (by omega)) ?_
  refine lv_istore_n (lv' := [(2, .int (nI (v9 % 8))), (0, .ref a0), (1, .int x)]) hx hb dX10_leadsTo_7 rfl hl (by decide) rfl (fun ls hl => ?_)
  refine va_getsN (C := "MistHeaps") (n := "DOWN") (d := "[I") (v := .ref (gd 0)) hx hb hG.2.1 hS hown (va_Nw.use rfl (hN_.1 (.fieldLinkNest RX10 15 "MistHeaps" "DOWN" "[I" "MistHeaps") (by decide +kernel))) (fun _ h9 => h9) dX10_leadsTo_8 ?_
  refine lv_iload_n hx hb dX10_leadsTo_11 rfl (lv_at hl 0 rfl) ?_
  refine va_ti (v := .int (fDown (v9 % 8))) hx hb hG.2.2.1 hS (vp_in_nI (n := v9 % 8) (N := 8) (by omega) (by omega)) (by rw [nI_clamp (by omega)]) dX10_leadsTo_12 ?_
  refine lv_iload_n hx hb dX10_leadsTo_13 rfl (lv_at hl 2 rfl) ?_
  refine vp_callSi (va_runSN (As := [.int x]) (rest := [.int (fDown (v9 % 8))]) ⟨hx, hb, hml, hown, hts⟩ (c_rowOf l dC dI x) ⟨va_cnB 1 hts ggX10_leadsTo_X11_rowOf rfl rfl rfl (hG.1 (.methodLinkNest RX10 19 yX11_rowOf "MistHeaps") (by decide +kernel)) (hts (.initialized RX11) kc_lead10_3) (by decide +kernel) ⟨Nat.le_of_ble_eq_true rfl, Nat.le_of_ble_eq_true rfl⟩, (hts (.static yX11_rowOf) kc_lead10_4), trivial⟩ ⟨fun a U g mk q => ⟨q.1, trivial⟩, fun U hU hW => ⟨rfl, trivial⟩⟩ rfl rfl hl.1 rfl (lv_room (Nat.le_of_ble_eq_true rfl)) dX10_leadsTo_14 ⟨Nat.le_of_ble_eq_true rfl, Nat.le_of_ble_eq_true rfl⟩).run (fun r_1 hw_2 => ?_)
  obtain rfl := hw_2
  refine lv_aload_n hx hb dX10_leadsTo_17 rfl (lv_at hl 1 rfl) ?_
  refine va_get (D := (dC, dI)) (ci := 12) (v := .int scl) (C := RX10) (T := TX10) (N := 4) hx hb hts kc_lead10_1 hown hZ.2.1 (hZ.P hS) 0 rfl rfl 3 (by decide) (hts (.fieldLink RX10 23 "MistHeaps$Turning" "cell" "I") kc_lead10_5) (fun x h => u_same (hts (.sameField "MistHeaps$Turning" "MistHeaps$Heap" "cell" "I") kc_lead10_6) x h) rfl dX10_leadsTo_18 ?_
  refine vp_callSi (va_runSN (As := [.int scl]) (rest := [.int (x / 6), .int (fDown (v9 % 8))]) ⟨hx, hb, hml, hown, hts⟩ (c_rowOf l dC dI scl) ⟨va_cnB 1 hts ggX10_leadsTo_X11_rowOf rfl rfl rfl (hG.1 (.methodLinkNest RX10 19 yX11_rowOf "MistHeaps") (by decide +kernel)) (hts (.initialized RX11) kc_lead10_3) (by decide +kernel) ⟨Nat.le_of_ble_eq_true rfl, Nat.le_of_ble_eq_true rfl⟩, (hts (.static yX11_rowOf) kc_lead10_4), trivial⟩ ⟨fun a U g mk q => ⟨q.1, trivial⟩, fun U hU hW => ⟨rfl, trivial⟩⟩ rfl rfl hl.1 rfl (lv_room (Nat.le_of_ble_eq_true rfl)) dX10_leadsTo_21 ⟨Nat.le_of_ble_eq_true rfl, Nat.le_of_ble_eq_true rfl⟩).run (fun r_3 hw_4 => ?_)
  obtain rfl := hw_4
  refine lv_isub hx hb dX10_leadsTo_24 ?_
  refine vp_callSi (va_runS (As := [.int (fDown (v9 % 8)), .int ((x / 6) - (scl / 6))]) (rest := []) ⟨hx, hb, hml, hown, hts⟩ (c_onSide l dC dI (fDown (v9 % 8)) ((x / 6) - (scl / 6))) (va_cwS 2 hts gX10_leadsTo_X10_isOnSide rfl rfl rfl hd_yX10_isOnSide.2 ⟨Nat.le_of_ble_eq_true rfl, Nat.le_of_ble_eq_true rfl⟩) ⟨fun a U g mk q => ⟨q.1, trivial⟩, fun U hU hW => ⟨rfl, trivial⟩⟩ rfl rfl hl.1 rfl (lv_room (Nat.le_of_ble_eq_true rfl)) dX10_leadsTo_25 ⟨Nat.le_of_ble_eq_true rfl, Nat.le_of_ble_eq_true rfl⟩).run (fun r_5 hw_6 => ?_)
  rcases hw_6 with ⟨rfl, hd_7⟩ | ⟨rfl, hd_7⟩
  · skip
    refine lv_if_eq (tgt := 58) hx hb dX10_leadsTo_28 (by decide) (fun c_8 => absurd c_8 (by decide)) (fun _ => ?_)
    refine va_getsN (C := "MistHeaps") (n := "RIGHT") (d := "[I") (v := .ref (gd 1)) hx hb hG.2.2.2.1 hS hown (va_Nw.use rfl (hN_.1 (.fieldLinkNest RX10 30 "MistHeaps" "RIGHT" "[I" "MistHeaps") (by decide +kernel))) (fun _ h9 => h9) dX10_leadsTo_31 ?_
    refine lv_iload_n hx hb dX10_leadsTo_34 rfl (lv_at hl 0 rfl) ?_
    refine va_ti (v := .int (fRight (v9 % 8))) hx hb hG.2.2.2.2 hS (vp_in_nI (n := v9 % 8) (N := 8) (by omega) (by omega)) (by rw [nI_clamp (by omega)]) dX10_leadsTo_35 ?_
    refine lv_iload_n hx hb dX10_leadsTo_36 rfl (lv_at hl 2 rfl) ?_
    refine vp_callSi (va_runSN (As := [.int x]) (rest := [.int (fRight (v9 % 8))]) ⟨hx, hb, hml, hown, hts⟩ (c_columnOf l dC dI x) ⟨va_cnB 1 hts ggX10_leadsTo_X11_columnOf rfl rfl rfl (hG.1 (.methodLinkNest RX10 33 yX11_columnOf "MistHeaps") (by decide +kernel)) (hts (.initialized RX11) kc_lead10_3) (by decide +kernel) ⟨Nat.le_of_ble_eq_true rfl, Nat.le_of_ble_eq_true rfl⟩, (hts (.static yX11_columnOf) kc_lead10_7), trivial⟩ ⟨fun a U g mk q => ⟨q.1, trivial⟩, fun U hU hW => ⟨rfl, trivial⟩⟩ rfl rfl hl.1 rfl (lv_room (Nat.le_of_ble_eq_true rfl)) dX10_leadsTo_37 ⟨Nat.le_of_ble_eq_true rfl, Nat.le_of_ble_eq_true rfl⟩).run (fun r_9 hw_10 => ?_)
    obtain rfl := hw_10
    refine lv_aload_n hx hb dX10_leadsTo_40 rfl (lv_at hl 1 rfl) ?_
    refine va_get (D := (dC, dI)) (ci := 12) (v := .int scl) (C := RX10) (T := TX10) (N := 4) hx hb hts kc_lead10_1 hown hZ.2.1 (hZ.P hS) 0 rfl rfl 3 (by decide) (hts (.fieldLink RX10 23 "MistHeaps$Turning" "cell" "I") kc_lead10_5) (fun x h => u_same (hts (.sameField "MistHeaps$Turning" "MistHeaps$Heap" "cell" "I") kc_lead10_6) x h) rfl dX10_leadsTo_41 ?_
    refine vp_callSi (va_runSN (As := [.int scl]) (rest := [.int (x - x / 6 * 6), .int (fRight (v9 % 8))]) ⟨hx, hb, hml, hown, hts⟩ (c_columnOf l dC dI scl) ⟨va_cnB 1 hts ggX10_leadsTo_X11_columnOf rfl rfl rfl (hG.1 (.methodLinkNest RX10 33 yX11_columnOf "MistHeaps") (by decide +kernel)) (hts (.initialized RX11) kc_lead10_3) (by decide +kernel) ⟨Nat.le_of_ble_eq_true rfl, Nat.le_of_ble_eq_true rfl⟩, (hts (.static yX11_columnOf) kc_lead10_7), trivial⟩ ⟨fun a U g mk q => ⟨q.1, trivial⟩, fun U hU hW => ⟨rfl, trivial⟩⟩ rfl rfl hl.1 rfl (lv_room (Nat.le_of_ble_eq_true rfl)) dX10_leadsTo_44 ⟨Nat.le_of_ble_eq_true rfl, Nat.le_of_ble_eq_true rfl⟩).run (fun r_11 hw_12 => ?_)
    obtain rfl := hw_12
    refine lv_isub hx hb dX10_leadsTo_47 ?_
    refine vp_callSi (va_runS (As := [.int (fRight (v9 % 8)), .int ((x - x / 6 * 6) - (scl - scl / 6 * 6))]) (rest := []) ⟨hx, hb, hml, hown, hts⟩ (c_onSide l dC dI (fRight (v9 % 8)) ((x - x / 6 * 6) - (scl - scl / 6 * 6))) (va_cwS 2 hts gX10_leadsTo_X10_isOnSide rfl rfl rfl hd_yX10_isOnSide.2 ⟨Nat.le_of_ble_eq_true rfl, Nat.le_of_ble_eq_true rfl⟩) ⟨fun a U g mk q => ⟨q.1, trivial⟩, fun U hU hW => ⟨rfl, trivial⟩⟩ rfl rfl hl.1 rfl (lv_room (Nat.le_of_ble_eq_true rfl)) dX10_leadsTo_48 ⟨Nat.le_of_ble_eq_true rfl, Nat.le_of_ble_eq_true rfl⟩).run (fun r_13 hw_14 => ?_)
    rcases hw_14 with ⟨rfl, hd_15⟩ | ⟨rfl, hd_15⟩
    · skip
      refine lv_if_eq (tgt := 58) hx hb dX10_leadsTo_51 (by decide) (fun c_16 => absurd c_16 (by decide)) (fun _ => ?_)
      refine lv_iconst (v := 1) hx hb dX10_leadsTo_54 (by decide) ?_
      refine lv_goto (tgt := 59) hx hb dX10_leadsTo_55 (by decide) ?_
      rw [hQ]
      exact W.zret (v := 1) hx hb hr rfl (fun tQ htQ hWQ => ⟨1, rfl, Or.inl ⟨rfl, (ld_r hv9 zs9 zx9).mp hd_7, (ld_c hv9 zs9 zx9).mp hd_15⟩, by rw [htQ]⟩) (fun q hq => absurd hq List.not_mem_nil) dX10_leadsTo_59
    · skip
      refine lv_if_eq (tgt := 58) hx hb dX10_leadsTo_51 (by decide) (fun _ => ?_) (fun c_17 => absurd c_17 (by decide))
      refine lv_iconst (v := 0) hx hb dX10_leadsTo_58 (by decide) ?_
      rw [hQ]
      exact W.zret (v := 0) hx hb hr rfl (fun tQ htQ hWQ => ⟨0, rfl, Or.inr ⟨rfl, fun z9 => hd_15 ((ld_c hv9 zs9 zx9).mpr z9.2)⟩, by rw [htQ]⟩) (fun q hq => absurd hq List.not_mem_nil) dX10_leadsTo_59
  · skip
    refine lv_if_eq (tgt := 58) hx hb dX10_leadsTo_28 (by decide) (fun _ => ?_) (fun c_18 => absurd c_18 (by decide))
    refine lv_iconst (v := 0) hx hb dX10_leadsTo_58 (by decide) ?_
    rw [hQ]
    exact W.zret (v := 0) hx hb hr rfl (fun tQ htQ hWQ => ⟨0, rfl, Or.inr ⟨rfl, fun z9 => hd_7 ((ld_r hv9 zs9 zx9).mpr z9.1)⟩, by rw [htQ]⟩) (fun q hq => absurd hq List.not_mem_nil) dX10_leadsTo_59
end mg13a
