theorem ggX12_of_X12_isHeap : GoodIn wsX12_of wsX12_isHeap := gga_of 1320 rfl rfl rfl
theorem gX12_of_X12_isHeap : GoodIn wsX12_of (wsV RX12 164 RX12 yX12_isHeap wsX12_isHeap) := goodIn_app (ggh_of [1317, 1319, 37, 72] rfl rfl rfl) ggX12_of_X12_isHeap
theorem ggX12_of_X12_in : GoodIn wsX12_of wsX12_in := gga_of 1217 rfl rfl rfl
theorem gX12_of_X12_in : GoodIn wsX12_of (va_wsS RX12 45 yX12_in wsX12_in) := goodIn_app (ggh_of [1215, 1216, 72] rfl rfl rfl) ggX12_of_X12_in
theorem ggX12_of_X12_reachOf : GoodIn wsX12_of wsX12_reachOf := gga_of 1324 rfl rfl rfl
theorem gX12_of_X12_reachOf : GoodIn wsX12_of (wsV RX12 167 RX12 yX12_reachOf wsX12_reachOf) := goodIn_app (ggh_of [1321, 1323, 38, 72] rfl rfl rfl) ggX12_of_X12_reachOf
noncomputable def dk20aof_cX12_of_0 : List (Nat × Instr × Nat) := [(0, .aload_n 0, 1), (1, .iload_n 1, 1), (2, .invokevirtual 164, 3), (5, .ifCond .eq 12, 3), (8, .iload_n 2, 1), (9, .iconst 0, 1), (10, .iconst 3, 1), (11, .invokestatic 45, 3), (14, .ifCond .ne 5, 3), (19, .iload_n 2, 1), (20, .iconst 3, 1), (21, .if_icmp .ne 11, 3), (32, .aload_n 0, 1), (33, .getfield 9, 3), (36, .bipush 10, 2), (38, .bipush 9, 2), (40, .iload_n 2, 1), (41, .imul, 1), (42, .iadd, 1), (43, .iload_n 1, 1), (44, .iadd, 1), (45, .iaload, 1), (46, .ireturn, 1), (24, .aload_n 0, 1), (25, .iload_n 1, 1), (26, .invokevirtual 167, 3), (29, .goto 17, 3), (17, .iconst (-1), 1), (18, .ireturn, 1)]
set_option maxRecDepth 100000 in
theorem dk20aof_cX12_of_0_a : dkA cX12_of dk20aof_cX12_of_0 = true := by decide +kernel
theorem dX12_of_0 : decode cX12_of 0 = .ok (.aload_n 0, 1) := dkAt dk20aof_cX12_of_0_a 0 rfl
theorem dX12_of_1 : decode cX12_of 1 = .ok (.iload_n 1, 1) := dkAt dk20aof_cX12_of_0_a 1 rfl
theorem dX12_of_2 : decode cX12_of 2 = .ok (.invokevirtual 164, 3) := dkAt dk20aof_cX12_of_0_a 2 rfl
theorem dX12_of_5 : decode cX12_of 5 = .ok (.ifCond .eq 12, 3) := dkAt dk20aof_cX12_of_0_a 3 rfl
theorem dX12_of_8 : decode cX12_of 8 = .ok (.iload_n 2, 1) := dkAt dk20aof_cX12_of_0_a 4 rfl
theorem dX12_of_9 : decode cX12_of 9 = .ok (.iconst 0, 1) := dkAt dk20aof_cX12_of_0_a 5 rfl
theorem dX12_of_10 : decode cX12_of 10 = .ok (.iconst 3, 1) := dkAt dk20aof_cX12_of_0_a 6 rfl
theorem dX12_of_11 : decode cX12_of 11 = .ok (.invokestatic 45, 3) := dkAt dk20aof_cX12_of_0_a 7 rfl
theorem dX12_of_14 : decode cX12_of 14 = .ok (.ifCond .ne 5, 3) := dkAt dk20aof_cX12_of_0_a 8 rfl
theorem dX12_of_19 : decode cX12_of 19 = .ok (.iload_n 2, 1) := dkAt dk20aof_cX12_of_0_a 9 rfl
theorem dX12_of_20 : decode cX12_of 20 = .ok (.iconst 3, 1) := dkAt dk20aof_cX12_of_0_a 10 rfl
theorem dX12_of_21 : decode cX12_of 21 = .ok (.if_icmp .ne 11, 3) := dkAt dk20aof_cX12_of_0_a 11 rfl
theorem dX12_of_32 : decode cX12_of 32 = .ok (.aload_n 0, 1) := dkAt dk20aof_cX12_of_0_a 12 rfl
theorem dX12_of_33 : decode cX12_of 33 = .ok (.getfield 9, 3) := dkAt dk20aof_cX12_of_0_a 13 rfl
theorem dX12_of_36 : decode cX12_of 36 = .ok (.bipush 10, 2) := dkAt dk20aof_cX12_of_0_a 14 rfl
theorem dX12_of_38 : decode cX12_of 38 = .ok (.bipush 9, 2) := dkAt dk20aof_cX12_of_0_a 15 rfl
theorem dX12_of_40 : decode cX12_of 40 = .ok (.iload_n 2, 1) := dkAt dk20aof_cX12_of_0_a 16 rfl
theorem dX12_of_41 : decode cX12_of 41 = .ok (.imul, 1) := dkAt dk20aof_cX12_of_0_a 17 rfl
theorem dX12_of_42 : decode cX12_of 42 = .ok (.iadd, 1) := dkAt dk20aof_cX12_of_0_a 18 rfl
theorem dX12_of_43 : decode cX12_of 43 = .ok (.iload_n 1, 1) := dkAt dk20aof_cX12_of_0_a 19 rfl
theorem dX12_of_44 : decode cX12_of 44 = .ok (.iadd, 1) := dkAt dk20aof_cX12_of_0_a 20 rfl
theorem dX12_of_45 : decode cX12_of 45 = .ok (.iaload, 1) := dkAt dk20aof_cX12_of_0_a 21 rfl
theorem dX12_of_46 : decode cX12_of 46 = .ok (.ireturn, 1) := dkAt dk20aof_cX12_of_0_a 22 rfl
theorem dX12_of_24 : decode cX12_of 24 = .ok (.aload_n 0, 1) := dkAt dk20aof_cX12_of_0_a 23 rfl
theorem dX12_of_25 : decode cX12_of 25 = .ok (.iload_n 1, 1) := dkAt dk20aof_cX12_of_0_a 24 rfl
theorem dX12_of_26 : decode cX12_of 26 = .ok (.invokevirtual 167, 3) := dkAt dk20aof_cX12_of_0_a 25 rfl
theorem dX12_of_29 : decode cX12_of 29 = .ok (.goto 17, 3) := dkAt dk20aof_cX12_of_0_a 26 rfl
theorem dX12_of_17 : decode cX12_of 17 = .ok (.iconst (-1), 1) := dkAt dk20aof_cX12_of_0_a 27 rfl
theorem dX12_of_18 : decode cX12_of 18 = .ok (.ireturn, 1) := dkAt dk20aof_cX12_of_0_a 28 rfl
theorem kc_mOf_0 : ∀ w ∈ wsX120, w ∈ wsX12_of := fun w h => List.mem_cons_of_mem _ (gin_wsX120 w h)
theorem kc_mOf_1 : (.fieldLink RX12 9 "MistHeapsModel" "s" "[I" : Cond) ∈ wsX12_of := kc_of 1141 rfl rfl rfl
set_option maxHeartbeats 4000000 in
set_option maxRecDepth 100000 in
theorem c_mOf (l : Launch) (dC : Nat → ClassId) (dI : Nat → Nat → Nat) (m0 aS aI aB aT aG aO aN aD aY : Nat) (th im ac sp en wg op se dn rn kd nu tv : Int32) (bv : Int64) (cS cB cT : ClassId) (fS : Nat → Int32) (fB : Nat → Int32) (fT : Nat → Int32) (n : Nat) (yk yv yc : Nat → Int32) (mi sn : Int32) (x y : Int32) (cz : List pCla) (sz : Nat) (zn : fS 0 = nI n) (hn : n ≤ 8) (zh : hol fS cz) (zkd : ∀ k, k < n → fS (10 + k) = yk k) (zvv : ∀ k, k < n → fS (19 + k) = yv k) (zc : ∀ k, k < n → fS (28 + k) = yc k) (zmi : fS 6 = mi) (zsn : fS 7 = sn) : Met l yX12_of wsX12_of ({ frames := 2, cells := 0, slots := 0, locals := 55 } : Room) (va_Pc [.ref m0, .int x, .int y] (fun U => U.heap.size = sz ∧ va_P (dC, dI) vwCl [(zo14irriiiiiirriirrrrlriiii m0 th aS aI im ac sp en wg op aB aT se dn aG aO aN aD bv aY rn kd nu tv), (zaI aS cS 901 fS), (zaI aB cB 6 fB), (zaI aT cT 64 fT)] U.heap ∧ va_K (dC, dI) vwCl [(cS, .int), (cB, .int), (cT, .boolean)] U ∧ va_D (fun _ => True) [(zo14irriiiiiirriirrrrlriiii m0 th aS aI im ac sp en wg op aB aT se dn aG aO aN aD bv aY rn kd nu tv), (zaI aS cS 901 fS), (zaI aB cB 6 fB), (zaI aT cT 64 fT)])) (va_Qi (fun (r : Int32) (u : (Nat → Int32) × (Nat → Int32) × (Int32) × (Int32)) => match u with | (fB9, fT9, se9, dn9) => r = ofR n yk yv yc cz mi sn x y) (fun (u : (Nat → Int32) × (Nat → Int32) × (Int32) × (Int32)) (t : State) => match u with | (fB9, fT9, se9, dn9) => va_P (dC, dI) vwCl [(zo14irriiiiiirriirrrrlriiii m0 th aS aI im ac sp en wg op aB aT se9 dn9 aG aO aN aD bv aY rn kd nu tv), (zaI aS cS 901 fS), (zaI aB cB 6 fB9), (zaI aT cT 64 fT9)] t.heap ∧ va_K (dC, dI) vwCl [(cS, .int), (cB, .int), (cT, .boolean)] t ∧ va_D (va_A [(zo14irriiiiiirriirrrrlriiii m0 th aS aI im ac sp en wg op aB aT se dn aG aO aN aD bv aY rn kd nu tv), (zaI aS cS 901 fS), (zaI aB cB 6 fB), (zaI aT cT 64 fT)] sz) [(zo14irriiiiiirriirrrrlriiii m0 th aS aI im ac sp en wg op aB aT se9 dn9 aG aO aN aD bv aY rn kd nu tv), (zaI aS cS 901 fS), (zaI aB cB 6 fB9), (zaI aT cT 64 fT9)]) (va_A [(zo14irriiiiiirriirrrrlriiii m0 th aS aI im ac sp en wg op aB aT se dn aG aO aN aD bv aY rn kd nu tv), (zaI aS cS 901 fS), (zaI aB cB 6 fB), (zaI aT cT 64 fT)] sz)) 0 0 (va_A [(zo14irriiiiiirriirrrrlriiii m0 th aS aI im ac sp en wg op aB aT se dn aG aO aN aD bv aY rn kd nu tv), (zaI aS cS 901 fS), (zaI aB cB 6 fB), (zaI aT cT 64 fT)] sz) := by
  refine met_ofQ (cc := cX12_of) (maxL := 3) (ret := (some .int)) (by decide) rfl ?_
  intro p e s m args below meth c s₁ Q B hml hv hQ
  obtain ⟨rfl, hsz, hP, hK, hD0⟩ := hv
  have hx := B.exec
  have hb := B.bytes
  have hr := B.returns
  have hts := atoms_spec (ws := wsX12_of) B.pre
  have hown : s.vm.findClass RX12 = some m.cls := findClass_of_methodNamed B.named
  have hlocks := B.notSynchronized
  subst hsz
  have hD := hD0.self (sz := s.heap.size)
  generalize hAe : va_A [(zo14irriiiiiirriirrrrlriiii m0 th aS aI im ac sp en wg op aB aT se dn aG aO aN aD bv aY rn kd nu tv), (zaI aS cS 901 fS), (zaI aB cB 6 fB), (zaI aT cT 64 fT)] s.heap.size = A at hD hQ ⊢
  have hA : ∀ q : Nat, s.heap.size ≤ q → A q := fun q h => by rw [← hAe]; exact Or.inr h
  have hS : va_S A s.heap s.heap [] := va_S.rf
  have hl := lv_entry [.ref m0, .int x, .int y] (n := 3) (Nat.le_of_ble_eq_true rfl)
  rw [lg_entry_eq]
  generalize (lg_sl [.ref m0, .int x, .int y] ++ List.replicate (3 - (lg_sl [.ref m0, .int x, .int y]).length) Slot.unset).toArray = ls at hl ⊢
  generalize hag : ([.ref m0, .int x, .int y] : List Value).toArray = args at hts hQ ⊢
  have hl : lv_has ls 3 [(0, .ref m0), (1, .int x), (2, .int y)] := hl
  obtain ⟨H, hH⟩ : ∃ H : Heap, H = s.heap := ⟨_, rfl⟩
  rw [← hH] at hP
  rw [← hH]
  have hS : va_S A s.heap H [] := by rw [hH]; exact hS
  obtain ⟨locs, hlo⟩ : ∃ L : List Loc, L = [] := ⟨_, rfl⟩
  rw [← hlo] at hS
  rw [← hlo]
  clear hH hlo
  refine lv_aload_n hx hb dX12_of_0 rfl (lv_at hl 0 rfl) ?_
  refine lv_iload_n hx hb dX12_of_1 rfl (lv_at hl 1 rfl) ?_
  have hPc := hP.sub (ws' := [(zo14irriiiiiirriirrrrlriiii m0 th aS aI im ac sp en wg op aB aT se dn aG aO aN aD bv aY rn kd nu tv), (zaI aS cS 901 fS)]) [0, 1] rfl
  have hKc := hK.sub (tys' := [(cS, .int)]) [0] rfl
  refine vp_callSi (va_runV (As := [.int x]) (rest := []) ⟨hx, hb, hml, hown, hts⟩ (c_isHeap l dC dI m0 aS aI aB aT aG aO aN aD aY th im ac sp en wg op se dn rn kd nu tv bv cS fS n x (zn) (hn)) (cwV 1 hts gX12_of_X12_isHeap rfl rfl rfl hd_yX12_isHeap ⟨Nat.le_of_ble_eq_true rfl, Nat.le_of_ble_eq_true rfl⟩) ⟨fun a U g mk q => by obtain ⟨q0, qP, qK⟩ := q; exact ⟨q0, qP, va_K.moved (u := U) (U := U.calling g mk a) (Vm.Alike.refl U.vm) qK⟩, va_recv hK hP (ci := 14) (q := (RX12, TX12, 23)) (q0 := 0) rfl rfl, fun U hU hW => ⟨rfl, by rw [hU]; exact hPc, va_K.moved hW.alike hKc⟩⟩ rfl rfl hl.1 rfl (lv_room (Nat.le_of_ble_eq_true rfl)) dX12_of_2 ⟨Nat.le_of_ble_eq_true rfl, Nat.le_of_ble_eq_true rfl⟩).run (fun r_1 hw_2 => ?_)
  rcases hw_2 with ⟨rfl, j_3, hj_4, rfl⟩ | ⟨rfl, h_5⟩
  · skip
    refine lv_if_eq (tgt := 17) hx hb dX12_of_5 (by decide) (fun c_6 => absurd c_6 (by decide)) (fun _ => ?_)
    refine lv_iload_n hx hb dX12_of_8 rfl (lv_at hl 2 rfl) ?_
    refine lv_iconst (v := 0) hx hb dX12_of_9 (by decide) ?_
    refine lv_iconst (v := 3) hx hb dX12_of_10 (by decide) ?_
    refine vp_callSi (va_runS (As := [.int y, .int 0, .int 3]) (rest := []) ⟨hx, hb, hml, hown, hts⟩ (c_in l dC dI y 0 3) (va_cwS 3 hts gX12_of_X12_in rfl rfl rfl hd_yX12_in.2 ⟨Nat.le_of_ble_eq_true rfl, Nat.le_of_ble_eq_true rfl⟩) ⟨fun a U g mk q => ⟨q.1, trivial⟩, fun U hU hW => ⟨rfl, trivial⟩⟩ rfl rfl hl.1 rfl (lv_room (Nat.le_of_ble_eq_true rfl)) dX12_of_11 ⟨Nat.le_of_ble_eq_true rfl, Nat.le_of_ble_eq_true rfl⟩).run (fun r_7 hw_8 => ?_)
    rcases hw_8 with ⟨rfl, h_9, h_10⟩ | ⟨rfl, h_11⟩
    · skip
      obtain ⟨j_12, hj_13, rfl⟩ := nI_of2 (n := 3) (M := 3) rfl h_9 (Int32.not_lt.mp h_10)
      refine lv_if_ne (tgt := 19) hx hb dX12_of_14 (by decide) (fun _ => ?_) (fun c_14 => absurd c_14 (by decide))
      refine lv_iload_n hx hb dX12_of_19 rfl (lv_at hl 2 rfl) ?_
      refine lv_iconst (v := 3) hx hb dX12_of_20 (by decide) ?_
      refine lv_icmp_ne (tgt := 32) hx hb dX12_of_21 (by decide) (fun c_15 => ?_) (fun c_15 => ?_)
      · skip
        have c_15 : ¬ j_12 = 3 := fun q => c_15 ((nI_eq (a := j_12) (b := 3) (by omega) (by omega)).mpr q)
        refine lv_aload_n hx hb dX12_of_32 rfl (lv_at hl 0 rfl) ?_
        refine va_get (D := (dC, dI)) (ci := 14) (v := .ref aS) (C := RX12) (T := TX12) (N := 23) hx hb hts kc_mOf_0 hown hK hP 0 rfl rfl 1 (by decide) (hts (.fieldLink RX12 9 "MistHeapsModel" "s" "[I") kc_mOf_1) (fun _ h9 => h9) rfl dX12_of_33 ?_
        refine lv_bipush (v := 10) hx hb dX12_of_36 (by decide) ?_
        refine lv_bipush (v := 9) hx hb dX12_of_38 (by decide) ?_
        refine lv_iload_n hx hb dX12_of_40 rfl (lv_at hl 2 rfl) ?_
        refine lv_imul hx hb dX12_of_41 ?_
        refine qi_as (y := nI (9 * j_12)) (pk_mul 9 j_12) ?_
        refine lv_iadd hx hb dX12_of_42 ?_
        refine qi_as (y := nI (10 + (9 * j_12))) (nI_add 10 (9 * j_12)) ?_
        refine lv_iload_n hx hb dX12_of_43 rfl (lv_at hl 1 rfl) ?_
        refine lv_iadd hx hb dX12_of_44 ?_
        refine qi_as (y := nI ((10 + (9 * j_12)) + j_3)) (nI_add (10 + (9 * j_12)) j_3) ?_
        refine va_iald hx hb hK hP 1 0 rfl rfl (vp_in_nI (n := (10 + (9 * j_12)) + j_3) (N := 901) (by omega) (by omega)) dX12_of_45 ?_
        refine qi_as (y := fS ((10 + (9 * j_12)) + j_3)) (by rw [nI_clamp (by omega)]) ?_
        rw [hQ]
        have hP9 := hP.sub (ws' := [(zo14irriiiiiirriirrrrlriiii m0 th aS aI im ac sp en wg op aB aT se dn aG aO aN aD bv aY rn kd nu tv), (zaI aS cS 901 fS), (zaI aB cB 6 fB), (zaI aT cT 64 fT)]) [0, 1, 2, 3] rfl
        have hD9 := hD.sub (ws' := [(zo14irriiiiiirriirrrrlriiii m0 th aS aI im ac sp en wg op aB aT se dn aG aO aN aD bv aY rn kd nu tv), (zaI aS cS 901 fS), (zaI aB cB 6 fB), (zaI aT cT 64 fT)]) [0, 1, 2, 3] (by decide) rfl
        have hK9 := hK.sub (tys' := [(cS, .int), (cB, .int), (cT, .boolean)]) [0, 1, 2] rfl
        exact W.iret (v := fS ((10 + (9 * j_12)) + j_3)) hx hb hr (fun tQ htQ hWQ => ⟨⟨(fS ((10 + (9 * j_12)) + j_3)), (fB, fT, se, dn), rfl, of_m hn (by omega) (by omega) (by assumption) zkd zvv zc, by rw [htQ]; exact hP9, va_K.moved hWQ.alike hK9, hD9⟩, hS.F htQ⟩) hS.2.2 dX12_of_46
      · skip
        have c_15 : j_12 = 3 := (nI_eq (a := j_12) (b := 3) (by omega) (by omega)).mp c_15
        refine lv_aload_n hx hb dX12_of_24 rfl (lv_at hl 0 rfl) ?_
        refine lv_iload_n hx hb dX12_of_25 rfl (lv_at hl 1 rfl) ?_
        have hPc := hP.sub (ws' := [(zo14irriiiiiirriirrrrlriiii m0 th aS aI im ac sp en wg op aB aT se dn aG aO aN aD bv aY rn kd nu tv), (zaI aS cS 901 fS), (zaI aB cB 6 fB), (zaI aT cT 64 fT)]) [0, 1, 2, 3] rfl
        have hDc := hD.sub (ws' := [(zo14irriiiiiirriirrrrlriiii m0 th aS aI im ac sp en wg op aB aT se dn aG aO aN aD bv aY rn kd nu tv), (zaI aS cS 901 fS), (zaI aB cB 6 fB), (zaI aT cT 64 fT)]) [0, 1, 2, 3] (by decide) rfl
        have hKc := hK.sub (tys' := [(cS, .int), (cB, .int), (cT, .boolean)]) [0, 1, 2] rfl
        have hFc := va_free (wc := [(zo14irriiiiiirriirrrrlriiii m0 th aS aI im ac sp en wg op aB aT se dn aG aO aN aD bv aY rn kd nu tv), (zaI aS cS 901 fS), (zaI aB cB 6 fB), (zaI aT cT 64 fT)]) hD hS hA [0, 1, 2, 3] rfl
        refine va_calli (va_runV (As := [.int (nI j_3)]) (rest := []) ⟨hx, hb, hml, hown, hts⟩ (c_reachOf l dC dI m0 aS aI aB aT aG aO aN aD aY th im ac sp en wg op se dn rn kd nu tv bv cS cB cT fS fB fT j_3 cz H.size (by omega) (zh)) (cwV 1 hts gX12_of_X12_reachOf rfl rfl rfl hd_yX12_reachOf ⟨Nat.le_of_ble_eq_true rfl, Nat.le_of_ble_eq_true rfl⟩) ⟨fun a U g mk q => by obtain ⟨q0, q1, qP, qK, qD⟩ := q; exact ⟨q0, q1, qP, va_K.moved (u := U) (U := U.calling g mk a) (Vm.Alike.refl U.vm) qK, qD⟩, va_recv hK hP (ci := 14) (q := (RX12, TX12, 23)) (q0 := 0) rfl rfl, fun U hU hW => ⟨rfl, by rw [hU], by rw [hU]; exact hPc, va_K.moved hW.alike hKc, hDc.weaken (fun _ _ _ _ => trivial)⟩⟩ rfl rfl hl.1 rfl (lv_room (Nat.le_of_ble_eq_true rfl)) dX12_of_26 ⟨Nat.le_of_ble_eq_true rfl, Nat.le_of_ble_eq_true rfl⟩) hS (fun q _ h => hFc q h) hFc (fun r_16 u tC H1 locs htC hvm hw_17 hB hz1 hk1 hS => ?_)
        obtain ⟨fB9_18, fT9_19, se9_20, dn9_21⟩ := u
        try dsimp only at hw_17 hB
        obtain ⟨hP1, hK1, hD1⟩ := hB
        rw [htC] at hP1
        have hK1 := va_K.moved hvm.symm hK1
        obtain ⟨hP, hD⟩ := va_join (wr := []) (w1 := [(zo14irriiiiiirriirrrrlriiii m0 th aS aI im ac sp en wg op aB aT se9_20 dn9_21 aG aO aN aD bv aY rn kd nu tv), (zaI aS cS 901 fS), (zaI aB cB 6 fB9_18), (zaI aT cT 64 fT9_19)]) hP hD [0, 1, 2, 3] [] rfl rfl (by decide) (by decide) hk1 hFc hP1 hD1
        have hK := (hK.sub (tys' := []) [] rfl).app hK1
        generalize H1 = H at hP hS ⊢
        have hP : va_P (dC, dI) vwCl [(zo14irriiiiiirriirrrrlriiii m0 th aS aI im ac sp en wg op aB aT se9_20 dn9_21 aG aO aN aD bv aY rn kd nu tv), (zaI aS cS 901 fS), (zaI aB cB 6 fB9_18), (zaI aT cT 64 fT9_19)] H := hP
        have hD : va_D A [(zo14irriiiiiirriirrrrlriiii m0 th aS aI im ac sp en wg op aB aT se9_20 dn9_21 aG aO aN aD bv aY rn kd nu tv), (zaI aS cS 901 fS), (zaI aB cB 6 fB9_18), (zaI aT cT 64 fT9_19)] := hD
        have hK : va_K (dC, dI) vwCl [(cS, .int), (cB, .int), (cT, .boolean)] s := hK
        obtain rfl := hw_17
        refine lv_goto (tgt := 46) hx hb dX12_of_29 (by decide) ?_
        rw [hQ]
        have hP9 := hP.sub (ws' := [(zo14irriiiiiirriirrrrlriiii m0 th aS aI im ac sp en wg op aB aT se9_20 dn9_21 aG aO aN aD bv aY rn kd nu tv), (zaI aS cS 901 fS), (zaI aB cB 6 fB9_18), (zaI aT cT 64 fT9_19)]) [0, 1, 2, 3] rfl
        have hD9 := hD.sub (ws' := [(zo14irriiiiiirriirrrrlriiii m0 th aS aI im ac sp en wg op aB aT se9_20 dn9_21 aG aO aN aD bv aY rn kd nu tv), (zaI aS cS 901 fS), (zaI aB cB 6 fB9_18), (zaI aT cT 64 fT9_19)]) [0, 1, 2, 3] (by decide) rfl
        have hK9 := hK.sub (tys' := [(cS, .int), (cB, .int), (cT, .boolean)]) [0, 1, 2] rfl
        exact W.iret (v := RR fS cz j_3) hx hb hr (fun tQ htQ hWQ => ⟨⟨(RR fS cz j_3), (fB9_18, fT9_19, se9_20, dn9_21), rfl, by obtain rfl : j_12 = 3 := (by omega); exact of_3 hn (by omega) zkd zvv zc zmi zsn, by rw [htQ]; exact hP9, va_K.moved hWQ.alike hK9, hD9⟩, hS.F htQ⟩) hS.2.2 dX12_of_46
    · skip
      refine lv_if_ne (tgt := 19) hx hb dX12_of_14 (by decide) (fun c_22 => absurd c_22 (by decide)) (fun _ => ?_)
      refine lv_iconst (v := (-1)) hx hb dX12_of_17 (by decide) ?_
      rw [hQ]
      have hP9 := hP.sub (ws' := [(zo14irriiiiiirriirrrrlriiii m0 th aS aI im ac sp en wg op aB aT se dn aG aO aN aD bv aY rn kd nu tv), (zaI aS cS 901 fS), (zaI aB cB 6 fB), (zaI aT cT 64 fT)]) [0, 1, 2, 3] rfl
      have hD9 := hD.sub (ws' := [(zo14irriiiiiirriirrrrlriiii m0 th aS aI im ac sp en wg op aB aT se dn aG aO aN aD bv aY rn kd nu tv), (zaI aS cS 901 fS), (zaI aB cB 6 fB), (zaI aT cT 64 fT)]) [0, 1, 2, 3] (by decide) rfl
      have hK9 := hK.sub (tys' := [(cS, .int), (cB, .int), (cT, .boolean)]) [0, 1, 2] rfl
      exact W.iret (v := (-1)) hx hb hr (fun tQ htQ hWQ => ⟨⟨(-1), (fB, fT, se, dn), rfl, of_y hn (by omega) (by assumption), by rw [htQ]; exact hP9, va_K.moved hWQ.alike hK9, hD9⟩, hS.F htQ⟩) hS.2.2 dX12_of_18
  · skip
    refine lv_if_eq (tgt := 17) hx hb dX12_of_5 (by decide) (fun _ => ?_) (fun c_23 => absurd c_23 (by decide))
    refine lv_iconst (v := (-1)) hx hb dX12_of_17 (by decide) ?_
    rw [hQ]
    have hP9 := hP.sub (ws' := [(zo14irriiiiiirriirrrrlriiii m0 th aS aI im ac sp en wg op aB aT se dn aG aO aN aD bv aY rn kd nu tv), (zaI aS cS 901 fS), (zaI aB cB 6 fB), (zaI aT cT 64 fT)]) [0, 1, 2, 3] rfl
    have hD9 := hD.sub (ws' := [(zo14irriiiiiirriirrrrlriiii m0 th aS aI im ac sp en wg op aB aT se dn aG aO aN aD bv aY rn kd nu tv), (zaI aS cS 901 fS), (zaI aB cB 6 fB), (zaI aT cT 64 fT)]) [0, 1, 2, 3] (by decide) rfl
    have hK9 := hK.sub (tys' := [(cS, .int), (cB, .int), (cT, .boolean)]) [0, 1, 2] rfl
    exact W.iret (v := (-1)) hx hb hr (fun tQ htQ hWQ => ⟨⟨(-1), (fB, fT, se, dn), rfl, of_no (by assumption), by rw [htQ]; exact hP9, va_K.moved hWQ.alike hK9, hD9⟩, hS.F htQ⟩) hS.2.2 dX12_of_18
