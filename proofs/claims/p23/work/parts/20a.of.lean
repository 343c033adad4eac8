section
theorem ggX12_of_X12_isHeap : GoodIn wsX12_of wsX12_isHeap := gga_of 1320 rfl rfl rfl
theorem gX12_of_X12_isHeap : GoodIn wsX12_of (wsV RX12 164 RX12 yX12_isHeap wsX12_isHeap) := goodIn_app (ggh_of [1317, 1319, 37, 72] rfl rfl rfl) ggX12_of_X12_isHeap
theorem ggX12_of_X12_in : GoodIn wsX12_of wsX12_in := gga_of 1217 rfl rfl rfl
theorem gX12_of_X12_in : GoodIn wsX12_of (va_wsS RX12 45 yX12_in wsX12_in) := goodIn_app (ggh_of [1215, 1216, 72] rfl rfl rfl) ggX12_of_X12_in
theorem ggX12_of_X12_reachOf : GoodIn wsX12_of wsX12_reachOf := gga_of 1324 rfl rfl rfl
theorem gX12_of_X12_reachOf : GoodIn wsX12_of (wsV RX12 167 RX12 yX12_reachOf wsX12_reachOf) := goodIn_app (ggh_of [1321, 1323, 38, 72] rfl rfl rfl) ggX12_of_X12_reachOf
noncomputable def dk20aof_cX12_of_0 : List (Nat × Instr × Nat) := [(0, .aload_n 0, 1), (1, .iload_n 1, 1), (2, .invokevirtual 164, 3), (5, .ifCond .eq 12, 3), (8, .iload_n 2, 1), (9, .iconst 0, 1), (10, .iconst 3, 1), (11, .invokestatic 45, 3), (14, .ifCond .ne 5, 3), (19, .iload_n 2, 1), (20, .iconst 3, 1), (21, .if_icmp .ne 11, 3), (32, .aload_n 0, 1), (33, .getfield 9, 3), (36, .bipush 10, 2), (38, .bipush 9, 2), (40, .iload_n 2, 1), (41, .imul, 1), (42, .iadd, 1), (43, .iload_n 1, 1), (44, .iadd, 1), (45, .iaload, 1), (46, .ireturn, 1), (24, .aload_n 0, 1), (25, .iload_n 1, 1), (26, .invokevirtual 167, 3), (29, .goto 17, 3), (17, .iconst (-1), 1), (18, .ireturn, 1)]
set_option maxRecDepth 100000 in
theorem dk20aof_cX12_of_0_a : dkA cX12_of dk20aof_cX12_of_0 = true := by decide +kernel
theorem dX12_of_0 : decode cX12_of 0 = .ok (.aload_n 0, 1) := dkAt dk20aof_cX12_of_0_a 0 rfl
theorem dX12_of_1 : decode cX12_of 1 = .ok (.iload_n 1, 1) := dkAt dk20aof_cX12_of_0_a 1 rfl
theorem dX12_of_2 : decode cX12_of 2 = .ok (.invokevirtual 164, 3) := dkAt dk20aof_cX12_of_0_a 2 rfl
theorem dX12_of_5 : decode cX12_of 5 = .ok (.ifCond .eq 12, 3) := dkAt dk20aof_cX12_of_0_a 3 rfl
theorem dX12_of_8 : decode cX12_of 8 = .ok (.iload_n 2, 1) := dkAt dk20aof_cX12_of_0_a 4 rfl
theorem dX12_of_9 : decode cX12_of 9 = .ok (.iconst 0, 1) := dkAt dk20aof_cX12_of_0_a 5 rfl
theorem dX12_of_10 : decode cX12_of 10 = .ok (.iconst 3, 1) := dkAt dk20aof_cX12_of_0_a 6 rfl
theorem dX12_of_11 : decode cX12_of 11 = .ok (.invokestatic 45, 3) := dkAt dk20aof_cX12_of_0_a 7 rfl
theorem dX12_of_14 : decode cX12_of 14 = .ok (.ifCond .ne 5, 3) := dkAt dk20aof_cX12_of_0_a 8 rfl
theorem dX12_of_19 : decode cX12_of 19 = .ok (.iload_n 2, 1) := dkAt dk20aof_cX12_of_0_a 9 rfl
theorem dX12_of_20 : decode cX12_of 20 = .ok (.iconst 3, 1) := dkAt dk20aof_cX12_of_0_a 10 rfl
theorem dX12_of_21 : decode cX12_of 21 = .ok (.if_icmp .ne 11, 3) := dkAt dk20aof_cX12_of_0_a 11 rfl
theorem dX12_of_32 : decode cX12_of 32 = .ok (.aload_n 0, 1) := dkAt dk20aof_cX12_of_0_a 12 rfl
theorem dX12_of_33 : decode cX12_of 33 = .ok (.getfield 9, 3) := dkAt dk20aof_cX12_of_0_a 13 rfl
theorem dX12_of_36 : decode cX12_of 36 = .ok (.bipush 10, 2) := dkAt dk20aof_cX12_of_0_a 14 rfl
theorem dX12_of_38 : decode cX12_of 38 = .ok (.bipush 9, 2) := dkAt dk20aof_cX12_of_0_a 15 rfl
theorem dX12_of_40 : decode cX12_of 40 = .ok (.iload_n 2, 1) := dkAt dk20aof_cX12_of_0_a 16 rfl
theorem dX12_of_41 : decode cX12_of 41 = .ok (.imul, 1) := dkAt dk20aof_cX12_of_0_a 17 rfl
theorem dX12_of_42 : decode cX12_of 42 = .ok (.iadd, 1) := dkAt dk20aof_cX12_of_0_a 18 rfl
theorem dX12_of_43 : decode cX12_of 43 = .ok (.iload_n 1, 1) := dkAt dk20aof_cX12_of_0_a 19 rfl
theorem dX12_of_44 : decode cX12_of 44 = .ok (.iadd, 1) := dkAt dk20aof_cX12_of_0_a 20 rfl
theorem dX12_of_45 : decode cX12_of 45 = .ok (.iaload, 1) := dkAt dk20aof_cX12_of_0_a 21 rfl
theorem dX12_of_46 : decode cX12_of 46 = .ok (.ireturn, 1) := dkAt dk20aof_cX12_of_0_a 22 rfl
theorem dX12_of_24 : decode cX12_of 24 = .ok (.aload_n 0, 1) := dkAt dk20aof_cX12_of_0_a 23 rfl
theorem dX12_of_25 : decode cX12_of 25 = .ok (.iload_n 1, 1) := dkAt dk20aof_cX12_of_0_a 24 rfl
theorem dX12_of_26 : decode cX12_of 26 = .ok (.invokevirtual 167, 3) := dkAt dk20aof_cX12_of_0_a 25 rfl
theorem dX12_of_29 : decode cX12_of 29 = .ok (.goto 17, 3) := dkAt dk20aof_cX12_of_0_a 26 rfl
theorem dX12_of_17 : decode cX12_of 17 = .ok (.iconst (-1), 1) := dkAt dk20aof_cX12_of_0_a 27 rfl
theorem dX12_of_18 : decode cX12_of 18 = .ok (.ireturn, 1) := dkAt dk20aof_cX12_of_0_a 28 rfl
theorem kc_mOf_0 : ∀ w ∈ wsX120, w ∈ wsX12_of := fun w h => List.mem_cons_of_mem _ (gin_wsX120 w h)
theorem kc_mOf_1 : (.fieldLink RX12 9 "MistHeapsModel" "s" "[I" : Cond) ∈ wsX12_of := kc_of 1141 rfl rfl rfl
set_option maxHeartbeats 4000000 in
set_option maxRecDepth 100000 in
theorem c_mOf (l : Launch) (dC : Nat → ClassId) (dI : Nat → Nat → Nat) (m0 aS aI aB aT aG aO aN aD aY : Nat) (th im ac sp en wg op se dn rn kd nu tv : Int32) (bv : Int64) (cS cB cT : ClassId) (fS : Nat → Int32) (fB : Nat → Int32) (fT : Nat → Int32) (n : Nat) (x y : Int32) (sz : Nat) (zn : fS 0 = nI n) (hn : n ≤ 8) (zh : hold fS) : Met l yX12_of wsX12_of ({ frames := 2, cells := 0, slots := 0, locals := 55 } : Room) (va_Pc [.ref m0, .int x, .int y] (fun U => U.heap.size = sz ∧ va_P (dC, dI) vwCl [(zo14irriiiiiirriirrrrlriiii m0 th aS aI im ac sp en wg op aB aT se dn aG aO aN aD bv aY rn kd nu tv), (zaI aS cS 901 fS), (zaI aB cB 6 fB), (zaI aT cT 64 fT)] U.heap ∧ va_K (dC, dI) vwCl [(cS, .int), (cB, .int), (cT, .boolean)] U ∧ va_D (fun _ => True) [(zo14irriiiiiirriirrrrlriiii m0 th aS aI im ac sp en wg op aB aT se dn aG aO aN aD bv aY rn kd nu tv), (zaI aS cS 901 fS), (zaI aB cB 6 fB), (zaI aT cT 64 fT)])) (va_Qi (fun (r : Int32) (u : (Nat → Int32) × (Nat → Int32) × (Int32) × (Int32)) => match u with | (fB9, fT9, se9, dn9) => True) (fun (u : (Nat → Int32) × (Nat → Int32) × (Int32) × (Int32)) (t : State) => match u with | (fB9, fT9, se9, dn9) => va_P (dC, dI) vwCl [(zo14irriiiiiirriirrrrlriiii m0 th aS aI im ac sp en wg op aB aT se9 dn9 aG aO aN aD bv aY rn kd nu tv), (zaI aS cS 901 fS), (zaI aB cB 6 fB9), (zaI aT cT 64 fT9)] t.heap ∧ va_K (dC, dI) vwCl [(cS, .int), (cB, .int), (cT, .boolean)] t ∧ va_D (va_A [(zo14irriiiiiirriirrrrlriiii m0 th aS aI im ac sp en wg op aB aT se dn aG aO aN aD bv aY rn kd nu tv), (zaI aS cS 901 fS), (zaI aB cB 6 fB), (zaI aT cT 64 fT)] sz) [(zo14irriiiiiirriirrrrlriiii m0 th aS aI im ac sp en wg op aB aT se9 dn9 aG aO aN aD bv aY rn kd nu tv), (zaI aS cS 901 fS), (zaI aB cB 6 fB9), (zaI aT cT 64 fT9)]) (va_A [(zo14irriiiiiirriirrrrlriiii m0 th aS aI im ac sp en wg op aB aT se dn aG aO aN aD bv aY rn kd nu tv), (zaI aS cS 901 fS), (zaI aB cB 6 fB), (zaI aT cT 64 fT)] sz)) 0 0 (va_A [(zo14irriiiiiirriirrrrlriiii m0 th aS aI im ac sp en wg op aB aT se dn aG aO aN aD bv aY rn kd nu tv), (zaI aS cS 901 fS), (zaI aB cB 6 fB), (zaI aT cT 64 fT)] sz) := by
  refine met_ofQ (cc := cX12_of) (maxL := 3) (ret := (some .int)) (by decide) rfl ?_
  intro p e s m args below meth c s₁ Q B hml hv hQ
  obtain ⟨rfl, hsz, hP, hK, hD0⟩ := hv
  have hx := B.exec
  have hb := B.bytes
  have hr := B.returns
  have hts := atoms_spec (ws := wsX12_of) B.pre
  have hown : s.vm.findClass RX12 = some m.cls := findClass_of_methodNamed B.named
  have hlocks := B.notSynchronized
  subst hsz
  have hD := hD0.self (sz := s.heap.size)
  generalize hAe : va_A [(zo14irriiiiiirriirrrrlriiii m0 th aS aI im ac sp en wg op aB aT se dn aG aO aN aD bv aY rn kd nu tv), (zaI aS cS 901 fS), (zaI aB cB 6 fB), (zaI aT cT 64 fT)] s.heap.size = A at hD hQ ⊢
  have hA : ∀ q : Nat, s.heap.size ≤ q → A q := fun q h => by rw [← hAe]; exact Or.inr h
  have hS : va_S A s.heap s.heap [] := va_S.rf
  have hl := lv_entry [.ref m0, .int x, .int y] (n := 3) (Nat.le_of_ble_eq_true rfl)
  rw [lg_entry_eq]
  generalize (lg_sl [.ref m0, .int x, .int y] ++ List.replicate (3 - (lg_sl [.ref m0, .int x, .int y]).length) Slot.unset).toArray = ls at hl ⊢
  generalize hag : ([.ref m0, .int x, .int y] : List Value).toArray = args at hts hQ ⊢
  have hl : lv_has ls 3 [(0, .ref m0), (1, .int x), (2, .int y)] := hl
  obtain ⟨H, hH⟩ : ∃ H : Heap, H = s.heap := ⟨_, rfl⟩
  rw [← hH] at hP
  rw [← hH]
  have hS : va_S A s.heap H [] := by rw [hH]; exact hS
  obtain ⟨locs, hlo⟩ : ∃ L : List Loc, L = [] := ⟨_, rfl⟩
  rw [← hlo] at hS
  rw [← hlo]
  clear hH hlo
  refine lv_aload_n hx hb dX12_of_0 rfl (lv_at hl 0 rfl) ?_
  refine lv_iload_n hx hb dX12_of_1 rfl (lv_at hl 1 rfl) ?_
  have hPc := hP.sub (ws' := [(zo14irriiiiiirriirrrrlriiii m0 th aS aI im ac sp en wg op aB aT se dn aG aO aN aD bv aY rn kd nu tv), (zaI aS cS 901 fS)]) [0, 1] rfl
  have hKc := hK.sub (tys' := [(cS, .int)]) [0] rfl
  refine vp_callSi (va_runV (As := [.int x]) (rest := []) ⟨hx, hb, hml, hown, hts⟩ (c_isHeap l dC dI m0 aS aI aB aT aG aO aN aD aY th im ac sp en wg op se dn rn kd nu tv bv cS fS n x (zn) (hn)) (cwV 1 hts gX12_of_X12_isHeap rfl rfl rfl hd_yX12_isHeap ⟨Nat.le_of_ble_eq_true rfl, Nat.le_of_ble_eq_true rfl⟩) ⟨fun a U g mk q => by obtain ⟨q0, qP, qK⟩ := q; exact ⟨q0, qP, va_K.moved (u := U) (U := U.calling g mk a) (Vm.Alike.refl U.vm) qK⟩, va_recv hK hP (ci := 14) (q := (RX12, TX12, 23)) (q0 := 0) rfl rfl, fun U hU hW => ⟨rfl, by rw [hU]; exact hPc, va_K.moved hW.alike hKc⟩⟩ rfl rfl hl.1 rfl (lv_room (Nat.le_of_ble_eq_true rfl)) dX12_of_2 ⟨Nat.le_of_ble_eq_true rfl, Nat.le_of_ble_eq_true rfl⟩).run (fun r_1 hw_2 => ?_)
  rcases hw_2 with ⟨rfl, j_3, hj_4, rfl⟩ | ⟨rfl, h_5⟩
  · skip
    refine lv_if_eq (tgt := 17) hx hb dX12_of_5 (by decide) (fun c_6 => absurd c_6 (by decide)) (fun _ => ?_)
    refine lv_iload_n hx hb dX12_of_8 rfl (lv_at hl 2 rfl) ?_
    refine lv_iconst (v := 0) hx hb dX12_of_9 (by decide) ?_
    refine lv_iconst (v := 3) hx hb dX12_of_10 (by decide) ?_
    refine vp_callSi (va_runS (As := [.int y, .int 0, .int 3]) (rest := []) ⟨hx, hb, hml, hown, hts⟩ (c_in l dC dI y 0 3) (va_cwS 3 hts gX12_of_X12_in rfl rfl rfl hd_yX12_in.2 ⟨Nat.le_of_ble_eq_true rfl, Nat.le_of_ble_eq_true rfl⟩) ⟨fun a U g mk q => ⟨q.1, trivial⟩, fun U hU hW => ⟨rfl, trivial⟩⟩ rfl rfl hl.1 rfl (lv_room (Nat.le_of_ble_eq_true rfl)) dX12_of_11 ⟨Nat.le_of_ble_eq_true rfl, Nat.le_of_ble_eq_true rfl⟩).run (fun r_7 hw_8 => ?_)
    rcases hw_8 with ⟨rfl, h_9, h_10⟩ | ⟨rfl, h_11⟩
    · skip
      obtain ⟨j_12, hj_13, rfl⟩ := nI_of2 (n := 3) (M := 3) rfl h_9 (Int32.not_lt.mp h_10)
      refine lv_if_ne (tgt := 19) hx hb dX12_of_14 (by decide) (fun _ => ?_) (fun c_14 => absurd c_14 (by decide))
      refine lv_iload_n hx hb dX12_of_19 rfl (lv_at hl 2 rfl) ?_
      refine lv_iconst (v := 3) hx hb dX12_of_20 (by decide) ?_
      refine lv_icmp_ne (tgt := 32) hx hb dX12_of_21 (by decide) (fun c_15 => ?_) (fun c_15 => ?_)
      · skip
        have c_15 : ¬ j_12 = 3 := fun q => c_15 ((nI_eq (a := j_12) (b := 3) (by omega) (by omega)).mpr q)
        refine lv_aload_n hx hb dX12_of_32 rfl (lv_at hl 0 rfl) ?_
        refine va_get (D := (dC, dI)) (ci := 14) (v := .ref aS) (C := RX12) (T := TX12) (N := 23) hx hb hts kc_mOf_0 hown hK hP 0 rfl rfl 1 (by decide) (hts (.fieldLink RX12 9 "MistHeapsModel" "s" "[I") kc_mOf_1) (fun _ h9 => h9) rfl dX12_of_33 ?_
        refine lv_bipush (v := 10) hx hb dX12_of_36 (by decide) ?_
        refine lv_bipush (v := 9) hx hb dX12_of_38 (by decide) ?_
        refine lv_iload_n hx hb dX12_of_40 rfl (lv_at hl 2 rfl) ?_
        refine lv_imul hx hb dX12_of_41 ?_
        refine qi_as (y := nI (9 * j_12)) (pk_mul 9 j_12) ?_
        refine lv_iadd hx hb dX12_of_42 ?_
        refine qi_as (y := nI (10 + (9 * j_12))) (nI_add 10 (9 * j_12)) ?_
        refine lv_iload_n hx hb dX12_of_43 rfl (lv_at hl 1 rfl) ?_
        refine lv_iadd hx hb dX12_of_44 ?_
        refine qi_as (y := nI ((10 + (9 * j_12)) + j_3)) (nI_add (10 + (9 * j_12)) j_3) ?_
        refine va_iald hx hb hK hP 1 0 rfl rfl (vp_in_nI (n := (10 + (9 * j_12)) + j_3) (N := 901) (by omega) (by omega)) dX12_of_45 ?_
        refine qi_as (y := fS ((10 + (9 * j_12)) + j_3)) (by rw [nI_clamp (by omega)]) ?_
        rw [hQ]
        have hP9 := hP.sub (ws' := [(zo14irriiiiiirriirrrrlriiii m0 th aS aI im ac sp en wg op aB aT se dn aG aO aN aD bv aY rn kd nu tv), (zaI aS cS 901 fS), (zaI aB cB 6 fB), (zaI aT cT 64 fT)]) [0, 1, 2, 3] rfl
        have hD9 := hD.sub (ws' := [(zo14irriiiiiirriirrrrlriiii m0 th aS aI im ac sp en wg op aB aT se dn aG aO aN aD bv aY rn kd nu tv), (zaI aS cS 901 fS), (zaI aB cB 6 fB), (zaI aT cT 64 fT)]) [0, 1, 2, 3] (by decide) rfl
        have hK9 := hK.sub (tys' := [(cS, .int), (cB, .int), (cT, .boolean)]) [0, 1, 2] rfl
        exact W.iret (v := fS ((10 + (9 * j_12)) + j_3)) hx hb hr (fun tQ htQ hWQ => ⟨⟨(fS ((10 + (9 * j_12)) + j_3)), (fB, fT, se, dn), rfl, trivial, by rw [htQ]; exact hP9, va_K.moved hWQ.alike hK9, hD9⟩, hS.F htQ⟩) hS.2.2 dX12_of_46
      · skip
        have c_15 : j_12 = 3 := (nI_eq (a := j_12) (b := 3) (by omega) (by omega)).mp c_15
        refine lv_aload_n hx hb dX12_of_24 rfl (lv_at hl 0 rfl) ?_
        refine lv_iload_n hx hb dX12_of_25 rfl (lv_at hl 1 rfl) ?_
        have hPc := hP.sub (ws' := [(zo14irriiiiiirriirrrrlriiii m0 th aS aI im ac sp en wg op aB aT se dn aG aO aN aD bv aY rn kd nu tv), (zaI aS cS 901 fS), (zaI aB cB 6 fB), (zaI aT cT 64 fT)]) [0, 1, 2, 3] rfl
        have hDc := hD.sub (ws' := [(zo14irriiiiiirriirrrrlriiii m0 th aS aI im ac sp en wg op aB aT se dn aG aO aN aD bv aY rn kd nu tv), (zaI aS cS 901 fS), (zaI aB cB 6 fB), (zaI aT cT 64 fT)]) [0, 1, 2, 3] (by decide) rfl
        have hKc := hK.sub (tys' := [(cS, .int), (cB, .int), (cT, .boolean)]) [0, 1, 2] rfl
        have hFc := va_free (wc := [(zo14irriiiiiirriirrrrlriiii m0 th aS aI im ac sp en wg op aB aT se dn aG aO aN aD bv aY rn kd nu tv), (zaI aS cS 901 fS), (zaI aB cB 6 fB), (zaI aT cT 64 fT)]) hD hS hA [0, 1, 2, 3] rfl
        refine va_calli (va_runV (As := [.int (nI j_3)]) (rest := []) ⟨hx, hb, hml, hown, hts⟩ (c_reachOf l dC dI m0 aS aI aB aT aG aO aN aD aY th im ac sp en wg op se dn rn kd nu tv bv cS cB cT fS fB fT j_3 H.size (by omega) (zh)) (cwV 1 hts gX12_of_X12_reachOf rfl rfl rfl hd_yX12_reachOf ⟨Nat.le_of_ble_eq_true rfl, Nat.le_of_ble_eq_true rfl⟩) ⟨fun a U g mk q => by obtain ⟨q0, q1, qP, qK, qD⟩ := q; exact ⟨q0, q1, qP, va_K.moved (u := U) (U := U.calling g mk a) (Vm.Alike.refl U.vm) qK, qD⟩, va_recv hK hP (ci := 14) (q := (RX12, TX12, 23)) (q0 := 0) rfl rfl, fun U hU hW => ⟨rfl, by rw [hU], by rw [hU]; exact hPc, va_K.moved hW.alike hKc, hDc.weaken (fun _ _ _ _ => trivial)⟩⟩ rfl rfl hl.1 rfl (lv_room (Nat.le_of_ble_eq_true rfl)) dX12_of_26 ⟨Nat.le_of_ble_eq_true rfl, Nat.le_of_ble_eq_true rfl⟩) hS (fun q _ h => hFc q h) hFc (fun r_16 u tC H1 locs htC hvm hw_17 hB hz1 hk1 hS => ?_)
        obtain ⟨fB9_18, fT9_19, se9_20, dn9_21⟩ := u
        try dsimp only at hw_17 hB
        obtain ⟨hP1, hK1, hD1⟩ := hB
        rw [htC] at hP1
        have hK1 := va_K.moved hvm.symm hK1
        obtain ⟨hP, hD⟩ := va_join (wr := []) (w1 := [(zo14irriiiiiirriirrrrlriiii m0 th aS aI im ac sp en wg op aB aT se9_20 dn9_21 aG aO aN aD bv aY rn kd nu tv), (zaI aS cS 901 fS), (zaI aB cB 6 fB9_18), (zaI aT cT 64 fT9_19)]) hP hD [0, 1, 2, 3] [] rfl rfl (by decide) (by decide) hk1 hFc hP1 hD1
        have hK := (hK.sub (tys' := []) [] rfl).app hK1
        generalize H1 = H at hP hS ⊢
        have hP : va_P (dC, dI) vwCl [(zo14irriiiiiirriirrrrlriiii m0 th aS aI im ac sp en wg op aB aT se9_20 dn9_21 aG aO aN aD bv aY rn kd nu tv), (zaI aS cS 901 fS), (zaI aB cB 6 fB9_18), (zaI aT cT 64 fT9_19)] H := hP
        have hD : va_D A [(zo14irriiiiiirriirrrrlriiii m0 th aS aI im ac sp en wg op aB aT se9_20 dn9_21 aG aO aN aD bv aY rn kd nu tv), (zaI aS cS 901 fS), (zaI aB cB 6 fB9_18), (zaI aT cT 64 fT9_19)] := hD
        have hK : va_K (dC, dI) vwCl [(cS, .int), (cB, .int), (cT, .boolean)] s := hK
        refine lv_goto (tgt := 46) hx hb dX12_of_29 (by decide) ?_
        rw [hQ]
        have hP9 := hP.sub (ws' := [(zo14irriiiiiirriirrrrlriiii m0 th aS aI im ac sp en wg op aB aT se9_20 dn9_21 aG aO aN aD bv aY rn kd nu tv), (zaI aS cS 901 fS), (zaI aB cB 6 fB9_18), (zaI aT cT 64 fT9_19)]) [0, 1, 2, 3] rfl
        have hD9 := hD.sub (ws' := [(zo14irriiiiiirriirrrrlriiii m0 th aS aI im ac sp en wg op aB aT se9_20 dn9_21 aG aO aN aD bv aY rn kd nu tv), (zaI aS cS 901 fS), (zaI aB cB 6 fB9_18), (zaI aT cT 64 fT9_19)]) [0, 1, 2, 3] (by decide) rfl
        have hK9 := hK.sub (tys' := [(cS, .int), (cB, .int), (cT, .boolean)]) [0, 1, 2] rfl
        exact W.iret (v := r_16) hx hb hr (fun tQ htQ hWQ => ⟨⟨r_16, (fB9_18, fT9_19, se9_20, dn9_21), rfl, trivial, by rw [htQ]; exact hP9, va_K.moved hWQ.alike hK9, hD9⟩, hS.F htQ⟩) hS.2.2 dX12_of_46
    · skip
      refine lv_if_ne (tgt := 19) hx hb dX12_of_14 (by decide) (fun c_22 => absurd c_22 (by decide)) (fun _ => ?_)
      refine lv_iconst (v := (-1)) hx hb dX12_of_17 (by decide) ?_
      rw [hQ]
      have hP9 := hP.sub (ws' := [(zo14irriiiiiirriirrrrlriiii m0 th aS aI im ac sp en wg op aB aT se dn aG aO aN aD bv aY rn kd nu tv), (zaI aS cS 901 fS), (zaI aB cB 6 fB), (zaI aT cT 64 fT)]) [0, 1, 2, 3] rfl
      have hD9 := hD.sub (ws' := [(zo14irriiiiiirriirrrrlriiii m0 th aS aI im ac sp en wg op aB aT se dn aG aO aN aD bv aY rn kd nu tv), (zaI aS cS 901 fS), (zaI aB cB 6 fB), (zaI aT cT 64 fT)]) [0, 1, 2, 3] (by decide) rfl
      have hK9 := hK.sub (tys' := [(cS, .int), (cB, .int), (cT, .boolean)]) [0, 1, 2] rfl
      exact W.iret (v := (-1)) hx hb hr (fun tQ htQ hWQ => ⟨⟨(-1), (fB, fT, se, dn), rfl, trivial, by rw [htQ]; exact hP9, va_K.moved hWQ.alike hK9, hD9⟩, hS.F htQ⟩) hS.2.2 dX12_of_18
  · skip
    refine lv_if_eq (tgt := 17) hx hb dX12_of_5 (by decide) (fun _ => ?_) (fun c_23 => absurd c_23 (by decide))
    refine lv_iconst (v := (-1)) hx hb dX12_of_17 (by decide) ?_
    rw [hQ]
    have hP9 := hP.sub (ws' := [(zo14irriiiiiirriirrrrlriiii m0 th aS aI im ac sp en wg op aB aT se dn aG aO aN aD bv aY rn kd nu tv), (zaI aS cS 901 fS), (zaI aB cB 6 fB), (zaI aT cT 64 fT)]) [0, 1, 2, 3] rfl
    have hD9 := hD.sub (ws' := [(zo14irriiiiiirriirrrrlriiii m0 th aS aI im ac sp en wg op aB aT se dn aG aO aN aD bv aY rn kd nu tv), (zaI aS cS 901 fS), (zaI aB cB 6 fB), (zaI aT cT 64 fT)]) [0, 1, 2, 3] (by decide) rfl
    have hK9 := hK.sub (tys' := [(cS, .int), (cB, .int), (cT, .boolean)]) [0, 1, 2] rfl
    exact W.iret (v := (-1)) hx hb hr (fun tQ htQ hWQ => ⟨⟨(-1), (fB, fT, se, dn), rfl, trivial, by rw [htQ]; exact hP9, va_K.moved hWQ.alike hK9, hD9⟩, hS.F htQ⟩) hS.2.2 dX12_of_18
end
section

noncomputable def MOK (f : Nat → Int32) (n wk kb : Nat) : Prop := ∃ hl tp : Nat, n ≤ 8 ∧ f 0 = nI n ∧ hl ≤ 5 ∧ f 1 = nI hl ∧ wk ≤ 6 ∧ f 2 = nI wk ∧ kb ≤ 12 ∧ f 3 = nI kb ∧ (∀ i, i < 12 → ∃ j : Nat, j < 8 ∧ f (79 + i) = nI j) ∧ tp ≤ 100 ∧ f 4 = nI tp ∧ holdH f hl
theorem MOK_rest {f g : Nat → Int32} {n wk kb : Nat} (h : MOK f n wk kb) (he : ∀ i, i ≤ 5 ∨ (79 ≤ i ∧ i < 91) ∨ (191 ≤ i ∧ i < 901) → g i = f i) : MOK g n wk kb := by
  obtain ⟨hl, tp, hn, zn, h5, z1, hw6, zw, hk12, zk, zb, ht, zt, hHd⟩ := h
  refine ⟨hl, tp, hn, (he 0 (by omega)).trans zn, h5, (he 1 (by omega)).trans z1, hw6, (he 2 (by omega)).trans zw, hk12, (he 3 (by omega)).trans zk, fun i hi => ?_, ht, (he 4 (by omega)).trans zt, holdH_of hHd h5 (fun i hi => he i (by omega))⟩
  obtain ⟨j, hj, e⟩ := zb i hi
  exact ⟨j, hj, (he _ (by omega)).trans e⟩
theorem MOK_heap {f g : Nat → Int32} {n wk kb n9 : Nat} (h : MOK f n wk kb) (h9 : n9 ≤ 8) (z9 : g 0 = nI n9) (he : ∀ i, i ≠ 0 → ¬ (10 ≤ i ∧ i < 37) → g i = f i) : MOK g n9 wk kb := by
  obtain ⟨hl, tp, hn, zn, h5, z1, hw6, zw, hk12, zk, zb, ht, zt, hHd⟩ := h
  refine ⟨hl, tp, h9, z9, h5, (he 1 (by omega) (by omega)).trans z1, hw6, (he 2 (by omega) (by omega)).trans zw, hk12, (he 3 (by omega) (by omega)).trans zk, fun i hi => ?_, ht, (he 4 (by omega) (by omega)).trans zt, holdH_of hHd h5 (fun i hi => he i (by omega) (by omega))⟩
  obtain ⟨j, hj, e⟩ := zb i hi
  exact ⟨j, hj, (he _ (by omega) (by omega)).trans e⟩
theorem MOK_walk {f g : Nat → Int32} {n wk kb w9 : Nat} (h : MOK f n wk kb) (h9 : w9 ≤ 6) (z9 : g 2 = nI w9) (he : ∀ i, i ≠ 2 → ¬ (73 ≤ i ∧ i < 79) → g i = f i) : MOK g n w9 kb := by
  obtain ⟨hl, tp, hn, zn, h5, z1, hw6, zw, hk12, zk, zb, ht, zt, hHd⟩ := h
  refine ⟨hl, tp, hn, (he 0 (by omega) (by omega)).trans zn, h5, (he 1 (by omega) (by omega)).trans z1, h9, z9, hk12, (he 3 (by omega) (by omega)).trans zk, fun i hi => ?_, ht, (he 4 (by omega) (by omega)).trans zt, holdH_of hHd h5 (fun i hi => he i (by omega) (by omega))⟩
  obtain ⟨j, hj, e⟩ := zb i hi
  exact ⟨j, hj, (he _ (by omega) (by omega)).trans e⟩
theorem MOK_feed {f g : Nat → Int32} {n wk kb t9 : Nat} (h : MOK f n wk kb) (h9 : t9 ≤ 100) (z9 : g 4 = nI t9) (he : ∀ i, i ≠ 4 → ¬ (91 ≤ i ∧ i < 191) → g i = f i) : MOK g n wk kb := by
  obtain ⟨hl, tp, hn, zn, h5, z1, hw6, zw, hk12, zk, zb, ht, zt, hHd⟩ := h
  refine ⟨hl, t9, hn, (he 0 (by omega) (by omega)).trans zn, h5, (he 1 (by omega) (by omega)).trans z1, hw6, (he 2 (by omega) (by omega)).trans zw, hk12, (he 3 (by omega) (by omega)).trans zk, fun i hi => ?_, h9, z9, holdH_of hHd h5 (fun i hi => he i (by omega) (by omega))⟩
  obtain ⟨j, hj, e⟩ := zb i hi
  exact ⟨j, hj, (he _ (by omega) (by omega)).trans e⟩
theorem MOK_book {f g : Nat → Int32} {n wk kb k9 : Nat} (h : MOK f n wk kb) (h9 : k9 ≤ 12) (z9 : g 3 = nI k9) (zb9 : ∀ i, i < 12 → ∃ j : Nat, j < 8 ∧ g (79 + i) = nI j) (he : ∀ i, i ≠ 3 → ¬ (79 ≤ i ∧ i < 91) → g i = f i) : MOK g n wk k9 := by
  obtain ⟨hl, tp, hn, zn, h5, z1, hw6, zw, hk12, zk, zb, ht, zt, hHd⟩ := h
  exact ⟨hl, tp, hn, (he 0 (by omega) (by omega)).trans zn, h5, (he 1 (by omega) (by omega)).trans z1, hw6, (he 2 (by omega) (by omega)).trans zw, h9, z9, zb9, ht, (he 4 (by omega) (by omega)).trans zt, holdH_of hHd h5 (fun i hi => he i (by omega) (by omega))⟩
theorem MOK_hill {f g : Nat → Int32} {n wk kb : Nat} (h : MOK f n wk kb) (hq : HQ f g) : MOK g n wk kb := by
  obtain ⟨hl, tp, hn, zn, h5, z1, hw6, zw, hk12, zk, zb, ht, zt, hHd⟩ := h
  obtain ⟨⟨hl9, g5, g1, gH⟩, ⟨t9, gt, g4⟩, he⟩ := hq
  refine ⟨hl9, t9, hn, (he 0 (by omega) (by omega) (by omega) (by omega)).trans zn, g5, g1, hw6, (he 2 (by omega) (by omega) (by omega) (by omega)).trans zw, hk12, (he 3 (by omega) (by omega) (by omega) (by omega)).trans zk, fun i hi => ?_, gt, g4, gH⟩
  obtain ⟨j, hj, e⟩ := zb i hi
  exact ⟨j, hj, (he _ (by omega) (by omega) (by omega) (by omega)).trans e⟩
theorem MOK_n {f : Nat → Int32} {n wk kb : Nat} (h : MOK f n wk kb) : f 0 = nI n ∧ n ≤ 8 := by
  obtain ⟨hl, tp, hn, zn, h5, z1, hw6, zw, hk12, zk, zb, ht, zt, hHd⟩ := h
  exact ⟨zn, hn⟩
/-- what else is visible of the reference's numbers -/
noncomputable def MV (f : Nat → Int32) (n : Nat) (mi sn : Int32) (yk yv yc : Nat → Int32) : Prop := f 6 = mi ∧ f 7 = sn ∧ (∀ k, k < n → f (10 + k) = yk k) ∧ (∀ k, k < n → f (19 + k) = yv k) ∧ ∀ k, k < n → f (28 + k) = yc k
theorem MV_of {f g : Nat → Int32} {n : Nat} {mi sn : Int32} {yk yv yc : Nat → Int32} (h : MV f n mi sn yk yv yc) (he : ∀ i, i = 6 ∨ i = 7 ∨ (10 ≤ i ∧ i < 10 + n) ∨ (19 ≤ i ∧ i < 19 + n) ∨ (28 ≤ i ∧ i < 28 + n) → g i = f i) : MV g n mi sn yk yv yc := ⟨(he 6 (by omega)).trans h.1, (he 7 (by omega)).trans h.2.1, fun k hk => (he _ (by omega)).trans (h.2.2.1 k hk), fun k hk => (he _ (by omega)).trans (h.2.2.2.1 k hk), fun k hk => (he _ (by omega)).trans (h.2.2.2.2 k hk)⟩
theorem MV_put {f : Nat → Int32} {n : Nat} {mi sn x y z v : Int32} {yk yv yc : Nat → Int32} (h : MV f n mi sn yk yv yc) (hn : n < 8) : MV (upd (upd (upd (upd f (10 + n) x) (19 + n) y) (28 + n) z) 0 v) (n + 1) mi sn (fun k => if k = n then x else yk k) (fun k => if k = n then y else yv k) (fun k => if k = n then z else yc k) := by
  have hw : ∀ i, i ≠ 0 → i ≠ 28 + n → i ≠ 19 + n → i ≠ 10 + n → upd (upd (upd (upd f (10 + n) x) (19 + n) y) (28 + n) z) 0 v i = f i := fun i a b c d => by rw [pk_un a, pk_un b, pk_un c, pk_un d]
  refine ⟨(hw 6 (by omega) (by omega) (by omega) (by omega)).trans h.1, (hw 7 (by omega) (by omega) (by omega) (by omega)).trans h.2.1, fun k hk => ?_, fun k hk => ?_, fun k hk => ?_⟩
  · by_cases q : k = n
    · subst q
      rw [pk_un (by omega), pk_un (by omega), pk_un (by omega), pk_us]; exact (if_pos rfl).symm
    · rw [hw _ (by omega) (by omega) (by omega) (by omega)]; exact (h.2.2.1 k (by omega)).trans (if_neg q).symm
  · by_cases q : k = n
    · subst q
      rw [pk_un (by omega), pk_un (by omega), pk_us]; exact (if_pos rfl).symm
    · rw [hw _ (by omega) (by omega) (by omega) (by omega)]; exact (h.2.2.2.1 k (by omega)).trans (if_neg q).symm
  · by_cases q : k = n
    · subst q
      rw [pk_un (by omega), pk_us]; exact (if_pos rfl).symm
    · rw [hw _ (by omega) (by omega) (by omega) (by omega)]; exact (h.2.2.2.2 k (by omega)).trans (if_neg q).symm
theorem fdN_le {k : Nat} {x : Int32} (h : k ≤ 100) : fdN k x ≤ 100 := by
  unfold fdN
  split
  · exact h
  · split
    · exact h
    · split
      · exact h
      · omega
theorem wkN_le {k : Nat} {x : Int32} (h : k ≤ 6) : wkN k x ≤ 6 := by
  unfold wkN
  split
  · omega
  · split
    · exact h
    · split
      · exact h
      · split
        · exact h
        · omega
set_option maxHeartbeats 4000000 in
set_option maxRecDepth 100000 in
/-- what holds of the reference between two calls -/
noncomputable def MI (dC : Nat → ClassId) (dI : Nat → Nat → Nat) (im : Int32) (vm kvm : VS) (tm : List Nat) (T : List (ClassId × FieldType)) (m0 : Nat) (M : va_W) (H : Heap) : Prop := ∀ M9 : Prop, (∀ (aS : Nat) (aI : Nat) (aB : Nat) (aT : Nat) (aG : Nat) (aO : Nat) (aN : Nat) (aD : Nat) (aY : Nat) (th : Int32) (ac : Int32) (sp : Int32) (en : Int32) (wg : Int32) (op : Int32) (se : Int32) (dn : Int32) (rn : Int32) (kd : Int32) (nu : Int32) (tv : Int32) (bv : Int64) (cS : ClassId) (cI : ClassId) (cB : ClassId) (cT : ClassId) (cG : ClassId) (cO : ClassId) (cN : ClassId) (cD : ClassId) (cY : ClassId) (fS : Nat → Int32) (fI : Nat → Int32) (fB : Nat → Int32) (fT : Nat → Int32) (fG : Nat → Int32) (fO : Nat → Int64) (fN : Nat → Int64) (fD : Nat → Int32) (fY : Nat → Int32), M = [(zo14irriiiiiirriirrrrlriiii m0 th aS aI im ac sp en wg op aB aT se dn aG aO aN aD bv aY rn kd nu tv), (zaI aS cS 901 fS), (zaI aI cI 901 fI), (zaI aB cB 6 fB), (zaI aT cT 64 fT), (zaI aG cG 9 fG), (zaL aO cO 36 fO), (zaL aN cN 36 fN), (zaI aD cD 36 fD), (zaI aY cY 20 fY)] → va_P (dC, dI) vwCl M H → va_D (fun _ => True) M → (∀ p ∈ ([(cS, .int), (cI, .int), (cB, .int), (cT, .boolean), (cG, .int), (cO, .long), (cN, .long), (cD, .int), (cY, .int)] : List (ClassId × FieldType)), p ∈ T) → (MOK fS (vm.1) (vm.2.1) (vm.2.2.1) ∧ MV fS (vm.1) (vm.2.2.2.1) (vm.2.2.2.2.1) (vm.2.2.2.2.2.1) (vm.2.2.2.2.2.2.1) (vm.2.2.2.2.2.2.2)) → (im = 0 ∨ (MOK fI (kvm.1) (kvm.2.1) (kvm.2.2.1) ∧ MV fI (kvm.1) (kvm.2.2.2.1) (kvm.2.2.2.2.1) (kvm.2.2.2.2.2.1) (kvm.2.2.2.2.2.2.1) (kvm.2.2.2.2.2.2.2))) → (tm.length ≤ 20 ∧ rn = nI tm.length ∧ okY fY tm) → M9) → M9
end
section

set_option maxHeartbeats 4000000 in
set_option maxRecDepth 100000 in
theorem v_told (l : Launch) (dC : Nat → ClassId) (dI : Nat → Nat → Nat) (sK sV : Nat → Nat) (im : Int32) (vm kvm : VS) (tm : List Nat) (T : List (ClassId × FieldType)) (m0 : Nat) (M : va_W) (x : Int32) (sz : Nat) : Met l yX12_told wsX12_told ({ frames := 1, cells := 0, slots := 0, locals := 22 } : Room) (va_Pc [.ref m0, .int x] (fun U => U.heap.size = sz ∧ MI dC dI im vm kvm tm T m0 M U.heap ∧ va_K (dC, dI) vwCl T U ∧ Gs sK sV (va_A M sz) U)) (va_Qi (fun (r : Int32) (u : Int32 × VS × VS × List Nat) => u = (im, vm, kvm, tm)) (fun (u : Int32 × VS × VS × List Nat) (t : State) => ∃ M1 : va_W, MI dC dI u.1 u.2.1 u.2.2.1 u.2.2.2 T m0 M1 t.heap ∧ va_D (va_A M sz) M1 ∧ M1.map (fun c => c.1) = M.map (fun c => c.1)) (va_A M sz)) 0 0 (va_A M sz) := by
  obtain ⟨n, wk, kb, mi, sn, yk, yv, yc⟩ := vm
  refine met_wrap (fun args s hPc => ?_)
  obtain ⟨rfl, rfl, hMM, hK, hE⟩ := hPc
  have hMM0 := hMM
  refine hMM _ (fun aS aI aB aT aG aO aN aD aY th ac sp en wg op se dn rn kd nu tv bv cS cI cB cT cG cO cN cD cY fS fI fB fT fG fO fN fD fY hM hP hD hTM hMS hMI hrn => ?_)
  have hMV : MV fS n mi sn yk yv yc := hMS.2
  have hMS : MOK fS n wk kb := hMS.1
  obtain ⟨hl, tp, hn, zn, h5, z1, hw6, zw, hk12, zk, zb, ht, zt, hHd⟩ := id hMS
  obtain ⟨hrq, rfl, hYm⟩ := hrn
  subst hM
  have hP : va_P (dC, dI) vwCl ([(zo14irriiiiiirriirrrrlriiii m0 th aS aI im ac sp en wg op aB aT se dn aG aO aN aD bv aY (nI tm.length) kd nu tv), (zaI aS cS 901 fS), (zaI aI cI 901 fI), (zaI aB cB 6 fB), (zaI aT cT 64 fT), (zaI aG cG 9 fG), (zaL aO cO 36 fO), (zaL aN cN 36 fN), (zaI aD cD 36 fD), (zaI aY cY 20 fY)] ++ []) s.heap := hP
  have hD : va_D (fun _ => True) ([(zo14irriiiiiirriirrrrlriiii m0 th aS aI im ac sp en wg op aB aT se dn aG aO aN aD bv aY (nI tm.length) kd nu tv), (zaI aS cS 901 fS), (zaI aI cI 901 fI), (zaI aB cB 6 fB), (zaI aT cT 64 fT), (zaI aG cG 9 fG), (zaL aO cO 36 fO), (zaL aN cN 36 fN), (zaI aD cD 36 fD), (zaI aY cY 20 fY)] ++ []) := hD
  have hwc := bl_mem (G := [(zo14irriiiiiirriirrrrlriiii m0 th aS aI im ac sp en wg op aB aT se dn aG aO aN aD bv aY (nI tm.length) kd nu tv), (zaI aS cS 901 fS), (zaI aI cI 901 fI), (zaI aB cB 6 fB), (zaI aT cT 64 fT), (zaI aG cG 9 fG), (zaL aO cO 36 fO), (zaL aN cN 36 fN), (zaI aD cD 36 fD), (zaI aY cY 20 fY)]) (F := [(zo14irriiiiiirriirrrrlriiii m0 th aS aI im ac sp en wg op aB aT se dn aG aO aN aD bv aY (nI tm.length) kd nu tv), (zaI aS cS 901 fS)]) (T := []) [0, 1] rfl
  have hPc := bl_sub (F := [(zo14irriiiiiirriirrrrlriiii m0 th aS aI im ac sp en wg op aB aT se dn aG aO aN aD bv aY (nI tm.length) kd nu tv), (zaI aS cS 901 fS)]) hP [0, 1] rfl
  refine ⟨_, _, _, c_mTold l dC dI m0 aS aI aB aT aG aO aN aD aY th im ac sp en wg op se dn (nI tm.length) kd nu tv bv cS fS x (hHd.hold h5), ⟨rfl, hPc, (K_mem hK hTM).sub [0] rfl⟩, fun o t hQ => ?_, fun q hq => hq.elim⟩
  obtain ⟨r, rfl, hpost, hh⟩ := hQ
  exact ⟨⟨r, (im, (n, wk, kb, mi, sn, yk, yv, yc), kvm, tm), rfl, rfl, _, by rw [hh]; exact hMM0, ⟨hD.1, fun k q hq => Or.inl ⟨k, q.2, hq⟩⟩, rfl⟩, by rw [hh]; exact Nat.le_refl _, fun q _ _ => by rw [hh]⟩

set_option maxHeartbeats 4000000 in
set_option maxRecDepth 100000 in
theorem v_line (l : Launch) (dC : Nat → ClassId) (dI : Nat → Nat → Nat) (sK sV : Nat → Nat) (im : Int32) (vm kvm : VS) (tm : List Nat) (T : List (ClassId × FieldType)) (m0 : Nat) (M : va_W) (x : Int32) (y : Int32) (sz : Nat) : Met l yX12_line wsX12_line ({ frames := 2, cells := 0, slots := 0, locals := 43 } : Room) (va_Pc [.ref m0, .int x, .int y] (fun U => U.heap.size = sz ∧ MI dC dI im vm kvm tm T m0 M U.heap ∧ va_K (dC, dI) vwCl T U ∧ Gs sK sV (va_A M sz) U)) (va_Qi (fun (r : Int32) (u : Int32 × VS × VS × List Nat) => u = (im, vm, kvm, tm)) (fun (u : Int32 × VS × VS × List Nat) (t : State) => ∃ M1 : va_W, MI dC dI u.1 u.2.1 u.2.2.1 u.2.2.2 T m0 M1 t.heap ∧ va_D (va_A M sz) M1 ∧ M1.map (fun c => c.1) = M.map (fun c => c.1)) (va_A M sz)) 0 0 (va_A M sz) := by
  obtain ⟨n, wk, kb, mi, sn, yk, yv, yc⟩ := vm
  refine met_wrap (fun args s hPc => ?_)
  obtain ⟨rfl, rfl, hMM, hK, hE⟩ := hPc
  have hMM0 := hMM
  refine hMM _ (fun aS aI aB aT aG aO aN aD aY th ac sp en wg op se dn rn kd nu tv bv cS cI cB cT cG cO cN cD cY fS fI fB fT fG fO fN fD fY hM hP hD hTM hMS hMI hrn => ?_)
  have hMV : MV fS n mi sn yk yv yc := hMS.2
  have hMS : MOK fS n wk kb := hMS.1
  obtain ⟨hl, tp, hn, zn, h5, z1, hw6, zw, hk12, zk, zb, ht, zt, hHd⟩ := id hMS
  obtain ⟨hrq, rfl, hYm⟩ := hrn
  subst hM
  have hP : va_P (dC, dI) vwCl ([(zo14irriiiiiirriirrrrlriiii m0 th aS aI im ac sp en wg op aB aT se dn aG aO aN aD bv aY (nI tm.length) kd nu tv), (zaI aS cS 901 fS), (zaI aI cI 901 fI), (zaI aB cB 6 fB), (zaI aT cT 64 fT), (zaI aG cG 9 fG), (zaL aO cO 36 fO), (zaL aN cN 36 fN), (zaI aD cD 36 fD), (zaI aY cY 20 fY)] ++ []) s.heap := hP
  have hD : va_D (fun _ => True) ([(zo14irriiiiiirriirrrrlriiii m0 th aS aI im ac sp en wg op aB aT se dn aG aO aN aD bv aY (nI tm.length) kd nu tv), (zaI aS cS 901 fS), (zaI aI cI 901 fI), (zaI aB cB 6 fB), (zaI aT cT 64 fT), (zaI aG cG 9 fG), (zaL aO cO 36 fO), (zaL aN cN 36 fN), (zaI aD cD 36 fD), (zaI aY cY 20 fY)] ++ []) := hD
  have hwc := bl_mem (G := [(zo14irriiiiiirriirrrrlriiii m0 th aS aI im ac sp en wg op aB aT se dn aG aO aN aD bv aY (nI tm.length) kd nu tv), (zaI aS cS 901 fS), (zaI aI cI 901 fI), (zaI aB cB 6 fB), (zaI aT cT 64 fT), (zaI aG cG 9 fG), (zaL aO cO 36 fO), (zaL aN cN 36 fN), (zaI aD cD 36 fD), (zaI aY cY 20 fY)]) (F := [(zo14irriiiiiirriirrrrlriiii m0 th aS aI im ac sp en wg op aB aT se dn aG aO aN aD bv aY (nI tm.length) kd nu tv), (zaI aS cS 901 fS)]) (T := []) [0, 1] rfl
  have hPc := bl_sub (F := [(zo14irriiiiiirriirrrrlriiii m0 th aS aI im ac sp en wg op aB aT se dn aG aO aN aD bv aY (nI tm.length) kd nu tv), (zaI aS cS 901 fS)]) hP [0, 1] rfl
  refine ⟨_, _, _, c_mLine l dC dI m0 aS aI aB aT aG aO aN aD aY th im ac sp en wg op se dn (nI tm.length) kd nu tv bv cS fS n x y zn hn (hHd.hold h5), ⟨rfl, hPc, (K_mem hK hTM).sub [0] rfl⟩, fun o t hQ => ?_, fun q hq => hq.elim⟩
  obtain ⟨r, rfl, hpost, hh⟩ := hQ
  exact ⟨⟨r, (im, (n, wk, kb, mi, sn, yk, yv, yc), kvm, tm), rfl, rfl, _, by rw [hh]; exact hMM0, ⟨hD.1, fun k q hq => Or.inl ⟨k, q.2, hq⟩⟩, rfl⟩, by rw [hh]; exact Nat.le_refl _, fun q _ _ => by rw [hh]⟩

set_option maxHeartbeats 4000000 in
set_option maxRecDepth 100000 in
theorem v_count (l : Launch) (dC : Nat → ClassId) (dI : Nat → Nat → Nat) (sK sV : Nat → Nat) (im : Int32) (vm kvm : VS) (tm : List Nat) (T : List (ClassId × FieldType)) (m0 : Nat) (M : va_W) (x : Int32) (sz : Nat) : Met l yX12_count wsX12_count ({ frames := 0, cells := 0, slots := 0, locals := 0 } : Room) (va_Pc [.ref m0, .int x] (fun U => U.heap.size = sz ∧ MI dC dI im vm kvm tm T m0 M U.heap ∧ va_K (dC, dI) vwCl T U ∧ Gs sK sV (va_A M sz) U)) (va_Qi (fun (r : Int32) (u : Int32 × VS × VS × List Nat) => u = (im, vm, kvm, tm)) (fun (u : Int32 × VS × VS × List Nat) (t : State) => ∃ M1 : va_W, MI dC dI u.1 u.2.1 u.2.2.1 u.2.2.2 T m0 M1 t.heap ∧ va_D (va_A M sz) M1 ∧ M1.map (fun c => c.1) = M.map (fun c => c.1)) (va_A M sz)) 0 0 (va_A M sz) := by
  obtain ⟨n, wk, kb, mi, sn, yk, yv, yc⟩ := vm
  refine met_wrap (fun args s hPc => ?_)
  obtain ⟨rfl, rfl, hMM, hK, hE⟩ := hPc
  have hMM0 := hMM
  refine hMM _ (fun aS aI aB aT aG aO aN aD aY th ac sp en wg op se dn rn kd nu tv bv cS cI cB cT cG cO cN cD cY fS fI fB fT fG fO fN fD fY hM hP hD hTM hMS hMI hrn => ?_)
  have hMV : MV fS n mi sn yk yv yc := hMS.2
  have hMS : MOK fS n wk kb := hMS.1
  obtain ⟨hl, tp, hn, zn, h5, z1, hw6, zw, hk12, zk, zb, ht, zt, hHd⟩ := id hMS
  obtain ⟨hrq, rfl, hYm⟩ := hrn
  subst hM
  have hP : va_P (dC, dI) vwCl ([(zo14irriiiiiirriirrrrlriiii m0 th aS aI im ac sp en wg op aB aT se dn aG aO aN aD bv aY (nI tm.length) kd nu tv), (zaI aS cS 901 fS), (zaI aI cI 901 fI), (zaI aB cB 6 fB), (zaI aT cT 64 fT), (zaI aG cG 9 fG), (zaL aO cO 36 fO), (zaL aN cN 36 fN), (zaI aD cD 36 fD), (zaI aY cY 20 fY)] ++ []) s.heap := hP
  have hD : va_D (fun _ => True) ([(zo14irriiiiiirriirrrrlriiii m0 th aS aI im ac sp en wg op aB aT se dn aG aO aN aD bv aY (nI tm.length) kd nu tv), (zaI aS cS 901 fS), (zaI aI cI 901 fI), (zaI aB cB 6 fB), (zaI aT cT 64 fT), (zaI aG cG 9 fG), (zaL aO cO 36 fO), (zaL aN cN 36 fN), (zaI aD cD 36 fD), (zaI aY cY 20 fY)] ++ []) := hD
  have hwc := bl_mem (G := [(zo14irriiiiiirriirrrrlriiii m0 th aS aI im ac sp en wg op aB aT se dn aG aO aN aD bv aY (nI tm.length) kd nu tv), (zaI aS cS 901 fS), (zaI aI cI 901 fI), (zaI aB cB 6 fB), (zaI aT cT 64 fT), (zaI aG cG 9 fG), (zaL aO cO 36 fO), (zaL aN cN 36 fN), (zaI aD cD 36 fD), (zaI aY cY 20 fY)]) (F := [(zo14irriiiiiirriirrrrlriiii m0 th aS aI im ac sp en wg op aB aT se dn aG aO aN aD bv aY (nI tm.length) kd nu tv), (zaI aS cS 901 fS)]) (T := []) [0, 1] rfl
  have hPc := bl_sub (F := [(zo14irriiiiiirriirrrrlriiii m0 th aS aI im ac sp en wg op aB aT se dn aG aO aN aD bv aY (nI tm.length) kd nu tv), (zaI aS cS 901 fS)]) hP [0, 1] rfl
  refine ⟨_, _, _, c_mCount l dC dI m0 aS aI aB aT aG aO aN aD aY th im ac sp en wg op se dn (nI tm.length) kd nu tv bv cS fS x , ⟨rfl, hPc, (K_mem hK hTM).sub [0] rfl⟩, fun o t hQ => ?_, fun q hq => hq.elim⟩
  obtain ⟨r, rfl, hpost, hh⟩ := hQ
  exact ⟨⟨r, (im, (n, wk, kb, mi, sn, yk, yv, yc), kvm, tm), rfl, rfl, _, by rw [hh]; exact hMM0, ⟨hD.1, fun k q hq => Or.inl ⟨k, q.2, hq⟩⟩, rfl⟩, by rw [hh]; exact Nat.le_refl _, fun q _ _ => by rw [hh]⟩

set_option maxHeartbeats 4000000 in
set_option maxRecDepth 100000 in
theorem v_of (l : Launch) (dC : Nat → ClassId) (dI : Nat → Nat → Nat) (sK sV : Nat → Nat) (im : Int32) (vm kvm : VS) (tm : List Nat) (T : List (ClassId × FieldType)) (m0 : Nat) (M : va_W) (x : Int32) (y : Int32) (sz : Nat) : Met l yX12_of wsX12_of ({ frames := 2, cells := 0, slots := 0, locals := 55 } : Room) (va_Pc [.ref m0, .int x, .int y] (fun U => U.heap.size = sz ∧ MI dC dI im vm kvm tm T m0 M U.heap ∧ va_K (dC, dI) vwCl T U ∧ Gs sK sV (va_A M sz) U)) (va_Qi (fun (r : Int32) (u : Int32 × VS × VS × List Nat) => u = (im, vm, kvm, tm)) (fun (u : Int32 × VS × VS × List Nat) (t : State) => ∃ M1 : va_W, MI dC dI u.1 u.2.1 u.2.2.1 u.2.2.2 T m0 M1 t.heap ∧ va_D (va_A M sz) M1 ∧ M1.map (fun c => c.1) = M.map (fun c => c.1)) (va_A M sz)) 0 0 (va_A M sz) := by
  obtain ⟨n, wk, kb, mi, sn, yk, yv, yc⟩ := vm
  refine met_wrap (fun args s hPc => ?_)
  obtain ⟨rfl, rfl, hMM, hK, hE⟩ := hPc
  have hMM0 := hMM
  refine hMM _ (fun aS aI aB aT aG aO aN aD aY th ac sp en wg op se dn rn kd nu tv bv cS cI cB cT cG cO cN cD cY fS fI fB fT fG fO fN fD fY hM hP hD hTM hMS hMI hrn => ?_)
  have hMV : MV fS n mi sn yk yv yc := hMS.2
  have hMS : MOK fS n wk kb := hMS.1
  obtain ⟨hl, tp, hn, zn, h5, z1, hw6, zw, hk12, zk, zb, ht, zt, hHd⟩ := id hMS
  obtain ⟨hrq, rfl, hYm⟩ := hrn
  subst hM
  have hP : va_P (dC, dI) vwCl ([(zo14irriiiiiirriirrrrlriiii m0 th aS aI im ac sp en wg op aB aT se dn aG aO aN aD bv aY (nI tm.length) kd nu tv), (zaI aS cS 901 fS), (zaI aI cI 901 fI), (zaI aB cB 6 fB), (zaI aT cT 64 fT), (zaI aG cG 9 fG), (zaL aO cO 36 fO), (zaL aN cN 36 fN), (zaI aD cD 36 fD), (zaI aY cY 20 fY)] ++ []) s.heap := hP
  have hD : va_D (fun _ => True) ([(zo14irriiiiiirriirrrrlriiii m0 th aS aI im ac sp en wg op aB aT se dn aG aO aN aD bv aY (nI tm.length) kd nu tv), (zaI aS cS 901 fS), (zaI aI cI 901 fI), (zaI aB cB 6 fB), (zaI aT cT 64 fT), (zaI aG cG 9 fG), (zaL aO cO 36 fO), (zaL aN cN 36 fN), (zaI aD cD 36 fD), (zaI aY cY 20 fY)] ++ []) := hD
  have hwc := bl_mem (G := [(zo14irriiiiiirriirrrrlriiii m0 th aS aI im ac sp en wg op aB aT se dn aG aO aN aD bv aY (nI tm.length) kd nu tv), (zaI aS cS 901 fS), (zaI aI cI 901 fI), (zaI aB cB 6 fB), (zaI aT cT 64 fT), (zaI aG cG 9 fG), (zaL aO cO 36 fO), (zaL aN cN 36 fN), (zaI aD cD 36 fD), (zaI aY cY 20 fY)]) (F := [(zo14irriiiiiirriirrrrlriiii m0 th aS aI im ac sp en wg op aB aT se dn aG aO aN aD bv aY (nI tm.length) kd nu tv), (zaI aS cS 901 fS), (zaI aB cB 6 fB), (zaI aT cT 64 fT)]) (T := []) [0, 1, 3, 4] rfl
  have hPc := bl_sub (F := [(zo14irriiiiiirriirrrrlriiii m0 th aS aI im ac sp en wg op aB aT se dn aG aO aN aD bv aY (nI tm.length) kd nu tv), (zaI aS cS 901 fS), (zaI aB cB 6 fB), (zaI aT cT 64 fT)]) hP [0, 1, 3, 4] rfl
  refine ⟨_, _, _, c_mOf l dC dI m0 aS aI aB aT aG aO aN aD aY th im ac sp en wg op se dn (nI tm.length) kd nu tv bv cS cB cT fS fB fT n x y s.heap.size zn hn (hHd.hold h5), ⟨rfl, rfl, hPc, (K_mem hK hTM).sub [0, 2, 3] rfl, bl_Dsub hD [0, 1, 3, 4] (by decide) rfl⟩, fun o t hQ => ?_, fun q hq => bl_A hwc q hq⟩
  obtain ⟨⟨r, u9, rfl, hpost, hB⟩, hz, hkp⟩ := hQ
  obtain ⟨fB9, fT9, se9, dn9⟩ := u9
  try dsimp only at hpost hB
  obtain ⟨hP1, hK1, hD1⟩ := hB
  have hJ := bl_gen (F' := [(zo14irriiiiiirriirrrrlriiii m0 th aS aI im ac sp en wg op aB aT se9 dn9 aG aO aN aD bv aY (nI tm.length) kd nu tv), (zaI aS cS 901 fS), (zaI aI cI 901 fI), (zaI aB cB 6 fB9), (zaI aT cT 64 fT9), (zaI aG cG 9 fG), (zaL aO cO 36 fO), (zaL aN cN 36 fN), (zaI aD cD 36 fD), (zaI aY cY 20 fY)]) hP hD [0, 1, 3, 4] rfl hkp hP1 hD1 [some 0, some 1, none, some 2, some 3, none, none, none, none, none] [0, 1, 3, 4] rfl (Or.inl rfl) rfl
  exact ⟨⟨r, (im, (n, wk, kb, mi, sn, yk, yv, yc), kvm, tm), rfl, rfl, _, (fun M9 k9 => k9 aS aI aB aT aG aO aN aD aY th ac sp en wg op (se9) (dn9) ((nI tm.length)) kd nu tv bv cS cI cB cT cG cO cN cD cY fS fI (fB9) (fT9) fG fO fN fD fY rfl hJ.1 ⟨hJ.2.1, fun _ _ _ => trivial⟩ hTM ⟨(show MOK fS n wk kb from hMS), (show MV fS n mi sn yk yv yc from hMV)⟩ ((show im = 0 ∨ (MOK fI (kvm.1) (kvm.2.1) (kvm.2.2.1) ∧ MV fI (kvm.1) (kvm.2.2.2.1) (kvm.2.2.2.2.1) (kvm.2.2.2.2.2.1) (kvm.2.2.2.2.2.2.1) (kvm.2.2.2.2.2.2.2)) from hMI)) (⟨hrq, rfl, hYm⟩)), hJ.2, rfl⟩, hz, fun q h1 h2 => hkp q h1 (fun h => h2 (bl_A hwc _ h))⟩

set_option maxHeartbeats 4000000 in
set_option maxRecDepth 100000 in
theorem v_sees (l : Launch) (dC : Nat → ClassId) (dI : Nat → Nat → Nat) (sK sV : Nat → Nat) (im : Int32) (vm kvm : VS) (tm : List Nat) (T : List (ClassId × FieldType)) (m0 : Nat) (M : va_W) (x : Int32) (sz : Nat) : Met l yX12_sees wsX12_sees ({ frames := 4, cells := 0, slots := 0, locals := 100 } : Room) (va_Pc [.ref m0, .int x] (fun U => U.heap.size = sz ∧ MI dC dI im vm kvm tm T m0 M U.heap ∧ va_K (dC, dI) vwCl T U ∧ Gs sK sV (va_A M sz) U)) (va_Qi (fun (r : Int32) (u : Int32 × VS × VS × List Nat) => u = (im, vm, kvm, tm)) (fun (u : Int32 × VS × VS × List Nat) (t : State) => ∃ M1 : va_W, MI dC dI u.1 u.2.1 u.2.2.1 u.2.2.2 T m0 M1 t.heap ∧ va_D (va_A M sz) M1 ∧ M1.map (fun c => c.1) = M.map (fun c => c.1)) (va_A M sz)) 0 0 (va_A M sz) := by
  obtain ⟨n, wk, kb, mi, sn, yk, yv, yc⟩ := vm
  refine met_wrap (fun args s hPc => ?_)
  obtain ⟨rfl, rfl, hMM, hK, hE⟩ := hPc
  have hMM0 := hMM
  refine hMM _ (fun aS aI aB aT aG aO aN aD aY th ac sp en wg op se dn rn kd nu tv bv cS cI cB cT cG cO cN cD cY fS fI fB fT fG fO fN fD fY hM hP hD hTM hMS hMI hrn => ?_)
  have hMV : MV fS n mi sn yk yv yc := hMS.2
  have hMS : MOK fS n wk kb := hMS.1
  obtain ⟨hl, tp, hn, zn, h5, z1, hw6, zw, hk12, zk, zb, ht, zt, hHd⟩ := id hMS
  obtain ⟨hrq, rfl, hYm⟩ := hrn
  subst hM
  have hP : va_P (dC, dI) vwCl ([(zo14irriiiiiirriirrrrlriiii m0 th aS aI im ac sp en wg op aB aT se dn aG aO aN aD bv aY (nI tm.length) kd nu tv), (zaI aS cS 901 fS), (zaI aI cI 901 fI), (zaI aB cB 6 fB), (zaI aT cT 64 fT), (zaI aG cG 9 fG), (zaL aO cO 36 fO), (zaL aN cN 36 fN), (zaI aD cD 36 fD), (zaI aY cY 20 fY)] ++ []) s.heap := hP
  have hD : va_D (fun _ => True) ([(zo14irriiiiiirriirrrrlriiii m0 th aS aI im ac sp en wg op aB aT se dn aG aO aN aD bv aY (nI tm.length) kd nu tv), (zaI aS cS 901 fS), (zaI aI cI 901 fI), (zaI aB cB 6 fB), (zaI aT cT 64 fT), (zaI aG cG 9 fG), (zaL aO cO 36 fO), (zaL aN cN 36 fN), (zaI aD cD 36 fD), (zaI aY cY 20 fY)] ++ []) := hD
  have hwc := bl_mem (G := [(zo14irriiiiiirriirrrrlriiii m0 th aS aI im ac sp en wg op aB aT se dn aG aO aN aD bv aY (nI tm.length) kd nu tv), (zaI aS cS 901 fS), (zaI aI cI 901 fI), (zaI aB cB 6 fB), (zaI aT cT 64 fT), (zaI aG cG 9 fG), (zaL aO cO 36 fO), (zaL aN cN 36 fN), (zaI aD cD 36 fD), (zaI aY cY 20 fY)]) (F := [(zo14irriiiiiirriirrrrlriiii m0 th aS aI im ac sp en wg op aB aT se dn aG aO aN aD bv aY (nI tm.length) kd nu tv), (zaI aS cS 901 fS), (zaI aB cB 6 fB), (zaI aT cT 64 fT)]) (T := []) [0, 1, 3, 4] rfl
  have hPc := bl_sub (F := [(zo14irriiiiiirriirrrrlriiii m0 th aS aI im ac sp en wg op aB aT se dn aG aO aN aD bv aY (nI tm.length) kd nu tv), (zaI aS cS 901 fS), (zaI aB cB 6 fB), (zaI aT cT 64 fT)]) hP [0, 1, 3, 4] rfl
  refine ⟨_, _, _, c_mSees l dC dI m0 aS aI aB aT aG aO aN aD aY th im ac sp en wg op se dn (nI tm.length) kd nu tv bv cS cB cT fS fB fT n x s.heap.size zn hn (hHd.hold h5), ⟨rfl, rfl, hPc, (K_mem hK hTM).sub [0, 2, 3] rfl, bl_Dsub hD [0, 1, 3, 4] (by decide) rfl⟩, fun o t hQ => ?_, fun q hq => bl_A hwc q hq⟩
  obtain ⟨⟨r, u9, rfl, hpost, hB⟩, hz, hkp⟩ := hQ
  obtain ⟨fB9, fT9, se9, dn9⟩ := u9
  try dsimp only at hpost hB
  obtain ⟨hP1, hK1, hD1⟩ := hB
  have hJ := bl_gen (F' := [(zo14irriiiiiirriirrrrlriiii m0 th aS aI im ac sp en wg op aB aT se9 dn9 aG aO aN aD bv aY (nI tm.length) kd nu tv), (zaI aS cS 901 fS), (zaI aI cI 901 fI), (zaI aB cB 6 fB9), (zaI aT cT 64 fT9), (zaI aG cG 9 fG), (zaL aO cO 36 fO), (zaL aN cN 36 fN), (zaI aD cD 36 fD), (zaI aY cY 20 fY)]) hP hD [0, 1, 3, 4] rfl hkp hP1 hD1 [some 0, some 1, none, some 2, some 3, none, none, none, none, none] [0, 1, 3, 4] rfl (Or.inl rfl) rfl
  exact ⟨⟨r, (im, (n, wk, kb, mi, sn, yk, yv, yc), kvm, tm), rfl, rfl, _, (fun M9 k9 => k9 aS aI aB aT aG aO aN aD aY th ac sp en wg op (se9) (dn9) ((nI tm.length)) kd nu tv bv cS cI cB cT cG cO cN cD cY fS fI (fB9) (fT9) fG fO fN fD fY rfl hJ.1 ⟨hJ.2.1, fun _ _ _ => trivial⟩ hTM ⟨(show MOK fS n wk kb from hMS), (show MV fS n mi sn yk yv yc from hMV)⟩ ((show im = 0 ∨ (MOK fI (kvm.1) (kvm.2.1) (kvm.2.2.1) ∧ MV fI (kvm.1) (kvm.2.2.2.1) (kvm.2.2.2.2.1) (kvm.2.2.2.2.2.1) (kvm.2.2.2.2.2.2.1) (kvm.2.2.2.2.2.2.2)) from hMI)) (⟨hrq, rfl, hYm⟩)), hJ.2, rfl⟩, hz, fun q h1 h2 => hkp q h1 (fun h => h2 (bl_A hwc _ h))⟩

set_option maxHeartbeats 4000000 in
set_option maxRecDepth 100000 in
theorem v_where (l : Launch) (dC : Nat → ClassId) (dI : Nat → Nat → Nat) (sK sV : Nat → Nat) (im : Int32) (vm kvm : VS) (tm : List Nat) (T : List (ClassId × FieldType)) (m0 : Nat) (M : va_W) (x : Int32) (sz : Nat) : Met l yX12_where wsX12_where ({ frames := 4, cells := 0, slots := 0, locals := 100 } : Room) (va_Pc [.ref m0, .int x] (fun U => U.heap.size = sz ∧ MI dC dI im vm kvm tm T m0 M U.heap ∧ va_K (dC, dI) vwCl T U ∧ Gs sK sV (va_A M sz) U)) (va_Ql (fun (r : Int64) (u : Int32 × VS × VS × List Nat) => u = (im, vm, kvm, tm)) (fun (u : Int32 × VS × VS × List Nat) (t : State) => ∃ M1 : va_W, MI dC dI u.1 u.2.1 u.2.2.1 u.2.2.2 T m0 M1 t.heap ∧ va_D (va_A M sz) M1 ∧ M1.map (fun c => c.1) = M.map (fun c => c.1)) (va_A M sz)) 0 0 (va_A M sz) := by
  obtain ⟨n, wk, kb, mi, sn, yk, yv, yc⟩ := vm
  refine met_wrap (fun args s hPc => ?_)
  obtain ⟨rfl, rfl, hMM, hK, hE⟩ := hPc
  have hMM0 := hMM
  refine hMM _ (fun aS aI aB aT aG aO aN aD aY th ac sp en wg op se dn rn kd nu tv bv cS cI cB cT cG cO cN cD cY fS fI fB fT fG fO fN fD fY hM hP hD hTM hMS hMI hrn => ?_)
  have hMV : MV fS n mi sn yk yv yc := hMS.2
  have hMS : MOK fS n wk kb := hMS.1
  obtain ⟨hl, tp, hn, zn, h5, z1, hw6, zw, hk12, zk, zb, ht, zt, hHd⟩ := id hMS
  obtain ⟨hrq, rfl, hYm⟩ := hrn
  subst hM
  have hP : va_P (dC, dI) vwCl ([(zo14irriiiiiirriirrrrlriiii m0 th aS aI im ac sp en wg op aB aT se dn aG aO aN aD bv aY (nI tm.length) kd nu tv), (zaI aS cS 901 fS), (zaI aI cI 901 fI), (zaI aB cB 6 fB), (zaI aT cT 64 fT), (zaI aG cG 9 fG), (zaL aO cO 36 fO), (zaL aN cN 36 fN), (zaI aD cD 36 fD), (zaI aY cY 20 fY)] ++ []) s.heap := hP
  have hD : va_D (fun _ => True) ([(zo14irriiiiiirriirrrrlriiii m0 th aS aI im ac sp en wg op aB aT se dn aG aO aN aD bv aY (nI tm.length) kd nu tv), (zaI aS cS 901 fS), (zaI aI cI 901 fI), (zaI aB cB 6 fB), (zaI aT cT 64 fT), (zaI aG cG 9 fG), (zaL aO cO 36 fO), (zaL aN cN 36 fN), (zaI aD cD 36 fD), (zaI aY cY 20 fY)] ++ []) := hD
  have hwc := bl_mem (G := [(zo14irriiiiiirriirrrrlriiii m0 th aS aI im ac sp en wg op aB aT se dn aG aO aN aD bv aY (nI tm.length) kd nu tv), (zaI aS cS 901 fS), (zaI aI cI 901 fI), (zaI aB cB 6 fB), (zaI aT cT 64 fT), (zaI aG cG 9 fG), (zaL aO cO 36 fO), (zaL aN cN 36 fN), (zaI aD cD 36 fD), (zaI aY cY 20 fY)]) (F := [(zo14irriiiiiirriirrrrlriiii m0 th aS aI im ac sp en wg op aB aT se dn aG aO aN aD bv aY (nI tm.length) kd nu tv), (zaI aS cS 901 fS), (zaI aB cB 6 fB), (zaI aT cT 64 fT)]) (T := []) [0, 1, 3, 4] rfl
  have hPc := bl_sub (F := [(zo14irriiiiiirriirrrrlriiii m0 th aS aI im ac sp en wg op aB aT se dn aG aO aN aD bv aY (nI tm.length) kd nu tv), (zaI aS cS 901 fS), (zaI aB cB 6 fB), (zaI aT cT 64 fT)]) hP [0, 1, 3, 4] rfl
  refine ⟨_, _, _, c_mWhere l dC dI m0 aS aI aB aT aG aO aN aD aY th im ac sp en wg op se dn (nI tm.length) kd nu tv bv cS cB cT fS fB fT n x s.heap.size zn hn (hHd.hold h5), ⟨rfl, rfl, hPc, (K_mem hK hTM).sub [0, 2, 3] rfl, bl_Dsub hD [0, 1, 3, 4] (by decide) rfl⟩, fun o t hQ => ?_, fun q hq => bl_A hwc q hq⟩
  obtain ⟨⟨r, u9, rfl, hpost, hB⟩, hz, hkp⟩ := hQ
  obtain ⟨fB9, fT9, se9, dn9⟩ := u9
  try dsimp only at hpost hB
  obtain ⟨hP1, hK1, hD1⟩ := hB
  have hJ := bl_gen (F' := [(zo14irriiiiiirriirrrrlriiii m0 th aS aI im ac sp en wg op aB aT se9 dn9 aG aO aN aD bv aY (nI tm.length) kd nu tv), (zaI aS cS 901 fS), (zaI aI cI 901 fI), (zaI aB cB 6 fB9), (zaI aT cT 64 fT9), (zaI aG cG 9 fG), (zaL aO cO 36 fO), (zaL aN cN 36 fN), (zaI aD cD 36 fD), (zaI aY cY 20 fY)]) hP hD [0, 1, 3, 4] rfl hkp hP1 hD1 [some 0, some 1, none, some 2, some 3, none, none, none, none, none] [0, 1, 3, 4] rfl (Or.inl rfl) rfl
  exact ⟨⟨r, (im, (n, wk, kb, mi, sn, yk, yv, yc), kvm, tm), rfl, rfl, _, (fun M9 k9 => k9 aS aI aB aT aG aO aN aD aY th ac sp en wg op (se9) (dn9) ((nI tm.length)) kd nu tv bv cS cI cB cT cG cO cN cD cY fS fI (fB9) (fT9) fG fO fN fD fY rfl hJ.1 ⟨hJ.2.1, fun _ _ _ => trivial⟩ hTM ⟨(show MOK fS n wk kb from hMS), (show MV fS n mi sn yk yv yc from hMV)⟩ ((show im = 0 ∨ (MOK fI (kvm.1) (kvm.2.1) (kvm.2.2.1) ∧ MV fI (kvm.1) (kvm.2.2.2.1) (kvm.2.2.2.2.1) (kvm.2.2.2.2.2.1) (kvm.2.2.2.2.2.2.1) (kvm.2.2.2.2.2.2.2)) from hMI)) (⟨hrq, rfl, hYm⟩)), hJ.2, rfl⟩, hz, fun q h1 h2 => hkp q h1 (fun h => h2 (bl_A hwc _ h))⟩

set_option maxHeartbeats 4000000 in
set_option maxRecDepth 100000 in
theorem v_steps (l : Launch) (dC : Nat → ClassId) (dI : Nat → Nat → Nat) (sK sV : Nat → Nat) (im : Int32) (vm kvm : VS) (tm : List Nat) (T : List (ClassId × FieldType)) (m0 : Nat) (M : va_W) (x : Int32) (y : Int32) (sz : Nat) : Met l yX12_steps wsX12_steps ({ frames := 6, cells := 0, slots := 0, locals := 147 } : Room) (va_Pc [.ref m0, .int x, .int y] (fun U => U.heap.size = sz ∧ MI dC dI im vm kvm tm T m0 M U.heap ∧ va_K (dC, dI) vwCl T U ∧ Gs sK sV (va_A M sz) U)) (va_Qi (fun (r : Int32) (u : Int32 × VS × VS × List Nat) => u = (im, vm, kvm, tm)) (fun (u : Int32 × VS × VS × List Nat) (t : State) => ∃ M1 : va_W, MI dC dI u.1 u.2.1 u.2.2.1 u.2.2.2 T m0 M1 t.heap ∧ va_D (va_A M sz) M1 ∧ M1.map (fun c => c.1) = M.map (fun c => c.1)) (va_A M sz)) 0 0 (va_A M sz) := by
  obtain ⟨n, wk, kb, mi, sn, yk, yv, yc⟩ := vm
  refine met_wrap (fun args s hPc => ?_)
  obtain ⟨rfl, rfl, hMM, hK, hE⟩ := hPc
  have hMM0 := hMM
  refine hMM _ (fun aS aI aB aT aG aO aN aD aY th ac sp en wg op se dn rn kd nu tv bv cS cI cB cT cG cO cN cD cY fS fI fB fT fG fO fN fD fY hM hP hD hTM hMS hMI hrn => ?_)
  have hMV : MV fS n mi sn yk yv yc := hMS.2
  have hMS : MOK fS n wk kb := hMS.1
  obtain ⟨hl, tp, hn, zn, h5, z1, hw6, zw, hk12, zk, zb, ht, zt, hHd⟩ := id hMS
  obtain ⟨hrq, rfl, hYm⟩ := hrn
  subst hM
  have hP : va_P (dC, dI) vwCl ([(zo14irriiiiiirriirrrrlriiii m0 th aS aI im ac sp en wg op aB aT se dn aG aO aN aD bv aY (nI tm.length) kd nu tv), (zaI aS cS 901 fS), (zaI aI cI 901 fI), (zaI aB cB 6 fB), (zaI aT cT 64 fT), (zaI aG cG 9 fG), (zaL aO cO 36 fO), (zaL aN cN 36 fN), (zaI aD cD 36 fD), (zaI aY cY 20 fY)] ++ []) s.heap := hP
  have hD : va_D (fun _ => True) ([(zo14irriiiiiirriirrrrlriiii m0 th aS aI im ac sp en wg op aB aT se dn aG aO aN aD bv aY (nI tm.length) kd nu tv), (zaI aS cS 901 fS), (zaI aI cI 901 fI), (zaI aB cB 6 fB), (zaI aT cT 64 fT), (zaI aG cG 9 fG), (zaL aO cO 36 fO), (zaL aN cN 36 fN), (zaI aD cD 36 fD), (zaI aY cY 20 fY)] ++ []) := hD
  have hwc := bl_mem (G := [(zo14irriiiiiirriirrrrlriiii m0 th aS aI im ac sp en wg op aB aT se dn aG aO aN aD bv aY (nI tm.length) kd nu tv), (zaI aS cS 901 fS), (zaI aI cI 901 fI), (zaI aB cB 6 fB), (zaI aT cT 64 fT), (zaI aG cG 9 fG), (zaL aO cO 36 fO), (zaL aN cN 36 fN), (zaI aD cD 36 fD), (zaI aY cY 20 fY)]) (F := [(zo14irriiiiiirriirrrrlriiii m0 th aS aI im ac sp en wg op aB aT se dn aG aO aN aD bv aY (nI tm.length) kd nu tv), (zaI aS cS 901 fS), (zaI aB cB 6 fB), (zaI aT cT 64 fT), (zaI aG cG 9 fG)]) (T := []) [0, 1, 3, 4, 5] rfl
  have hPc := bl_sub (F := [(zo14irriiiiiirriirrrrlriiii m0 th aS aI im ac sp en wg op aB aT se dn aG aO aN aD bv aY (nI tm.length) kd nu tv), (zaI aS cS 901 fS), (zaI aB cB 6 fB), (zaI aT cT 64 fT), (zaI aG cG 9 fG)]) hP [0, 1, 3, 4, 5] rfl
  refine ⟨_, _, _, c_mSteps l dC dI m0 aS aI aB aT aG aO aN aD aY th im ac sp en wg op se dn (nI tm.length) kd nu tv bv cS cB cT cG fS fB fT fG n x y s.heap.size zn hn (hHd.hold h5), ⟨rfl, rfl, hPc, (K_mem hK hTM).sub [0, 2, 3, 4] rfl, bl_Dsub hD [0, 1, 3, 4, 5] (by decide) rfl⟩, fun o t hQ => ?_, fun q hq => bl_A hwc q hq⟩
  obtain ⟨⟨r, u9, rfl, hpost, hB⟩, hz, hkp⟩ := hQ
  obtain ⟨fB9, fT9, se9, dn9, fG9⟩ := u9
  try dsimp only at hpost hB
  obtain ⟨hP1, hK1, hD1⟩ := hB
  have hJ := bl_gen (F' := [(zo14irriiiiiirriirrrrlriiii m0 th aS aI im ac sp en wg op aB aT se9 dn9 aG aO aN aD bv aY (nI tm.length) kd nu tv), (zaI aS cS 901 fS), (zaI aI cI 901 fI), (zaI aB cB 6 fB9), (zaI aT cT 64 fT9), (zaI aG cG 9 fG9), (zaL aO cO 36 fO), (zaL aN cN 36 fN), (zaI aD cD 36 fD), (zaI aY cY 20 fY)]) hP hD [0, 1, 3, 4, 5] rfl hkp hP1 hD1 [some 0, some 1, none, some 2, some 3, some 4, none, none, none, none] [0, 1, 3, 4, 5] rfl (Or.inl rfl) rfl
  exact ⟨⟨r, (im, (n, wk, kb, mi, sn, yk, yv, yc), kvm, tm), rfl, rfl, _, (fun M9 k9 => k9 aS aI aB aT aG aO aN aD aY th ac sp en wg op (se9) (dn9) ((nI tm.length)) kd nu tv bv cS cI cB cT cG cO cN cD cY fS fI (fB9) (fT9) (fG9) fO fN fD fY rfl hJ.1 ⟨hJ.2.1, fun _ _ _ => trivial⟩ hTM ⟨(show MOK fS n wk kb from hMS), (show MV fS n mi sn yk yv yc from hMV)⟩ ((show im = 0 ∨ (MOK fI (kvm.1) (kvm.2.1) (kvm.2.2.1) ∧ MV fI (kvm.1) (kvm.2.2.2.1) (kvm.2.2.2.2.1) (kvm.2.2.2.2.2.1) (kvm.2.2.2.2.2.2.1) (kvm.2.2.2.2.2.2.2)) from hMI)) (⟨hrq, rfl, hYm⟩)), hJ.2, rfl⟩, hz, fun q h1 h2 => hkp q h1 (fun h => h2 (bl_A hwc _ h))⟩

set_option maxHeartbeats 4000000 in
set_option maxRecDepth 100000 in
theorem v_via (l : Launch) (dC : Nat → ClassId) (dI : Nat → Nat → Nat) (sK sV : Nat → Nat) (im : Int32) (vm kvm : VS) (tm : List Nat) (T : List (ClassId × FieldType)) (m0 : Nat) (M : va_W) (x : Int32) (y : Int32) (sz : Nat) : Met l yX12_via wsX12_via ({ frames := 6, cells := 0, slots := 0, locals := 147 } : Room) (va_Pc [.ref m0, .int x, .int y] (fun U => U.heap.size = sz ∧ MI dC dI im vm kvm tm T m0 M U.heap ∧ va_K (dC, dI) vwCl T U ∧ Gs sK sV (va_A M sz) U)) (va_Qi (fun (r : Int32) (u : Int32 × VS × VS × List Nat) => u = (im, vm, kvm, tm)) (fun (u : Int32 × VS × VS × List Nat) (t : State) => ∃ M1 : va_W, MI dC dI u.1 u.2.1 u.2.2.1 u.2.2.2 T m0 M1 t.heap ∧ va_D (va_A M sz) M1 ∧ M1.map (fun c => c.1) = M.map (fun c => c.1)) (va_A M sz)) 0 0 (va_A M sz) := by
  obtain ⟨n, wk, kb, mi, sn, yk, yv, yc⟩ := vm
  refine met_wrap (fun args s hPc => ?_)
  obtain ⟨rfl, rfl, hMM, hK, hE⟩ := hPc
  have hMM0 := hMM
  refine hMM _ (fun aS aI aB aT aG aO aN aD aY th ac sp en wg op se dn rn kd nu tv bv cS cI cB cT cG cO cN cD cY fS fI fB fT fG fO fN fD fY hM hP hD hTM hMS hMI hrn => ?_)
  have hMV : MV fS n mi sn yk yv yc := hMS.2
  have hMS : MOK fS n wk kb := hMS.1
  obtain ⟨hl, tp, hn, zn, h5, z1, hw6, zw, hk12, zk, zb, ht, zt, hHd⟩ := id hMS
  obtain ⟨hrq, rfl, hYm⟩ := hrn
  subst hM
  have hP : va_P (dC, dI) vwCl ([(zo14irriiiiiirriirrrrlriiii m0 th aS aI im ac sp en wg op aB aT se dn aG aO aN aD bv aY (nI tm.length) kd nu tv), (zaI aS cS 901 fS), (zaI aI cI 901 fI), (zaI aB cB 6 fB), (zaI aT cT 64 fT), (zaI aG cG 9 fG), (zaL aO cO 36 fO), (zaL aN cN 36 fN), (zaI aD cD 36 fD), (zaI aY cY 20 fY)] ++ []) s.heap := hP
  have hD : va_D (fun _ => True) ([(zo14irriiiiiirriirrrrlriiii m0 th aS aI im ac sp en wg op aB aT se dn aG aO aN aD bv aY (nI tm.length) kd nu tv), (zaI aS cS 901 fS), (zaI aI cI 901 fI), (zaI aB cB 6 fB), (zaI aT cT 64 fT), (zaI aG cG 9 fG), (zaL aO cO 36 fO), (zaL aN cN 36 fN), (zaI aD cD 36 fD), (zaI aY cY 20 fY)] ++ []) := hD
  have hwc := bl_mem (G := [(zo14irriiiiiirriirrrrlriiii m0 th aS aI im ac sp en wg op aB aT se dn aG aO aN aD bv aY (nI tm.length) kd nu tv), (zaI aS cS 901 fS), (zaI aI cI 901 fI), (zaI aB cB 6 fB), (zaI aT cT 64 fT), (zaI aG cG 9 fG), (zaL aO cO 36 fO), (zaL aN cN 36 fN), (zaI aD cD 36 fD), (zaI aY cY 20 fY)]) (F := [(zo14irriiiiiirriirrrrlriiii m0 th aS aI im ac sp en wg op aB aT se dn aG aO aN aD bv aY (nI tm.length) kd nu tv), (zaI aS cS 901 fS), (zaI aB cB 6 fB), (zaI aT cT 64 fT), (zaI aG cG 9 fG)]) (T := []) [0, 1, 3, 4, 5] rfl
  have hPc := bl_sub (F := [(zo14irriiiiiirriirrrrlriiii m0 th aS aI im ac sp en wg op aB aT se dn aG aO aN aD bv aY (nI tm.length) kd nu tv), (zaI aS cS 901 fS), (zaI aB cB 6 fB), (zaI aT cT 64 fT), (zaI aG cG 9 fG)]) hP [0, 1, 3, 4, 5] rfl
  refine ⟨_, _, _, c_mVia l dC dI m0 aS aI aB aT aG aO aN aD aY th im ac sp en wg op se dn (nI tm.length) kd nu tv bv cS cB cT cG fS fB fT fG n x y s.heap.size zn hn (hHd.hold h5), ⟨rfl, rfl, hPc, (K_mem hK hTM).sub [0, 2, 3, 4] rfl, bl_Dsub hD [0, 1, 3, 4, 5] (by decide) rfl⟩, fun o t hQ => ?_, fun q hq => bl_A hwc q hq⟩
  obtain ⟨⟨r, u9, rfl, hpost, hB⟩, hz, hkp⟩ := hQ
  obtain ⟨fB9, fT9, se9, dn9, fG9⟩ := u9
  try dsimp only at hpost hB
  obtain ⟨hP1, hK1, hD1⟩ := hB
  have hJ := bl_gen (F' := [(zo14irriiiiiirriirrrrlriiii m0 th aS aI im ac sp en wg op aB aT se9 dn9 aG aO aN aD bv aY (nI tm.length) kd nu tv), (zaI aS cS 901 fS), (zaI aI cI 901 fI), (zaI aB cB 6 fB9), (zaI aT cT 64 fT9), (zaI aG cG 9 fG9), (zaL aO cO 36 fO), (zaL aN cN 36 fN), (zaI aD cD 36 fD), (zaI aY cY 20 fY)]) hP hD [0, 1, 3, 4, 5] rfl hkp hP1 hD1 [some 0, some 1, none, some 2, some 3, some 4, none, none, none, none] [0, 1, 3, 4, 5] rfl (Or.inl rfl) rfl
  exact ⟨⟨r, (im, (n, wk, kb, mi, sn, yk, yv, yc), kvm, tm), rfl, rfl, _, (fun M9 k9 => k9 aS aI aB aT aG aO aN aD aY th ac sp en wg op (se9) (dn9) ((nI tm.length)) kd nu tv bv cS cI cB cT cG cO cN cD cY fS fI (fB9) (fT9) (fG9) fO fN fD fY rfl hJ.1 ⟨hJ.2.1, fun _ _ _ => trivial⟩ hTM ⟨(show MOK fS n wk kb from hMS), (show MV fS n mi sn yk yv yc from hMV)⟩ ((show im = 0 ∨ (MOK fI (kvm.1) (kvm.2.1) (kvm.2.2.1) ∧ MV fI (kvm.1) (kvm.2.2.2.1) (kvm.2.2.2.2.1) (kvm.2.2.2.2.2.1) (kvm.2.2.2.2.2.2.1) (kvm.2.2.2.2.2.2.2)) from hMI)) (⟨hrq, rfl, hYm⟩)), hJ.2, rfl⟩, hz, fun q h1 h2 => hkp q h1 (fun h => h2 (bl_A hwc _ h))⟩

set_option maxHeartbeats 4000000 in
set_option maxRecDepth 100000 in
theorem v_cuts (l : Launch) (dC : Nat → ClassId) (dI : Nat → Nat → Nat) (sK sV : Nat → Nat) (im : Int32) (vm kvm : VS) (tm : List Nat) (T : List (ClassId × FieldType)) (m0 : Nat) (M : va_W) (x : Int32) (y : Int32) (sz : Nat) : Met l yX12_cuts wsX12_cuts ({ frames := 6, cells := 0, slots := 0, locals := 147 } : Room) (va_Pc [.ref m0, .int x, .int y] (fun U => U.heap.size = sz ∧ MI dC dI im vm kvm tm T m0 M U.heap ∧ va_K (dC, dI) vwCl T U ∧ Gs sK sV (va_A M sz) U)) (va_Qi (fun (r : Int32) (u : Int32 × VS × VS × List Nat) => u = (im, vm, kvm, tm)) (fun (u : Int32 × VS × VS × List Nat) (t : State) => ∃ M1 : va_W, MI dC dI u.1 u.2.1 u.2.2.1 u.2.2.2 T m0 M1 t.heap ∧ va_D (va_A M sz) M1 ∧ M1.map (fun c => c.1) = M.map (fun c => c.1)) (va_A M sz)) 0 0 (va_A M sz) := by
  obtain ⟨n, wk, kb, mi, sn, yk, yv, yc⟩ := vm
  refine met_wrap (fun args s hPc => ?_)
  obtain ⟨rfl, rfl, hMM, hK, hE⟩ := hPc
  have hMM0 := hMM
  refine hMM _ (fun aS aI aB aT aG aO aN aD aY th ac sp en wg op se dn rn kd nu tv bv cS cI cB cT cG cO cN cD cY fS fI fB fT fG fO fN fD fY hM hP hD hTM hMS hMI hrn => ?_)
  have hMV : MV fS n mi sn yk yv yc := hMS.2
  have hMS : MOK fS n wk kb := hMS.1
  obtain ⟨hl, tp, hn, zn, h5, z1, hw6, zw, hk12, zk, zb, ht, zt, hHd⟩ := id hMS
  obtain ⟨hrq, rfl, hYm⟩ := hrn
  subst hM
  have hP : va_P (dC, dI) vwCl ([(zo14irriiiiiirriirrrrlriiii m0 th aS aI im ac sp en wg op aB aT se dn aG aO aN aD bv aY (nI tm.length) kd nu tv), (zaI aS cS 901 fS), (zaI aI cI 901 fI), (zaI aB cB 6 fB), (zaI aT cT 64 fT), (zaI aG cG 9 fG), (zaL aO cO 36 fO), (zaL aN cN 36 fN), (zaI aD cD 36 fD), (zaI aY cY 20 fY)] ++ []) s.heap := hP
  have hD : va_D (fun _ => True) ([(zo14irriiiiiirriirrrrlriiii m0 th aS aI im ac sp en wg op aB aT se dn aG aO aN aD bv aY (nI tm.length) kd nu tv), (zaI aS cS 901 fS), (zaI aI cI 901 fI), (zaI aB cB 6 fB), (zaI aT cT 64 fT), (zaI aG cG 9 fG), (zaL aO cO 36 fO), (zaL aN cN 36 fN), (zaI aD cD 36 fD), (zaI aY cY 20 fY)] ++ []) := hD
  have hwc := bl_mem (G := [(zo14irriiiiiirriirrrrlriiii m0 th aS aI im ac sp en wg op aB aT se dn aG aO aN aD bv aY (nI tm.length) kd nu tv), (zaI aS cS 901 fS), (zaI aI cI 901 fI), (zaI aB cB 6 fB), (zaI aT cT 64 fT), (zaI aG cG 9 fG), (zaL aO cO 36 fO), (zaL aN cN 36 fN), (zaI aD cD 36 fD), (zaI aY cY 20 fY)]) (F := [(zo14irriiiiiirriirrrrlriiii m0 th aS aI im ac sp en wg op aB aT se dn aG aO aN aD bv aY (nI tm.length) kd nu tv), (zaI aS cS 901 fS), (zaI aB cB 6 fB), (zaI aT cT 64 fT), (zaI aG cG 9 fG)]) (T := []) [0, 1, 3, 4, 5] rfl
  have hPc := bl_sub (F := [(zo14irriiiiiirriirrrrlriiii m0 th aS aI im ac sp en wg op aB aT se dn aG aO aN aD bv aY (nI tm.length) kd nu tv), (zaI aS cS 901 fS), (zaI aB cB 6 fB), (zaI aT cT 64 fT), (zaI aG cG 9 fG)]) hP [0, 1, 3, 4, 5] rfl
  refine ⟨_, _, _, c_mCuts l dC dI m0 aS aI aB aT aG aO aN aD aY th im ac sp en wg op se dn (nI tm.length) kd nu tv bv cS cB cT cG fS fB fT fG n x y s.heap.size zn hn (hHd.hold h5), ⟨rfl, rfl, hPc, (K_mem hK hTM).sub [0, 2, 3, 4] rfl, bl_Dsub hD [0, 1, 3, 4, 5] (by decide) rfl⟩, fun o t hQ => ?_, fun q hq => bl_A hwc q hq⟩
  obtain ⟨⟨r, u9, rfl, hpost, hB⟩, hz, hkp⟩ := hQ
  obtain ⟨fB9, fT9, se9, dn9, fG9⟩ := u9
  try dsimp only at hpost hB
  obtain ⟨hP1, hK1, hD1⟩ := hB
  have hJ := bl_gen (F' := [(zo14irriiiiiirriirrrrlriiii m0 th aS aI im ac sp en wg op aB aT se9 dn9 aG aO aN aD bv aY (nI tm.length) kd nu tv), (zaI aS cS 901 fS), (zaI aI cI 901 fI), (zaI aB cB 6 fB9), (zaI aT cT 64 fT9), (zaI aG cG 9 fG9), (zaL aO cO 36 fO), (zaL aN cN 36 fN), (zaI aD cD 36 fD), (zaI aY cY 20 fY)]) hP hD [0, 1, 3, 4, 5] rfl hkp hP1 hD1 [some 0, some 1, none, some 2, some 3, some 4, none, none, none, none] [0, 1, 3, 4, 5] rfl (Or.inl rfl) rfl
  exact ⟨⟨r, (im, (n, wk, kb, mi, sn, yk, yv, yc), kvm, tm), rfl, rfl, _, (fun M9 k9 => k9 aS aI aB aT aG aO aN aD aY th ac sp en wg op (se9) (dn9) ((nI tm.length)) kd nu tv bv cS cI cB cT cG cO cN cD cY fS fI (fB9) (fT9) (fG9) fO fN fD fY rfl hJ.1 ⟨hJ.2.1, fun _ _ _ => trivial⟩ hTM ⟨(show MOK fS n wk kb from hMS), (show MV fS n mi sn yk yv yc from hMV)⟩ ((show im = 0 ∨ (MOK fI (kvm.1) (kvm.2.1) (kvm.2.2.1) ∧ MV fI (kvm.1) (kvm.2.2.2.1) (kvm.2.2.2.2.1) (kvm.2.2.2.2.2.1) (kvm.2.2.2.2.2.2.1) (kvm.2.2.2.2.2.2.2)) from hMI)) (⟨hrq, rfl, hYm⟩)), hJ.2, rfl⟩, hz, fun q h1 h2 => hkp q h1 (fun h => h2 (bl_A hwc _ h))⟩

set_option maxHeartbeats 4000000 in
set_option maxRecDepth 100000 in
theorem v_bears (l : Launch) (dC : Nat → ClassId) (dI : Nat → Nat → Nat) (sK sV : Nat → Nat) (im : Int32) (vm kvm : VS) (tm : List Nat) (T : List (ClassId × FieldType)) (m0 : Nat) (M : va_W) (x : Int32) (y : Int32) (sz : Nat) : Met l yX12_bears wsX12_bears ({ frames := 6, cells := 0, slots := 0, locals := 147 } : Room) (va_Pc [.ref m0, .int x, .int y] (fun U => U.heap.size = sz ∧ MI dC dI im vm kvm tm T m0 M U.heap ∧ va_K (dC, dI) vwCl T U ∧ Gs sK sV (va_A M sz) U)) (va_Qi (fun (r : Int32) (u : Int32 × VS × VS × List Nat) => u = (im, vm, kvm, tm)) (fun (u : Int32 × VS × VS × List Nat) (t : State) => ∃ M1 : va_W, MI dC dI u.1 u.2.1 u.2.2.1 u.2.2.2 T m0 M1 t.heap ∧ va_D (va_A M sz) M1 ∧ M1.map (fun c => c.1) = M.map (fun c => c.1)) (va_A M sz)) 0 0 (va_A M sz) := by
  obtain ⟨n, wk, kb, mi, sn, yk, yv, yc⟩ := vm
  refine met_wrap (fun args s hPc => ?_)
  obtain ⟨rfl, rfl, hMM, hK, hE⟩ := hPc
  have hMM0 := hMM
  refine hMM _ (fun aS aI aB aT aG aO aN aD aY th ac sp en wg op se dn rn kd nu tv bv cS cI cB cT cG cO cN cD cY fS fI fB fT fG fO fN fD fY hM hP hD hTM hMS hMI hrn => ?_)
  have hMV : MV fS n mi sn yk yv yc := hMS.2
  have hMS : MOK fS n wk kb := hMS.1
  obtain ⟨hl, tp, hn, zn, h5, z1, hw6, zw, hk12, zk, zb, ht, zt, hHd⟩ := id hMS
  obtain ⟨hrq, rfl, hYm⟩ := hrn
  subst hM
  have hP : va_P (dC, dI) vwCl ([(zo14irriiiiiirriirrrrlriiii m0 th aS aI im ac sp en wg op aB aT se dn aG aO aN aD bv aY (nI tm.length) kd nu tv), (zaI aS cS 901 fS), (zaI aI cI 901 fI), (zaI aB cB 6 fB), (zaI aT cT 64 fT), (zaI aG cG 9 fG), (zaL aO cO 36 fO), (zaL aN cN 36 fN), (zaI aD cD 36 fD), (zaI aY cY 20 fY)] ++ []) s.heap := hP
  have hD : va_D (fun _ => True) ([(zo14irriiiiiirriirrrrlriiii m0 th aS aI im ac sp en wg op aB aT se dn aG aO aN aD bv aY (nI tm.length) kd nu tv), (zaI aS cS 901 fS), (zaI aI cI 901 fI), (zaI aB cB 6 fB), (zaI aT cT 64 fT), (zaI aG cG 9 fG), (zaL aO cO 36 fO), (zaL aN cN 36 fN), (zaI aD cD 36 fD), (zaI aY cY 20 fY)] ++ []) := hD
  have hwc := bl_mem (G := [(zo14irriiiiiirriirrrrlriiii m0 th aS aI im ac sp en wg op aB aT se dn aG aO aN aD bv aY (nI tm.length) kd nu tv), (zaI aS cS 901 fS), (zaI aI cI 901 fI), (zaI aB cB 6 fB), (zaI aT cT 64 fT), (zaI aG cG 9 fG), (zaL aO cO 36 fO), (zaL aN cN 36 fN), (zaI aD cD 36 fD), (zaI aY cY 20 fY)]) (F := [(zo14irriiiiiirriirrrrlriiii m0 th aS aI im ac sp en wg op aB aT se dn aG aO aN aD bv aY (nI tm.length) kd nu tv), (zaI aS cS 901 fS), (zaI aB cB 6 fB), (zaI aT cT 64 fT), (zaI aG cG 9 fG)]) (T := []) [0, 1, 3, 4, 5] rfl
  have hPc := bl_sub (F := [(zo14irriiiiiirriirrrrlriiii m0 th aS aI im ac sp en wg op aB aT se dn aG aO aN aD bv aY (nI tm.length) kd nu tv), (zaI aS cS 901 fS), (zaI aB cB 6 fB), (zaI aT cT 64 fT), (zaI aG cG 9 fG)]) hP [0, 1, 3, 4, 5] rfl
  refine ⟨_, _, _, c_mBears l dC dI m0 aS aI aB aT aG aO aN aD aY th im ac sp en wg op se dn (nI tm.length) kd nu tv bv cS cB cT cG fS fB fT fG n x y s.heap.size zn hn (hHd.hold h5), ⟨rfl, rfl, hPc, (K_mem hK hTM).sub [0, 2, 3, 4] rfl, bl_Dsub hD [0, 1, 3, 4, 5] (by decide) rfl⟩, fun o t hQ => ?_, fun q hq => bl_A hwc q hq⟩
  obtain ⟨⟨r, u9, rfl, hpost, hB⟩, hz, hkp⟩ := hQ
  obtain ⟨fB9, fT9, se9, dn9, fG9⟩ := u9
  try dsimp only at hpost hB
  obtain ⟨hP1, hK1, hD1⟩ := hB
  have hJ := bl_gen (F' := [(zo14irriiiiiirriirrrrlriiii m0 th aS aI im ac sp en wg op aB aT se9 dn9 aG aO aN aD bv aY (nI tm.length) kd nu tv), (zaI aS cS 901 fS), (zaI aI cI 901 fI), (zaI aB cB 6 fB9), (zaI aT cT 64 fT9), (zaI aG cG 9 fG9), (zaL aO cO 36 fO), (zaL aN cN 36 fN), (zaI aD cD 36 fD), (zaI aY cY 20 fY)]) hP hD [0, 1, 3, 4, 5] rfl hkp hP1 hD1 [some 0, some 1, none, some 2, some 3, some 4, none, none, none, none] [0, 1, 3, 4, 5] rfl (Or.inl rfl) rfl
  exact ⟨⟨r, (im, (n, wk, kb, mi, sn, yk, yv, yc), kvm, tm), rfl, rfl, _, (fun M9 k9 => k9 aS aI aB aT aG aO aN aD aY th ac sp en wg op (se9) (dn9) ((nI tm.length)) kd nu tv bv cS cI cB cT cG cO cN cD cY fS fI (fB9) (fT9) (fG9) fO fN fD fY rfl hJ.1 ⟨hJ.2.1, fun _ _ _ => trivial⟩ hTM ⟨(show MOK fS n wk kb from hMS), (show MV fS n mi sn yk yv yc from hMV)⟩ ((show im = 0 ∨ (MOK fI (kvm.1) (kvm.2.1) (kvm.2.2.1) ∧ MV fI (kvm.1) (kvm.2.2.2.1) (kvm.2.2.2.2.1) (kvm.2.2.2.2.2.1) (kvm.2.2.2.2.2.2.1) (kvm.2.2.2.2.2.2.2)) from hMI)) (⟨hrq, rfl, hYm⟩)), hJ.2, rfl⟩, hz, fun q h1 h2 => hkp q h1 (fun h => h2 (bl_A hwc _ h))⟩

set_option maxHeartbeats 4000000 in
set_option maxRecDepth 100000 in
theorem v_drift (l : Launch) (dC : Nat → ClassId) (dI : Nat → Nat → Nat) (sK sV : Nat → Nat) (im : Int32) (vm kvm : VS) (tm : List Nat) (T : List (ClassId × FieldType)) (m0 : Nat) (M : va_W) (x : Int32) (sz : Nat) : Met l yX12_drift wsX12_drift ({ frames := 2, cells := 0, slots := 0, locals := 52 } : Room) (va_Pc [.ref m0, .int x] (fun U => U.heap.size = sz ∧ MI dC dI im vm kvm tm T m0 M U.heap ∧ va_K (dC, dI) vwCl T U ∧ Gs sK sV (va_A M sz) U)) (va_Qi (fun (r : Int32) (u : Int32 × VS × VS × List Nat) => u = (im, vm, kvm, tm)) (fun (u : Int32 × VS × VS × List Nat) (t : State) => ∃ M1 : va_W, MI dC dI u.1 u.2.1 u.2.2.1 u.2.2.2 T m0 M1 t.heap ∧ va_D (va_A M sz) M1 ∧ M1.map (fun c => c.1) = M.map (fun c => c.1)) (va_A M sz)) 0 0 (va_A M sz) := by
  obtain ⟨n, wk, kb, mi, sn, yk, yv, yc⟩ := vm
  refine met_wrap (fun args s hPc => ?_)
  obtain ⟨rfl, rfl, hMM, hK, hE⟩ := hPc
  have hMM0 := hMM
  refine hMM _ (fun aS aI aB aT aG aO aN aD aY th ac sp en wg op se dn rn kd nu tv bv cS cI cB cT cG cO cN cD cY fS fI fB fT fG fO fN fD fY hM hP hD hTM hMS hMI hrn => ?_)
  have hMV : MV fS n mi sn yk yv yc := hMS.2
  have hMS : MOK fS n wk kb := hMS.1
  obtain ⟨hl, tp, hn, zn, h5, z1, hw6, zw, hk12, zk, zb, ht, zt, hHd⟩ := id hMS
  obtain ⟨hrq, rfl, hYm⟩ := hrn
  subst hM
  have hP : va_P (dC, dI) vwCl ([(zo14irriiiiiirriirrrrlriiii m0 th aS aI im ac sp en wg op aB aT se dn aG aO aN aD bv aY (nI tm.length) kd nu tv), (zaI aS cS 901 fS), (zaI aI cI 901 fI), (zaI aB cB 6 fB), (zaI aT cT 64 fT), (zaI aG cG 9 fG), (zaL aO cO 36 fO), (zaL aN cN 36 fN), (zaI aD cD 36 fD), (zaI aY cY 20 fY)] ++ []) s.heap := hP
  have hD : va_D (fun _ => True) ([(zo14irriiiiiirriirrrrlriiii m0 th aS aI im ac sp en wg op aB aT se dn aG aO aN aD bv aY (nI tm.length) kd nu tv), (zaI aS cS 901 fS), (zaI aI cI 901 fI), (zaI aB cB 6 fB), (zaI aT cT 64 fT), (zaI aG cG 9 fG), (zaL aO cO 36 fO), (zaL aN cN 36 fN), (zaI aD cD 36 fD), (zaI aY cY 20 fY)] ++ []) := hD
  have hwc := bl_mem (G := [(zo14irriiiiiirriirrrrlriiii m0 th aS aI im ac sp en wg op aB aT se dn aG aO aN aD bv aY (nI tm.length) kd nu tv), (zaI aS cS 901 fS), (zaI aI cI 901 fI), (zaI aB cB 6 fB), (zaI aT cT 64 fT), (zaI aG cG 9 fG), (zaL aO cO 36 fO), (zaL aN cN 36 fN), (zaI aD cD 36 fD), (zaI aY cY 20 fY)]) (F := [(zo14irriiiiiirriirrrrlriiii m0 th aS aI im ac sp en wg op aB aT se dn aG aO aN aD bv aY (nI tm.length) kd nu tv), (zaI aS cS 901 fS), (zaI aB cB 6 fB), (zaI aT cT 64 fT)]) (T := []) [0, 1, 3, 4] rfl
  have hPc := bl_sub (F := [(zo14irriiiiiirriirrrrlriiii m0 th aS aI im ac sp en wg op aB aT se dn aG aO aN aD bv aY (nI tm.length) kd nu tv), (zaI aS cS 901 fS), (zaI aB cB 6 fB), (zaI aT cT 64 fT)]) hP [0, 1, 3, 4] rfl
  refine ⟨_, _, _, c_mDrift l dC dI m0 aS aI aB aT aG aO aN aD aY th im ac sp en wg op se dn (nI tm.length) kd nu tv bv cS cB cT fS fB fT x s.heap.size (hHd.hold h5), ⟨rfl, rfl, hPc, (K_mem hK hTM).sub [0, 2, 3] rfl, bl_Dsub hD [0, 1, 3, 4] (by decide) rfl⟩, fun o t hQ => ?_, fun q hq => bl_A hwc q hq⟩
  obtain ⟨⟨r, u9, rfl, hpost, hB⟩, hz, hkp⟩ := hQ
  obtain ⟨fB9, fT9, se9, dn9⟩ := u9
  try dsimp only at hpost hB
  obtain ⟨hP1, hK1, hD1⟩ := hB
  have hJ := bl_gen (F' := [(zo14irriiiiiirriirrrrlriiii m0 th aS aI im ac sp en wg op aB aT se9 dn9 aG aO aN aD bv aY (nI tm.length) kd nu tv), (zaI aS cS 901 fS), (zaI aI cI 901 fI), (zaI aB cB 6 fB9), (zaI aT cT 64 fT9), (zaI aG cG 9 fG), (zaL aO cO 36 fO), (zaL aN cN 36 fN), (zaI aD cD 36 fD), (zaI aY cY 20 fY)]) hP hD [0, 1, 3, 4] rfl hkp hP1 hD1 [some 0, some 1, none, some 2, some 3, none, none, none, none, none] [0, 1, 3, 4] rfl (Or.inl rfl) rfl
  exact ⟨⟨r, (im, (n, wk, kb, mi, sn, yk, yv, yc), kvm, tm), rfl, rfl, _, (fun M9 k9 => k9 aS aI aB aT aG aO aN aD aY th ac sp en wg op (se9) (dn9) ((nI tm.length)) kd nu tv bv cS cI cB cT cG cO cN cD cY fS fI (fB9) (fT9) fG fO fN fD fY rfl hJ.1 ⟨hJ.2.1, fun _ _ _ => trivial⟩ hTM ⟨(show MOK fS n wk kb from hMS), (show MV fS n mi sn yk yv yc from hMV)⟩ ((show im = 0 ∨ (MOK fI (kvm.1) (kvm.2.1) (kvm.2.2.1) ∧ MV fI (kvm.1) (kvm.2.2.2.1) (kvm.2.2.2.2.1) (kvm.2.2.2.2.2.1) (kvm.2.2.2.2.2.2.1) (kvm.2.2.2.2.2.2.2)) from hMI)) (⟨hrq, rfl, hYm⟩)), hJ.2, rfl⟩, hz, fun q h1 h2 => hkp q h1 (fun h => h2 (bl_A hwc _ h))⟩

set_option maxHeartbeats 4000000 in
set_option maxRecDepth 100000 in
theorem v_odds (l : Launch) (dC : Nat → ClassId) (dI : Nat → Nat → Nat) (sK sV : Nat → Nat) (im : Int32) (vm kvm : VS) (tm : List Nat) (T : List (ClassId × FieldType)) (m0 : Nat) (M : va_W) (x : Int32) (y : Int32) (z : Int32) (sz : Nat) : Met l yX12_odds wsX12_odds ({ frames := 4, cells := 0, slots := 0, locals := 101 } : Room) (va_Pc [.ref m0, .int x, .int y, .int z] (fun U => U.heap.size = sz ∧ MI dC dI im vm kvm tm T m0 M U.heap ∧ va_K (dC, dI) vwCl T U ∧ Gs sK sV (va_A M sz) U)) (va_Ql (fun (r : Int64) (u : Int32 × VS × VS × List Nat) => u = (im, vm, kvm, tm)) (fun (u : Int32 × VS × VS × List Nat) (t : State) => ∃ M1 : va_W, MI dC dI u.1 u.2.1 u.2.2.1 u.2.2.2 T m0 M1 t.heap ∧ va_D (va_A M sz) M1 ∧ M1.map (fun c => c.1) = M.map (fun c => c.1)) (va_A M sz)) 0 0 (va_A M sz) := by
  obtain ⟨n, wk, kb, mi, sn, yk, yv, yc⟩ := vm
  refine met_wrap (fun args s hPc => ?_)
  obtain ⟨rfl, rfl, hMM, hK, hE⟩ := hPc
  have hMM0 := hMM
  refine hMM _ (fun aS aI aB aT aG aO aN aD aY th ac sp en wg op se dn rn kd nu tv bv cS cI cB cT cG cO cN cD cY fS fI fB fT fG fO fN fD fY hM hP hD hTM hMS hMI hrn => ?_)
  have hMV : MV fS n mi sn yk yv yc := hMS.2
  have hMS : MOK fS n wk kb := hMS.1
  obtain ⟨hl, tp, hn, zn, h5, z1, hw6, zw, hk12, zk, zb, ht, zt, hHd⟩ := id hMS
  obtain ⟨hrq, rfl, hYm⟩ := hrn
  subst hM
  have hP : va_P (dC, dI) vwCl ([(zo14irriiiiiirriirrrrlriiii m0 th aS aI im ac sp en wg op aB aT se dn aG aO aN aD bv aY (nI tm.length) kd nu tv), (zaI aS cS 901 fS), (zaI aI cI 901 fI), (zaI aB cB 6 fB), (zaI aT cT 64 fT), (zaI aG cG 9 fG), (zaL aO cO 36 fO), (zaL aN cN 36 fN), (zaI aD cD 36 fD), (zaI aY cY 20 fY)] ++ []) s.heap := hP
  have hD : va_D (fun _ => True) ([(zo14irriiiiiirriirrrrlriiii m0 th aS aI im ac sp en wg op aB aT se dn aG aO aN aD bv aY (nI tm.length) kd nu tv), (zaI aS cS 901 fS), (zaI aI cI 901 fI), (zaI aB cB 6 fB), (zaI aT cT 64 fT), (zaI aG cG 9 fG), (zaL aO cO 36 fO), (zaL aN cN 36 fN), (zaI aD cD 36 fD), (zaI aY cY 20 fY)] ++ []) := hD
  have hwc := bl_mem (G := [(zo14irriiiiiirriirrrrlriiii m0 th aS aI im ac sp en wg op aB aT se dn aG aO aN aD bv aY (nI tm.length) kd nu tv), (zaI aS cS 901 fS), (zaI aI cI 901 fI), (zaI aB cB 6 fB), (zaI aT cT 64 fT), (zaI aG cG 9 fG), (zaL aO cO 36 fO), (zaL aN cN 36 fN), (zaI aD cD 36 fD), (zaI aY cY 20 fY)]) (F := [(zo14irriiiiiirriirrrrlriiii m0 th aS aI im ac sp en wg op aB aT se dn aG aO aN aD bv aY (nI tm.length) kd nu tv), (zaI aS cS 901 fS), (zaI aB cB 6 fB), (zaI aT cT 64 fT), (zaL aO cO 36 fO), (zaL aN cN 36 fN), (zaI aD cD 36 fD)]) (T := []) [0, 1, 3, 4, 6, 7, 8] rfl
  have hPc := bl_sub (F := [(zo14irriiiiiirriirrrrlriiii m0 th aS aI im ac sp en wg op aB aT se dn aG aO aN aD bv aY (nI tm.length) kd nu tv), (zaI aS cS 901 fS), (zaI aB cB 6 fB), (zaI aT cT 64 fT), (zaL aO cO 36 fO), (zaL aN cN 36 fN), (zaI aD cD 36 fD)]) hP [0, 1, 3, 4, 6, 7, 8] rfl
  refine ⟨_, _, _, c_mOdds l dC dI m0 aS aI aB aT aG aO aN aD aY th im ac sp en wg op se dn (nI tm.length) kd nu tv bv cS cB cT cO cN cD fS fB fT fO fN fD n wk x y z s.heap.size zn hn (hHd.hold h5) zw hw6, ⟨rfl, rfl, hPc, (K_mem hK hTM).sub [0, 2, 3, 5, 6, 7] rfl, bl_Dsub hD [0, 1, 3, 4, 6, 7, 8] (by decide) rfl⟩, fun o t hQ => ?_, fun q hq => bl_A hwc q hq⟩
  obtain ⟨⟨r, u9, rfl, hpost, hB⟩, hz, hkp⟩ := hQ
  obtain ⟨fB9, fT9, se9, dn9, fD9, fO9, fN9⟩ := u9
  try dsimp only at hpost hB
  obtain ⟨hP1, hK1, hD1⟩ := hB
  have hJ := bl_gen (F' := [(zo14irriiiiiirriirrrrlriiii m0 th aS aI im ac sp en wg op aB aT se9 dn9 aG aO aN aD bv aY (nI tm.length) kd nu tv), (zaI aS cS 901 fS), (zaI aI cI 901 fI), (zaI aB cB 6 fB9), (zaI aT cT 64 fT9), (zaI aG cG 9 fG), (zaL aO cO 36 fO9), (zaL aN cN 36 fN9), (zaI aD cD 36 fD9), (zaI aY cY 20 fY)]) hP hD [0, 1, 3, 4, 6, 7, 8] rfl hkp hP1 hD1 [some 0, some 1, none, some 2, some 3, none, some 4, some 5, some 6, none] [0, 1, 3, 4, 6, 7, 8] rfl (Or.inl rfl) rfl
  exact ⟨⟨r, (im, (n, wk, kb, mi, sn, yk, yv, yc), kvm, tm), rfl, rfl, _, (fun M9 k9 => k9 aS aI aB aT aG aO aN aD aY th ac sp en wg op (se9) (dn9) ((nI tm.length)) kd nu tv bv cS cI cB cT cG cO cN cD cY fS fI (fB9) (fT9) fG (fO9) (fN9) (fD9) fY rfl hJ.1 ⟨hJ.2.1, fun _ _ _ => trivial⟩ hTM ⟨(show MOK fS n wk kb from hMS), (show MV fS n mi sn yk yv yc from hMV)⟩ ((show im = 0 ∨ (MOK fI (kvm.1) (kvm.2.1) (kvm.2.2.1) ∧ MV fI (kvm.1) (kvm.2.2.2.1) (kvm.2.2.2.2.1) (kvm.2.2.2.2.2.1) (kvm.2.2.2.2.2.2.1) (kvm.2.2.2.2.2.2.2)) from hMI)) (⟨hrq, rfl, hYm⟩)), hJ.2, rfl⟩, hz, fun q h1 h2 => hkp q h1 (fun h => h2 (bl_A hwc _ h))⟩

set_option maxHeartbeats 4000000 in
set_option maxRecDepth 100000 in
theorem v_best (l : Launch) (dC : Nat → ClassId) (dI : Nat → Nat → Nat) (sK sV : Nat → Nat) (im : Int32) (vm kvm : VS) (tm : List Nat) (T : List (ClassId × FieldType)) (m0 : Nat) (M : va_W) (x : Int32) (y : Int32) (z : Int32) (u : Int32) (sz : Nat) : Met l yX12_best wsX12_best ({ frames := 6, cells := 0, slots := 0, locals := 142 } : Room) (va_Pc [.ref m0, .int x, .int y, .int z, .int u] (fun U => U.heap.size = sz ∧ MI dC dI im vm kvm tm T m0 M U.heap ∧ va_K (dC, dI) vwCl T U ∧ Gs sK sV (va_A M sz) U)) (va_Qi (fun (r : Int32) (u : Int32 × VS × VS × List Nat) => u = (im, vm, kvm, tm)) (fun (u : Int32 × VS × VS × List Nat) (t : State) => ∃ M1 : va_W, MI dC dI u.1 u.2.1 u.2.2.1 u.2.2.2 T m0 M1 t.heap ∧ va_D (va_A M sz) M1 ∧ M1.map (fun c => c.1) = M.map (fun c => c.1)) (va_A M sz)) 0 0 (va_A M sz) := by
  obtain ⟨n, wk, kb, mi, sn, yk, yv, yc⟩ := vm
  refine met_wrap (fun args s hPc => ?_)
  obtain ⟨rfl, rfl, hMM, hK, hE⟩ := hPc
  have hMM0 := hMM
  refine hMM _ (fun aS aI aB aT aG aO aN aD aY th ac sp en wg op se dn rn kd nu tv bv cS cI cB cT cG cO cN cD cY fS fI fB fT fG fO fN fD fY hM hP hD hTM hMS hMI hrn => ?_)
  have hMV : MV fS n mi sn yk yv yc := hMS.2
  have hMS : MOK fS n wk kb := hMS.1
  obtain ⟨hl, tp, hn, zn, h5, z1, hw6, zw, hk12, zk, zb, ht, zt, hHd⟩ := id hMS
  obtain ⟨hrq, rfl, hYm⟩ := hrn
  subst hM
  have hP : va_P (dC, dI) vwCl ([(zo14irriiiiiirriirrrrlriiii m0 th aS aI im ac sp en wg op aB aT se dn aG aO aN aD bv aY (nI tm.length) kd nu tv), (zaI aS cS 901 fS), (zaI aI cI 901 fI), (zaI aB cB 6 fB), (zaI aT cT 64 fT), (zaI aG cG 9 fG), (zaL aO cO 36 fO), (zaL aN cN 36 fN), (zaI aD cD 36 fD), (zaI aY cY 20 fY)] ++ []) s.heap := hP
  have hD : va_D (fun _ => True) ([(zo14irriiiiiirriirrrrlriiii m0 th aS aI im ac sp en wg op aB aT se dn aG aO aN aD bv aY (nI tm.length) kd nu tv), (zaI aS cS 901 fS), (zaI aI cI 901 fI), (zaI aB cB 6 fB), (zaI aT cT 64 fT), (zaI aG cG 9 fG), (zaL aO cO 36 fO), (zaL aN cN 36 fN), (zaI aD cD 36 fD), (zaI aY cY 20 fY)] ++ []) := hD
  have hwc := bl_mem (G := [(zo14irriiiiiirriirrrrlriiii m0 th aS aI im ac sp en wg op aB aT se dn aG aO aN aD bv aY (nI tm.length) kd nu tv), (zaI aS cS 901 fS), (zaI aI cI 901 fI), (zaI aB cB 6 fB), (zaI aT cT 64 fT), (zaI aG cG 9 fG), (zaL aO cO 36 fO), (zaL aN cN 36 fN), (zaI aD cD 36 fD), (zaI aY cY 20 fY)]) (F := [(zo14irriiiiiirriirrrrlriiii m0 th aS aI im ac sp en wg op aB aT se dn aG aO aN aD bv aY (nI tm.length) kd nu tv), (zaI aS cS 901 fS), (zaI aB cB 6 fB), (zaI aT cT 64 fT), (zaL aO cO 36 fO), (zaL aN cN 36 fN), (zaI aD cD 36 fD)]) (T := []) [0, 1, 3, 4, 6, 7, 8] rfl
  have hPc := bl_sub (F := [(zo14irriiiiiirriirrrrlriiii m0 th aS aI im ac sp en wg op aB aT se dn aG aO aN aD bv aY (nI tm.length) kd nu tv), (zaI aS cS 901 fS), (zaI aB cB 6 fB), (zaI aT cT 64 fT), (zaL aO cO 36 fO), (zaL aN cN 36 fN), (zaI aD cD 36 fD)]) hP [0, 1, 3, 4, 6, 7, 8] rfl
  refine ⟨_, _, _, c_mBest l dC dI m0 aS aI aB aT aG aO aN aD aY th im ac sp en wg op se dn (nI tm.length) kd nu tv bv cS cB cT cO cN cD fS fB fT fO fN fD x y z u s.heap.size (hHd.hold h5), ⟨rfl, rfl, hPc, (K_mem hK hTM).sub [0, 2, 3, 5, 6, 7] rfl, bl_Dsub hD [0, 1, 3, 4, 6, 7, 8] (by decide) rfl⟩, fun o t hQ => ?_, fun q hq => bl_A hwc q hq⟩
  obtain ⟨⟨r, u9, rfl, hpost, hB⟩, hz, hkp⟩ := hQ
  obtain ⟨fB9, fT9, se9, dn9, fD9, fO9, fN9, bv9⟩ := u9
  try dsimp only at hpost hB
  obtain ⟨hP1, hK1, hD1⟩ := hB
  have hJ := bl_gen (F' := [(zo14irriiiiiirriirrrrlriiii m0 th aS aI im ac sp en wg op aB aT se9 dn9 aG aO aN aD bv9 aY (nI tm.length) kd nu tv), (zaI aS cS 901 fS), (zaI aI cI 901 fI), (zaI aB cB 6 fB9), (zaI aT cT 64 fT9), (zaI aG cG 9 fG), (zaL aO cO 36 fO9), (zaL aN cN 36 fN9), (zaI aD cD 36 fD9), (zaI aY cY 20 fY)]) hP hD [0, 1, 3, 4, 6, 7, 8] rfl hkp hP1 hD1 [some 0, some 1, none, some 2, some 3, none, some 4, some 5, some 6, none] [0, 1, 3, 4, 6, 7, 8] rfl (Or.inl rfl) rfl
  exact ⟨⟨r, (im, (n, wk, kb, mi, sn, yk, yv, yc), kvm, tm), rfl, rfl, _, (fun M9 k9 => k9 aS aI aB aT aG aO aN aD aY th ac sp en wg op (se9) (dn9) ((nI tm.length)) kd nu tv (bv9) cS cI cB cT cG cO cN cD cY fS fI (fB9) (fT9) fG (fO9) (fN9) (fD9) fY rfl hJ.1 ⟨hJ.2.1, fun _ _ _ => trivial⟩ hTM ⟨(show MOK fS n wk kb from hMS), (show MV fS n mi sn yk yv yc from hMV)⟩ ((show im = 0 ∨ (MOK fI (kvm.1) (kvm.2.1) (kvm.2.2.1) ∧ MV fI (kvm.1) (kvm.2.2.2.1) (kvm.2.2.2.2.1) (kvm.2.2.2.2.2.1) (kvm.2.2.2.2.2.2.1) (kvm.2.2.2.2.2.2.2)) from hMI)) (⟨hrq, rfl, hYm⟩)), hJ.2, rfl⟩, hz, fun q h1 h2 => hkp q h1 (fun h => h2 (bl_A hwc _ h))⟩

set_option maxHeartbeats 4000000 in
set_option maxRecDepth 100000 in
theorem v_bestOdds (l : Launch) (dC : Nat → ClassId) (dI : Nat → Nat → Nat) (sK sV : Nat → Nat) (im : Int32) (vm kvm : VS) (tm : List Nat) (T : List (ClassId × FieldType)) (m0 : Nat) (M : va_W) (x : Int32) (y : Int32) (z : Int32) (u : Int32) (sz : Nat) : Met l yX12_bestOdds wsX12_bestOdds ({ frames := 6, cells := 0, slots := 0, locals := 142 } : Room) (va_Pc [.ref m0, .int x, .int y, .int z, .int u] (fun U => U.heap.size = sz ∧ MI dC dI im vm kvm tm T m0 M U.heap ∧ va_K (dC, dI) vwCl T U ∧ Gs sK sV (va_A M sz) U)) (va_Ql (fun (r : Int64) (u : Int32 × VS × VS × List Nat) => u = (im, vm, kvm, tm)) (fun (u : Int32 × VS × VS × List Nat) (t : State) => ∃ M1 : va_W, MI dC dI u.1 u.2.1 u.2.2.1 u.2.2.2 T m0 M1 t.heap ∧ va_D (va_A M sz) M1 ∧ M1.map (fun c => c.1) = M.map (fun c => c.1)) (va_A M sz)) 0 0 (va_A M sz) := by
  obtain ⟨n, wk, kb, mi, sn, yk, yv, yc⟩ := vm
  refine met_wrap (fun args s hPc => ?_)
  obtain ⟨rfl, rfl, hMM, hK, hE⟩ := hPc
  have hMM0 := hMM
  refine hMM _ (fun aS aI aB aT aG aO aN aD aY th ac sp en wg op se dn rn kd nu tv bv cS cI cB cT cG cO cN cD cY fS fI fB fT fG fO fN fD fY hM hP hD hTM hMS hMI hrn => ?_)
  have hMV : MV fS n mi sn yk yv yc := hMS.2
  have hMS : MOK fS n wk kb := hMS.1
  obtain ⟨hl, tp, hn, zn, h5, z1, hw6, zw, hk12, zk, zb, ht, zt, hHd⟩ := id hMS
  obtain ⟨hrq, rfl, hYm⟩ := hrn
  subst hM
  have hP : va_P (dC, dI) vwCl ([(zo14irriiiiiirriirrrrlriiii m0 th aS aI im ac sp en wg op aB aT se dn aG aO aN aD bv aY (nI tm.length) kd nu tv), (zaI aS cS 901 fS), (zaI aI cI 901 fI), (zaI aB cB 6 fB), (zaI aT cT 64 fT), (zaI aG cG 9 fG), (zaL aO cO 36 fO), (zaL aN cN 36 fN), (zaI aD cD 36 fD), (zaI aY cY 20 fY)] ++ []) s.heap := hP
  have hD : va_D (fun _ => True) ([(zo14irriiiiiirriirrrrlriiii m0 th aS aI im ac sp en wg op aB aT se dn aG aO aN aD bv aY (nI tm.length) kd nu tv), (zaI aS cS 901 fS), (zaI aI cI 901 fI), (zaI aB cB 6 fB), (zaI aT cT 64 fT), (zaI aG cG 9 fG), (zaL aO cO 36 fO), (zaL aN cN 36 fN), (zaI aD cD 36 fD), (zaI aY cY 20 fY)] ++ []) := hD
  have hwc := bl_mem (G := [(zo14irriiiiiirriirrrrlriiii m0 th aS aI im ac sp en wg op aB aT se dn aG aO aN aD bv aY (nI tm.length) kd nu tv), (zaI aS cS 901 fS), (zaI aI cI 901 fI), (zaI aB cB 6 fB), (zaI aT cT 64 fT), (zaI aG cG 9 fG), (zaL aO cO 36 fO), (zaL aN cN 36 fN), (zaI aD cD 36 fD), (zaI aY cY 20 fY)]) (F := [(zo14irriiiiiirriirrrrlriiii m0 th aS aI im ac sp en wg op aB aT se dn aG aO aN aD bv aY (nI tm.length) kd nu tv), (zaI aS cS 901 fS), (zaI aB cB 6 fB), (zaI aT cT 64 fT), (zaL aO cO 36 fO), (zaL aN cN 36 fN), (zaI aD cD 36 fD)]) (T := []) [0, 1, 3, 4, 6, 7, 8] rfl
  have hPc := bl_sub (F := [(zo14irriiiiiirriirrrrlriiii m0 th aS aI im ac sp en wg op aB aT se dn aG aO aN aD bv aY (nI tm.length) kd nu tv), (zaI aS cS 901 fS), (zaI aB cB 6 fB), (zaI aT cT 64 fT), (zaL aO cO 36 fO), (zaL aN cN 36 fN), (zaI aD cD 36 fD)]) hP [0, 1, 3, 4, 6, 7, 8] rfl
  refine ⟨_, _, _, c_mBestOdds l dC dI m0 aS aI aB aT aG aO aN aD aY th im ac sp en wg op se dn (nI tm.length) kd nu tv bv cS cB cT cO cN cD fS fB fT fO fN fD x y z u s.heap.size (hHd.hold h5), ⟨rfl, rfl, hPc, (K_mem hK hTM).sub [0, 2, 3, 5, 6, 7] rfl, bl_Dsub hD [0, 1, 3, 4, 6, 7, 8] (by decide) rfl⟩, fun o t hQ => ?_, fun q hq => bl_A hwc q hq⟩
  obtain ⟨⟨r, u9, rfl, hpost, hB⟩, hz, hkp⟩ := hQ
  obtain ⟨fB9, fT9, se9, dn9, fD9, fO9, fN9, bv9⟩ := u9
  try dsimp only at hpost hB
  obtain ⟨hP1, hK1, hD1⟩ := hB
  have hJ := bl_gen (F' := [(zo14irriiiiiirriirrrrlriiii m0 th aS aI im ac sp en wg op aB aT se9 dn9 aG aO aN aD bv9 aY (nI tm.length) kd nu tv), (zaI aS cS 901 fS), (zaI aI cI 901 fI), (zaI aB cB 6 fB9), (zaI aT cT 64 fT9), (zaI aG cG 9 fG), (zaL aO cO 36 fO9), (zaL aN cN 36 fN9), (zaI aD cD 36 fD9), (zaI aY cY 20 fY)]) hP hD [0, 1, 3, 4, 6, 7, 8] rfl hkp hP1 hD1 [some 0, some 1, none, some 2, some 3, none, some 4, some 5, some 6, none] [0, 1, 3, 4, 6, 7, 8] rfl (Or.inl rfl) rfl
  exact ⟨⟨r, (im, (n, wk, kb, mi, sn, yk, yv, yc), kvm, tm), rfl, rfl, _, (fun M9 k9 => k9 aS aI aB aT aG aO aN aD aY th ac sp en wg op (se9) (dn9) ((nI tm.length)) kd nu tv (bv9) cS cI cB cT cG cO cN cD cY fS fI (fB9) (fT9) fG (fO9) (fN9) (fD9) fY rfl hJ.1 ⟨hJ.2.1, fun _ _ _ => trivial⟩ hTM ⟨(show MOK fS n wk kb from hMS), (show MV fS n mi sn yk yv yc from hMV)⟩ ((show im = 0 ∨ (MOK fI (kvm.1) (kvm.2.1) (kvm.2.2.1) ∧ MV fI (kvm.1) (kvm.2.2.2.1) (kvm.2.2.2.2.1) (kvm.2.2.2.2.2.1) (kvm.2.2.2.2.2.2.1) (kvm.2.2.2.2.2.2.2)) from hMI)) (⟨hrq, rfl, hYm⟩)), hJ.2, rfl⟩, hz, fun q h1 h2 => hkp q h1 (fun h => h2 (bl_A hwc _ h))⟩

set_option maxHeartbeats 4000000 in
set_option maxRecDepth 100000 in
theorem v_safe (l : Launch) (dC : Nat → ClassId) (dI : Nat → Nat → Nat) (sK sV : Nat → Nat) (im : Int32) (vm kvm : VS) (tm : List Nat) (T : List (ClassId × FieldType)) (m0 : Nat) (M : va_W) (x : Int32) (y : Int32) (z : Int32) (sz : Nat) : Met l yX12_safe wsX12_safe ({ frames := 6, cells := 0, slots := 0, locals := 142 } : Room) (va_Pc [.ref m0, .int x, .int y, .int z] (fun U => U.heap.size = sz ∧ MI dC dI im vm kvm tm T m0 M U.heap ∧ va_K (dC, dI) vwCl T U ∧ Gs sK sV (va_A M sz) U)) (va_Qi (fun (r : Int32) (u : Int32 × VS × VS × List Nat) => u = (im, vm, kvm, tm)) (fun (u : Int32 × VS × VS × List Nat) (t : State) => ∃ M1 : va_W, MI dC dI u.1 u.2.1 u.2.2.1 u.2.2.2 T m0 M1 t.heap ∧ va_D (va_A M sz) M1 ∧ M1.map (fun c => c.1) = M.map (fun c => c.1)) (va_A M sz)) 0 0 (va_A M sz) := by
  obtain ⟨n, wk, kb, mi, sn, yk, yv, yc⟩ := vm
  refine met_wrap (fun args s hPc => ?_)
  obtain ⟨rfl, rfl, hMM, hK, hE⟩ := hPc
  have hMM0 := hMM
  refine hMM _ (fun aS aI aB aT aG aO aN aD aY th ac sp en wg op se dn rn kd nu tv bv cS cI cB cT cG cO cN cD cY fS fI fB fT fG fO fN fD fY hM hP hD hTM hMS hMI hrn => ?_)
  have hMV : MV fS n mi sn yk yv yc := hMS.2
  have hMS : MOK fS n wk kb := hMS.1
  obtain ⟨hl, tp, hn, zn, h5, z1, hw6, zw, hk12, zk, zb, ht, zt, hHd⟩ := id hMS
  obtain ⟨hrq, rfl, hYm⟩ := hrn
  subst hM
  have hP : va_P (dC, dI) vwCl ([(zo14irriiiiiirriirrrrlriiii m0 th aS aI im ac sp en wg op aB aT se dn aG aO aN aD bv aY (nI tm.length) kd nu tv), (zaI aS cS 901 fS), (zaI aI cI 901 fI), (zaI aB cB 6 fB), (zaI aT cT 64 fT), (zaI aG cG 9 fG), (zaL aO cO 36 fO), (zaL aN cN 36 fN), (zaI aD cD 36 fD), (zaI aY cY 20 fY)] ++ []) s.heap := hP
  have hD : va_D (fun _ => True) ([(zo14irriiiiiirriirrrrlriiii m0 th aS aI im ac sp en wg op aB aT se dn aG aO aN aD bv aY (nI tm.length) kd nu tv), (zaI aS cS 901 fS), (zaI aI cI 901 fI), (zaI aB cB 6 fB), (zaI aT cT 64 fT), (zaI aG cG 9 fG), (zaL aO cO 36 fO), (zaL aN cN 36 fN), (zaI aD cD 36 fD), (zaI aY cY 20 fY)] ++ []) := hD
  have hwc := bl_mem (G := [(zo14irriiiiiirriirrrrlriiii m0 th aS aI im ac sp en wg op aB aT se dn aG aO aN aD bv aY (nI tm.length) kd nu tv), (zaI aS cS 901 fS), (zaI aI cI 901 fI), (zaI aB cB 6 fB), (zaI aT cT 64 fT), (zaI aG cG 9 fG), (zaL aO cO 36 fO), (zaL aN cN 36 fN), (zaI aD cD 36 fD), (zaI aY cY 20 fY)]) (F := [(zo14irriiiiiirriirrrrlriiii m0 th aS aI im ac sp en wg op aB aT se dn aG aO aN aD bv aY (nI tm.length) kd nu tv), (zaI aS cS 901 fS), (zaI aB cB 6 fB), (zaI aT cT 64 fT), (zaL aO cO 36 fO), (zaL aN cN 36 fN), (zaI aD cD 36 fD)]) (T := []) [0, 1, 3, 4, 6, 7, 8] rfl
  have hPc := bl_sub (F := [(zo14irriiiiiirriirrrrlriiii m0 th aS aI im ac sp en wg op aB aT se dn aG aO aN aD bv aY (nI tm.length) kd nu tv), (zaI aS cS 901 fS), (zaI aB cB 6 fB), (zaI aT cT 64 fT), (zaL aO cO 36 fO), (zaL aN cN 36 fN), (zaI aD cD 36 fD)]) hP [0, 1, 3, 4, 6, 7, 8] rfl
  refine ⟨_, _, _, c_mSafe l dC dI m0 aS aI aB aT aG aO aN aD aY th im ac sp en wg op se dn (nI tm.length) kd nu tv bv cS cB cT cO cN cD fS fB fT fO fN fD x y z s.heap.size (hHd.hold h5), ⟨rfl, rfl, hPc, (K_mem hK hTM).sub [0, 2, 3, 5, 6, 7] rfl, bl_Dsub hD [0, 1, 3, 4, 6, 7, 8] (by decide) rfl⟩, fun o t hQ => ?_, fun q hq => bl_A hwc q hq⟩
  obtain ⟨⟨r, u9, rfl, hpost, hB⟩, hz, hkp⟩ := hQ
  obtain ⟨fB9, fT9, se9, dn9, fD9, fO9, fN9, bv9⟩ := u9
  try dsimp only at hpost hB
  obtain ⟨hP1, hK1, hD1⟩ := hB
  have hJ := bl_gen (F' := [(zo14irriiiiiirriirrrrlriiii m0 th aS aI im ac sp en wg op aB aT se9 dn9 aG aO aN aD bv9 aY (nI tm.length) kd nu tv), (zaI aS cS 901 fS), (zaI aI cI 901 fI), (zaI aB cB 6 fB9), (zaI aT cT 64 fT9), (zaI aG cG 9 fG), (zaL aO cO 36 fO9), (zaL aN cN 36 fN9), (zaI aD cD 36 fD9), (zaI aY cY 20 fY)]) hP hD [0, 1, 3, 4, 6, 7, 8] rfl hkp hP1 hD1 [some 0, some 1, none, some 2, some 3, none, some 4, some 5, some 6, none] [0, 1, 3, 4, 6, 7, 8] rfl (Or.inl rfl) rfl
  exact ⟨⟨r, (im, (n, wk, kb, mi, sn, yk, yv, yc), kvm, tm), rfl, rfl, _, (fun M9 k9 => k9 aS aI aB aT aG aO aN aD aY th ac sp en wg op (se9) (dn9) ((nI tm.length)) kd nu tv (bv9) cS cI cB cT cG cO cN cD cY fS fI (fB9) (fT9) fG (fO9) (fN9) (fD9) fY rfl hJ.1 ⟨hJ.2.1, fun _ _ _ => trivial⟩ hTM ⟨(show MOK fS n wk kb from hMS), (show MV fS n mi sn yk yv yc from hMV)⟩ ((show im = 0 ∨ (MOK fI (kvm.1) (kvm.2.1) (kvm.2.2.1) ∧ MV fI (kvm.1) (kvm.2.2.2.1) (kvm.2.2.2.2.1) (kvm.2.2.2.2.2.1) (kvm.2.2.2.2.2.2.1) (kvm.2.2.2.2.2.2.2)) from hMI)) (⟨hrq, rfl, hYm⟩)), hJ.2, rfl⟩, hz, fun q h1 h2 => hkp q h1 (fun h => h2 (bl_A hwc _ h))⟩

set_option maxHeartbeats 4000000 in
set_option maxRecDepth 100000 in
theorem v_looked (l : Launch) (dC : Nat → ClassId) (dI : Nat → Nat → Nat) (sK sV : Nat → Nat) (im : Int32) (vm kvm : VS) (tm : List Nat) (T : List (ClassId × FieldType)) (m0 : Nat) (M : va_W)  (sz : Nat) : Met l yX12_looked wsX12_looked ({ frames := 4, cells := 0, slots := 0, locals := 103 } : Room) (va_Pc [.ref m0] (fun U => U.heap.size = sz ∧ MI dC dI im vm kvm tm T m0 M U.heap ∧ va_K (dC, dI) vwCl T U ∧ Gs sK sV (va_A M sz) U)) (va_Qi (fun (r : Int32) (u : Int32 × VS × VS × List Nat) => u = (im, vm, kvm, tm)) (fun (u : Int32 × VS × VS × List Nat) (t : State) => ∃ M1 : va_W, MI dC dI u.1 u.2.1 u.2.2.1 u.2.2.2 T m0 M1 t.heap ∧ va_D (va_A M sz) M1 ∧ M1.map (fun c => c.1) = M.map (fun c => c.1)) (va_A M sz)) 0 0 (va_A M sz) := by
  obtain ⟨n, wk, kb, mi, sn, yk, yv, yc⟩ := vm
  refine met_wrap (fun args s hPc => ?_)
  obtain ⟨rfl, rfl, hMM, hK, hE⟩ := hPc
  have hMM0 := hMM
  refine hMM _ (fun aS aI aB aT aG aO aN aD aY th ac sp en wg op se dn rn kd nu tv bv cS cI cB cT cG cO cN cD cY fS fI fB fT fG fO fN fD fY hM hP hD hTM hMS hMI hrn => ?_)
  have hMV : MV fS n mi sn yk yv yc := hMS.2
  have hMS : MOK fS n wk kb := hMS.1
  obtain ⟨hl, tp, hn, zn, h5, z1, hw6, zw, hk12, zk, zb, ht, zt, hHd⟩ := id hMS
  obtain ⟨hrq, rfl, hYm⟩ := hrn
  subst hM
  have hP : va_P (dC, dI) vwCl ([(zo14irriiiiiirriirrrrlriiii m0 th aS aI im ac sp en wg op aB aT se dn aG aO aN aD bv aY (nI tm.length) kd nu tv), (zaI aS cS 901 fS), (zaI aI cI 901 fI), (zaI aB cB 6 fB), (zaI aT cT 64 fT), (zaI aG cG 9 fG), (zaL aO cO 36 fO), (zaL aN cN 36 fN), (zaI aD cD 36 fD), (zaI aY cY 20 fY)] ++ []) s.heap := hP
  have hD : va_D (fun _ => True) ([(zo14irriiiiiirriirrrrlriiii m0 th aS aI im ac sp en wg op aB aT se dn aG aO aN aD bv aY (nI tm.length) kd nu tv), (zaI aS cS 901 fS), (zaI aI cI 901 fI), (zaI aB cB 6 fB), (zaI aT cT 64 fT), (zaI aG cG 9 fG), (zaL aO cO 36 fO), (zaL aN cN 36 fN), (zaI aD cD 36 fD), (zaI aY cY 20 fY)] ++ []) := hD
  have hwc := bl_mem (G := [(zo14irriiiiiirriirrrrlriiii m0 th aS aI im ac sp en wg op aB aT se dn aG aO aN aD bv aY (nI tm.length) kd nu tv), (zaI aS cS 901 fS), (zaI aI cI 901 fI), (zaI aB cB 6 fB), (zaI aT cT 64 fT), (zaI aG cG 9 fG), (zaL aO cO 36 fO), (zaL aN cN 36 fN), (zaI aD cD 36 fD), (zaI aY cY 20 fY)]) (F := [(zo14irriiiiiirriirrrrlriiii m0 th aS aI im ac sp en wg op aB aT se dn aG aO aN aD bv aY (nI tm.length) kd nu tv), (zaI aS cS 901 fS), (zaI aB cB 6 fB), (zaI aT cT 64 fT)]) (T := []) [0, 1, 3, 4] rfl
  have hPc := bl_sub (F := [(zo14irriiiiiirriirrrrlriiii m0 th aS aI im ac sp en wg op aB aT se dn aG aO aN aD bv aY (nI tm.length) kd nu tv), (zaI aS cS 901 fS), (zaI aB cB 6 fB), (zaI aT cT 64 fT)]) hP [0, 1, 3, 4] rfl
  refine ⟨_, _, _, c_mLooked l dC dI m0 aS aI aB aT aG aO aN aD aY th im ac sp en wg op se dn (nI tm.length) kd nu tv bv cS cB cT fS fB fT kb s.heap.size (hHd.hold h5) zk hk12 zb, ⟨rfl, rfl, hPc, (K_mem hK hTM).sub [0, 2, 3] rfl, bl_Dsub hD [0, 1, 3, 4] (by decide) rfl⟩, fun o t hQ => ?_, fun q hq => bl_A hwc q hq⟩
  obtain ⟨⟨r, u9, rfl, hpost, hB⟩, hz, hkp⟩ := hQ
  obtain ⟨fB9, fT9, se9, dn9⟩ := u9
  try dsimp only at hpost hB
  obtain ⟨hP1, hK1, hD1⟩ := hB
  have hJ := bl_gen (F' := [(zo14irriiiiiirriirrrrlriiii m0 th aS aI im ac sp en wg op aB aT se9 dn9 aG aO aN aD bv aY (nI tm.length) kd nu tv), (zaI aS cS 901 fS), (zaI aI cI 901 fI), (zaI aB cB 6 fB9), (zaI aT cT 64 fT9), (zaI aG cG 9 fG), (zaL aO cO 36 fO), (zaL aN cN 36 fN), (zaI aD cD 36 fD), (zaI aY cY 20 fY)]) hP hD [0, 1, 3, 4] rfl hkp hP1 hD1 [some 0, some 1, none, some 2, some 3, none, none, none, none, none] [0, 1, 3, 4] rfl (Or.inl rfl) rfl
  exact ⟨⟨r, (im, (n, wk, kb, mi, sn, yk, yv, yc), kvm, tm), rfl, rfl, _, (fun M9 k9 => k9 aS aI aB aT aG aO aN aD aY th ac sp en wg op (se9) (dn9) ((nI tm.length)) kd nu tv bv cS cI cB cT cG cO cN cD cY fS fI (fB9) (fT9) fG fO fN fD fY rfl hJ.1 ⟨hJ.2.1, fun _ _ _ => trivial⟩ hTM ⟨(show MOK fS n wk kb from hMS), (show MV fS n mi sn yk yv yc from hMV)⟩ ((show im = 0 ∨ (MOK fI (kvm.1) (kvm.2.1) (kvm.2.2.1) ∧ MV fI (kvm.1) (kvm.2.2.2.1) (kvm.2.2.2.2.1) (kvm.2.2.2.2.2.1) (kvm.2.2.2.2.2.2.1) (kvm.2.2.2.2.2.2.2)) from hMI)) (⟨hrq, rfl, hYm⟩)), hJ.2, rfl⟩, hz, fun q h1 h2 => hkp q h1 (fun h => h2 (bl_A hwc _ h))⟩

set_option maxHeartbeats 4000000 in
set_option maxRecDepth 100000 in
theorem v_next (l : Launch) (dC : Nat → ClassId) (dI : Nat → Nat → Nat) (sK sV : Nat → Nat) (im : Int32) (vm kvm : VS) (tm : List Nat) (T : List (ClassId × FieldType)) (m0 : Nat) (M : va_W) (x : Int32) (y : Int32) (z : Int32) (sz : Nat) : Met l yX12_next wsX12_next ({ frames := 2, cells := 0, slots := 0, locals := 43 } : Room) (va_Pc [.ref m0, .int x, .int y, .int z] (fun U => U.heap.size = sz ∧ MI dC dI im vm kvm tm T m0 M U.heap ∧ va_K (dC, dI) vwCl T U ∧ Gs sK sV (va_A M sz) U)) (va_Qi (fun (r : Int32) (u : Int32 × VS × VS × List Nat) => r = nxR vm.1 vm.2.2.2.2.2.2.2 x y z ∧ u = (im, vm, kvm, tm)) (fun (u : Int32 × VS × VS × List Nat) (t : State) => ∃ M1 : va_W, MI dC dI u.1 u.2.1 u.2.2.1 u.2.2.2 T m0 M1 t.heap ∧ va_D (va_A M sz) M1 ∧ M1.map (fun c => c.1) = M.map (fun c => c.1)) (va_A M sz)) 0 0 (va_A M sz) := by
  obtain ⟨n, wk, kb, mi, sn, yk, yv, yc⟩ := vm
  refine met_wrap (fun args s hPc => ?_)
  obtain ⟨rfl, rfl, hMM, hK, hE⟩ := hPc
  have hMM0 := hMM
  refine hMM _ (fun aS aI aB aT aG aO aN aD aY th ac sp en wg op se dn rn kd nu tv bv cS cI cB cT cG cO cN cD cY fS fI fB fT fG fO fN fD fY hM hP hD hTM hMS hMI hrn => ?_)
  have hMV : MV fS n mi sn yk yv yc := hMS.2
  have hMS : MOK fS n wk kb := hMS.1
  obtain ⟨hl, tp, hn, zn, h5, z1, hw6, zw, hk12, zk, zb, ht, zt, hHd⟩ := id hMS
  obtain ⟨hrq, rfl, hYm⟩ := hrn
  subst hM
  have hP : va_P (dC, dI) vwCl ([(zo14irriiiiiirriirrrrlriiii m0 th aS aI im ac sp en wg op aB aT se dn aG aO aN aD bv aY (nI tm.length) kd nu tv), (zaI aS cS 901 fS), (zaI aI cI 901 fI), (zaI aB cB 6 fB), (zaI aT cT 64 fT), (zaI aG cG 9 fG), (zaL aO cO 36 fO), (zaL aN cN 36 fN), (zaI aD cD 36 fD), (zaI aY cY 20 fY)] ++ []) s.heap := hP
  have hD : va_D (fun _ => True) ([(zo14irriiiiiirriirrrrlriiii m0 th aS aI im ac sp en wg op aB aT se dn aG aO aN aD bv aY (nI tm.length) kd nu tv), (zaI aS cS 901 fS), (zaI aI cI 901 fI), (zaI aB cB 6 fB), (zaI aT cT 64 fT), (zaI aG cG 9 fG), (zaL aO cO 36 fO), (zaL aN cN 36 fN), (zaI aD cD 36 fD), (zaI aY cY 20 fY)] ++ []) := hD
  have hwc := bl_mem (G := [(zo14irriiiiiirriirrrrlriiii m0 th aS aI im ac sp en wg op aB aT se dn aG aO aN aD bv aY (nI tm.length) kd nu tv), (zaI aS cS 901 fS), (zaI aI cI 901 fI), (zaI aB cB 6 fB), (zaI aT cT 64 fT), (zaI aG cG 9 fG), (zaL aO cO 36 fO), (zaL aN cN 36 fN), (zaI aD cD 36 fD), (zaI aY cY 20 fY)]) (F := [(zo14irriiiiiirriirrrrlriiii m0 th aS aI im ac sp en wg op aB aT se dn aG aO aN aD bv aY (nI tm.length) kd nu tv), (zaI aS cS 901 fS)]) (T := []) [0, 1] rfl
  have hPc := bl_sub (F := [(zo14irriiiiiirriirrrrlriiii m0 th aS aI im ac sp en wg op aB aT se dn aG aO aN aD bv aY (nI tm.length) kd nu tv), (zaI aS cS 901 fS)]) hP [0, 1] rfl
  refine ⟨_, _, _, c_mNext l dC dI m0 aS aI aB aT aG aO aN aD aY th im ac sp en wg op se dn (nI tm.length) kd nu tv bv cS fS n yc x y z zn hn hMV.2.2.2.2, ⟨rfl, hPc, (K_mem hK hTM).sub [0] rfl⟩, fun o t hQ => ?_, fun q hq => hq.elim⟩
  obtain ⟨r, rfl, hpost, hh⟩ := hQ
  exact ⟨⟨r, (im, (n, wk, kb, mi, sn, yk, yv, yc), kvm, tm), rfl, ⟨hpost, rfl⟩, _, by rw [hh]; exact hMM0, ⟨hD.1, fun k q hq => Or.inl ⟨k, q.2, hq⟩⟩, rfl⟩, by rw [hh]; exact Nat.le_refl _, fun q _ _ => by rw [hh]⟩

set_option maxHeartbeats 4000000 in
set_option maxRecDepth 100000 in
theorem v_as (l : Launch) (dC : Nat → ClassId) (dI : Nat → Nat → Nat) (sK sV : Nat → Nat) (im : Int32) (vm kvm : VS) (tm : List Nat) (T : List (ClassId × FieldType)) (m0 : Nat) (M : va_W) (x : Int32) (y : Int32) (sz : Nat) : Met l yX12_as wsX12_as ({ frames := 2, cells := 0, slots := 0, locals := 43 } : Room) (va_Pc [.ref m0, .int x, .int y] (fun U => U.heap.size = sz ∧ MI dC dI im vm kvm tm T m0 M U.heap ∧ va_K (dC, dI) vwCl T U ∧ Gs sK sV (va_A M sz) U)) (va_Qi (fun (r : Int32) (u : Int32 × VS × VS × List Nat) => r = asR vm.1 vm.2.2.2.2.2.1 vm.2.2.2.2.2.2.1 x y ∧ u = (im, vm, kvm, tm)) (fun (u : Int32 × VS × VS × List Nat) (t : State) => ∃ M1 : va_W, MI dC dI u.1 u.2.1 u.2.2.1 u.2.2.2 T m0 M1 t.heap ∧ va_D (va_A M sz) M1 ∧ M1.map (fun c => c.1) = M.map (fun c => c.1)) (va_A M sz)) 0 0 (va_A M sz) := by
  obtain ⟨n, wk, kb, mi, sn, yk, yv, yc⟩ := vm
  refine met_wrap (fun args s hPc => ?_)
  obtain ⟨rfl, rfl, hMM, hK, hE⟩ := hPc
  have hMM0 := hMM
  refine hMM _ (fun aS aI aB aT aG aO aN aD aY th ac sp en wg op se dn rn kd nu tv bv cS cI cB cT cG cO cN cD cY fS fI fB fT fG fO fN fD fY hM hP hD hTM hMS hMI hrn => ?_)
  have hMV : MV fS n mi sn yk yv yc := hMS.2
  have hMS : MOK fS n wk kb := hMS.1
  obtain ⟨hl, tp, hn, zn, h5, z1, hw6, zw, hk12, zk, zb, ht, zt, hHd⟩ := id hMS
  obtain ⟨hrq, rfl, hYm⟩ := hrn
  subst hM
  have hP : va_P (dC, dI) vwCl ([(zo14irriiiiiirriirrrrlriiii m0 th aS aI im ac sp en wg op aB aT se dn aG aO aN aD bv aY (nI tm.length) kd nu tv), (zaI aS cS 901 fS), (zaI aI cI 901 fI), (zaI aB cB 6 fB), (zaI aT cT 64 fT), (zaI aG cG 9 fG), (zaL aO cO 36 fO), (zaL aN cN 36 fN), (zaI aD cD 36 fD), (zaI aY cY 20 fY)] ++ []) s.heap := hP
  have hD : va_D (fun _ => True) ([(zo14irriiiiiirriirrrrlriiii m0 th aS aI im ac sp en wg op aB aT se dn aG aO aN aD bv aY (nI tm.length) kd nu tv), (zaI aS cS 901 fS), (zaI aI cI 901 fI), (zaI aB cB 6 fB), (zaI aT cT 64 fT), (zaI aG cG 9 fG), (zaL aO cO 36 fO), (zaL aN cN 36 fN), (zaI aD cD 36 fD), (zaI aY cY 20 fY)] ++ []) := hD
  have hwc := bl_mem (G := [(zo14irriiiiiirriirrrrlriiii m0 th aS aI im ac sp en wg op aB aT se dn aG aO aN aD bv aY (nI tm.length) kd nu tv), (zaI aS cS 901 fS), (zaI aI cI 901 fI), (zaI aB cB 6 fB), (zaI aT cT 64 fT), (zaI aG cG 9 fG), (zaL aO cO 36 fO), (zaL aN cN 36 fN), (zaI aD cD 36 fD), (zaI aY cY 20 fY)]) (F := [(zo14irriiiiiirriirrrrlriiii m0 th aS aI im ac sp en wg op aB aT se dn aG aO aN aD bv aY (nI tm.length) kd nu tv), (zaI aS cS 901 fS)]) (T := []) [0, 1] rfl
  have hPc := bl_sub (F := [(zo14irriiiiiirriirrrrlriiii m0 th aS aI im ac sp en wg op aB aT se dn aG aO aN aD bv aY (nI tm.length) kd nu tv), (zaI aS cS 901 fS)]) hP [0, 1] rfl
  refine ⟨_, _, _, c_mAs l dC dI m0 aS aI aB aT aG aO aN aD aY th im ac sp en wg op se dn (nI tm.length) kd nu tv bv cS fS n yk yv x y zn hn hMV.2.2.1 hMV.2.2.2.1, ⟨rfl, hPc, (K_mem hK hTM).sub [0] rfl⟩, fun o t hQ => ?_, fun q hq => hq.elim⟩
  obtain ⟨r, rfl, hpost, hh⟩ := hQ
  exact ⟨⟨r, (im, (n, wk, kb, mi, sn, yk, yv, yc), kvm, tm), rfl, ⟨hpost, rfl⟩, _, by rw [hh]; exact hMM0, ⟨hD.1, fun k q hq => Or.inl ⟨k, q.2, hq⟩⟩, rfl⟩, by rw [hh]; exact Nat.le_refl _, fun q _ _ => by rw [hh]⟩

set_option maxHeartbeats 4000000 in
set_option maxRecDepth 100000 in
theorem v_feed (l : Launch) (dC : Nat → ClassId) (dI : Nat → Nat → Nat) (sK sV : Nat → Nat) (im : Int32) (vm kvm : VS) (tm : List Nat) (T : List (ClassId × FieldType)) (m0 : Nat) (M : va_W) (x : Int32) (sz : Nat) : Met l yX12_feed wsX12_feed ({ frames := 1, cells := 0, slots := 0, locals := 22 } : Room) (va_Pc [.ref m0, .int x] (fun U => U.heap.size = sz ∧ MI dC dI im vm kvm tm T m0 M U.heap ∧ va_K (dC, dI) vwCl T U ∧ Gs sK sV (va_A M sz) U)) (va_Qi (fun (r : Int32) (u : Int32 × VS × VS × List Nat) => u = (im, vm, kvm, tm)) (fun (u : Int32 × VS × VS × List Nat) (t : State) => ∃ M1 : va_W, MI dC dI u.1 u.2.1 u.2.2.1 u.2.2.2 T m0 M1 t.heap ∧ va_D (va_A M sz) M1 ∧ M1.map (fun c => c.1) = M.map (fun c => c.1)) (va_A M sz)) 0 0 (va_A M sz) := by
  obtain ⟨n, wk, kb, mi, sn, yk, yv, yc⟩ := vm
  refine met_wrap (fun args s hPc => ?_)
  obtain ⟨rfl, rfl, hMM, hK, hE⟩ := hPc
  have hMM0 := hMM
  refine hMM _ (fun aS aI aB aT aG aO aN aD aY th ac sp en wg op se dn rn kd nu tv bv cS cI cB cT cG cO cN cD cY fS fI fB fT fG fO fN fD fY hM hP hD hTM hMS hMI hrn => ?_)
  have hMV : MV fS n mi sn yk yv yc := hMS.2
  have hMS : MOK fS n wk kb := hMS.1
  obtain ⟨hl, tp, hn, zn, h5, z1, hw6, zw, hk12, zk, zb, ht, zt, hHd⟩ := id hMS
  obtain ⟨hrq, rfl, hYm⟩ := hrn
  subst hM
  have hP : va_P (dC, dI) vwCl ([(zo14irriiiiiirriirrrrlriiii m0 th aS aI im ac sp en wg op aB aT se dn aG aO aN aD bv aY (nI tm.length) kd nu tv), (zaI aS cS 901 fS), (zaI aI cI 901 fI), (zaI aB cB 6 fB), (zaI aT cT 64 fT), (zaI aG cG 9 fG), (zaL aO cO 36 fO), (zaL aN cN 36 fN), (zaI aD cD 36 fD), (zaI aY cY 20 fY)] ++ []) s.heap := hP
  have hD : va_D (fun _ => True) ([(zo14irriiiiiirriirrrrlriiii m0 th aS aI im ac sp en wg op aB aT se dn aG aO aN aD bv aY (nI tm.length) kd nu tv), (zaI aS cS 901 fS), (zaI aI cI 901 fI), (zaI aB cB 6 fB), (zaI aT cT 64 fT), (zaI aG cG 9 fG), (zaL aO cO 36 fO), (zaL aN cN 36 fN), (zaI aD cD 36 fD), (zaI aY cY 20 fY)] ++ []) := hD
  have hwc := bl_mem (G := [(zo14irriiiiiirriirrrrlriiii m0 th aS aI im ac sp en wg op aB aT se dn aG aO aN aD bv aY (nI tm.length) kd nu tv), (zaI aS cS 901 fS), (zaI aI cI 901 fI), (zaI aB cB 6 fB), (zaI aT cT 64 fT), (zaI aG cG 9 fG), (zaL aO cO 36 fO), (zaL aN cN 36 fN), (zaI aD cD 36 fD), (zaI aY cY 20 fY)]) (F := [(zo14irriiiiiirriirrrrlriiii m0 th aS aI im ac sp en wg op aB aT se dn aG aO aN aD bv aY (nI tm.length) kd nu tv), (zaI aS cS 901 fS)]) (T := []) [0, 1] rfl
  have hPc := bl_sub (F := [(zo14irriiiiiirriirrrrlriiii m0 th aS aI im ac sp en wg op aB aT se dn aG aO aN aD bv aY (nI tm.length) kd nu tv), (zaI aS cS 901 fS)]) hP [0, 1] rfl
  refine ⟨_, _, _, c_mFeed l dC dI m0 aS aI aB aT aG aO aN aD aY th im ac sp en wg op se dn (nI tm.length) kd nu tv bv cS fS tp x s.heap.size zt ht, ⟨rfl, rfl, hPc, (K_mem hK hTM).sub [0] rfl, bl_Dsub hD [0, 1] (by decide) rfl⟩, fun o t hQ => ?_, fun q hq => bl_A hwc q hq⟩
  obtain ⟨⟨r, u9, rfl, hpost, hB⟩, hz, hkp⟩ := hQ
  obtain ⟨fS9, rfl⟩ : ∃ z9, z9 = u9 := ⟨_, rfl⟩
  try dsimp only at hpost hB
  obtain ⟨hP1, hK1, hD1⟩ := hB
  obtain ⟨q1, q2, q3⟩ := hpost
  have hJ := bl_gen (F' := [(zo14irriiiiiirriirrrrlriiii m0 th aS aI im ac sp en wg op aB aT se dn aG aO aN aD bv aY (nI tm.length) kd nu tv), (zaI aS cS 901 fS9), (zaI aI cI 901 fI), (zaI aB cB 6 fB), (zaI aT cT 64 fT), (zaI aG cG 9 fG), (zaL aO cO 36 fO), (zaL aN cN 36 fN), (zaI aD cD 36 fD), (zaI aY cY 20 fY)]) hP hD [0, 1] rfl hkp hP1 hD1 [some 0, some 1, none, none, none, none, none, none, none, none] [0, 1] rfl (Or.inl rfl) rfl
  exact ⟨⟨r, (im, (n, wk, kb, mi, sn, yk, yv, yc), kvm, tm), rfl, rfl, _, (fun M9 k9 => k9 aS aI aB aT aG aO aN aD aY th ac sp en wg op se dn ((nI tm.length)) kd nu tv bv cS cI cB cT cG cO cN cD cY (fS9) fI fB fT fG fO fN fD fY rfl hJ.1 ⟨hJ.2.1, fun _ _ _ => trivial⟩ hTM ⟨(show MOK fS9 n wk kb from MOK_feed hMS (fdN_le ht) q2 q3), (show MV fS9 n mi sn yk yv yc from MV_of hMV (fun i hi => q3 i (by omega) (by omega)))⟩ ((show im = 0 ∨ (MOK fI (kvm.1) (kvm.2.1) (kvm.2.2.1) ∧ MV fI (kvm.1) (kvm.2.2.2.1) (kvm.2.2.2.2.1) (kvm.2.2.2.2.2.1) (kvm.2.2.2.2.2.2.1) (kvm.2.2.2.2.2.2.2)) from hMI)) (⟨hrq, rfl, hYm⟩)), hJ.2, rfl⟩, hz, fun q h1 h2 => hkp q h1 (fun h => h2 (bl_A hwc _ h))⟩

set_option maxHeartbeats 4000000 in
set_option maxRecDepth 100000 in
theorem v_walk (l : Launch) (dC : Nat → ClassId) (dI : Nat → Nat → Nat) (sK sV : Nat → Nat) (im : Int32) (vm kvm : VS) (tm : List Nat) (T : List (ClassId × FieldType)) (m0 : Nat) (M : va_W) (x : Int32) (sz : Nat) : Met l yX12_walk wsX12_walk ({ frames := 1, cells := 0, slots := 0, locals := 22 } : Room) (va_Pc [.ref m0, .int x] (fun U => U.heap.size = sz ∧ MI dC dI im vm kvm tm T m0 M U.heap ∧ va_K (dC, dI) vwCl T U ∧ Gs sK sV (va_A M sz) U)) (va_Qi (fun (r : Int32) (u : Int32 × VS × VS × List Nat) => r = wkR vm.2.1 x ∧ u = (im, (vm.1, wkN vm.2.1 x, vm.2.2.1, vm.2.2.2.1, vm.2.2.2.2.1, vm.2.2.2.2.2.1, vm.2.2.2.2.2.2.1, vm.2.2.2.2.2.2.2), kvm, tm)) (fun (u : Int32 × VS × VS × List Nat) (t : State) => ∃ M1 : va_W, MI dC dI u.1 u.2.1 u.2.2.1 u.2.2.2 T m0 M1 t.heap ∧ va_D (va_A M sz) M1 ∧ M1.map (fun c => c.1) = M.map (fun c => c.1)) (va_A M sz)) 0 0 (va_A M sz) := by
  obtain ⟨n, wk, kb, mi, sn, yk, yv, yc⟩ := vm
  refine met_wrap (fun args s hPc => ?_)
  obtain ⟨rfl, rfl, hMM, hK, hE⟩ := hPc
  have hMM0 := hMM
  refine hMM _ (fun aS aI aB aT aG aO aN aD aY th ac sp en wg op se dn rn kd nu tv bv cS cI cB cT cG cO cN cD cY fS fI fB fT fG fO fN fD fY hM hP hD hTM hMS hMI hrn => ?_)
  have hMV : MV fS n mi sn yk yv yc := hMS.2
  have hMS : MOK fS n wk kb := hMS.1
  obtain ⟨hl, tp, hn, zn, h5, z1, hw6, zw, hk12, zk, zb, ht, zt, hHd⟩ := id hMS
  obtain ⟨hrq, rfl, hYm⟩ := hrn
  subst hM
  have hP : va_P (dC, dI) vwCl ([(zo14irriiiiiirriirrrrlriiii m0 th aS aI im ac sp en wg op aB aT se dn aG aO aN aD bv aY (nI tm.length) kd nu tv), (zaI aS cS 901 fS), (zaI aI cI 901 fI), (zaI aB cB 6 fB), (zaI aT cT 64 fT), (zaI aG cG 9 fG), (zaL aO cO 36 fO), (zaL aN cN 36 fN), (zaI aD cD 36 fD), (zaI aY cY 20 fY)] ++ []) s.heap := hP
  have hD : va_D (fun _ => True) ([(zo14irriiiiiirriirrrrlriiii m0 th aS aI im ac sp en wg op aB aT se dn aG aO aN aD bv aY (nI tm.length) kd nu tv), (zaI aS cS 901 fS), (zaI aI cI 901 fI), (zaI aB cB 6 fB), (zaI aT cT 64 fT), (zaI aG cG 9 fG), (zaL aO cO 36 fO), (zaL aN cN 36 fN), (zaI aD cD 36 fD), (zaI aY cY 20 fY)] ++ []) := hD
  have hwc := bl_mem (G := [(zo14irriiiiiirriirrrrlriiii m0 th aS aI im ac sp en wg op aB aT se dn aG aO aN aD bv aY (nI tm.length) kd nu tv), (zaI aS cS 901 fS), (zaI aI cI 901 fI), (zaI aB cB 6 fB), (zaI aT cT 64 fT), (zaI aG cG 9 fG), (zaL aO cO 36 fO), (zaL aN cN 36 fN), (zaI aD cD 36 fD), (zaI aY cY 20 fY)]) (F := [(zo14irriiiiiirriirrrrlriiii m0 th aS aI im ac sp en wg op aB aT se dn aG aO aN aD bv aY (nI tm.length) kd nu tv), (zaI aS cS 901 fS)]) (T := []) [0, 1] rfl
  have hPc := bl_sub (F := [(zo14irriiiiiirriirrrrlriiii m0 th aS aI im ac sp en wg op aB aT se dn aG aO aN aD bv aY (nI tm.length) kd nu tv), (zaI aS cS 901 fS)]) hP [0, 1] rfl
  refine ⟨_, _, _, c_mWalk l dC dI m0 aS aI aB aT aG aO aN aD aY th im ac sp en wg op se dn (nI tm.length) kd nu tv bv cS fS wk x s.heap.size zw hw6, ⟨rfl, rfl, hPc, (K_mem hK hTM).sub [0] rfl, bl_Dsub hD [0, 1] (by decide) rfl⟩, fun o t hQ => ?_, fun q hq => bl_A hwc q hq⟩
  obtain ⟨⟨r, u9, rfl, hpost, hB⟩, hz, hkp⟩ := hQ
  obtain ⟨fS9, rfl⟩ : ∃ z9, z9 = u9 := ⟨_, rfl⟩
  try dsimp only at hpost hB
  obtain ⟨hP1, hK1, hD1⟩ := hB
  obtain ⟨q1, q2, q3⟩ := hpost
  have hJ := bl_gen (F' := [(zo14irriiiiiirriirrrrlriiii m0 th aS aI im ac sp en wg op aB aT se dn aG aO aN aD bv aY (nI tm.length) kd nu tv), (zaI aS cS 901 fS9), (zaI aI cI 901 fI), (zaI aB cB 6 fB), (zaI aT cT 64 fT), (zaI aG cG 9 fG), (zaL aO cO 36 fO), (zaL aN cN 36 fN), (zaI aD cD 36 fD), (zaI aY cY 20 fY)]) hP hD [0, 1] rfl hkp hP1 hD1 [some 0, some 1, none, none, none, none, none, none, none, none] [0, 1] rfl (Or.inl rfl) rfl
  exact ⟨⟨r, (im, (n, wkN wk x, kb, mi, sn, yk, yv, yc), kvm, tm), rfl, ⟨q1, rfl⟩, _, (fun M9 k9 => k9 aS aI aB aT aG aO aN aD aY th ac sp en wg op se dn ((nI tm.length)) kd nu tv bv cS cI cB cT cG cO cN cD cY (fS9) fI fB fT fG fO fN fD fY rfl hJ.1 ⟨hJ.2.1, fun _ _ _ => trivial⟩ hTM ⟨(show MOK fS9 n (wkN wk x) kb from MOK_walk hMS (wkN_le hw6) q2 q3), (show MV fS9 n mi sn yk yv yc from MV_of hMV (fun i hi => q3 i (by omega) (by omega)))⟩ ((show im = 0 ∨ (MOK fI (kvm.1) (kvm.2.1) (kvm.2.2.1) ∧ MV fI (kvm.1) (kvm.2.2.2.1) (kvm.2.2.2.2.1) (kvm.2.2.2.2.2.1) (kvm.2.2.2.2.2.2.1) (kvm.2.2.2.2.2.2.2)) from hMI)) (⟨hrq, rfl, hYm⟩)), hJ.2, rfl⟩, hz, fun q h1 h2 => hkp q h1 (fun h => h2 (bl_A hwc _ h))⟩

set_option maxHeartbeats 4000000 in
set_option maxRecDepth 100000 in
theorem v_book (l : Launch) (dC : Nat → ClassId) (dI : Nat → Nat → Nat) (sK sV : Nat → Nat) (im : Int32) (vm kvm : VS) (tm : List Nat) (T : List (ClassId × FieldType)) (m0 : Nat) (M : va_W) (x : Int32) (sz : Nat) : Met l yX12_book wsX12_book ({ frames := 2, cells := 0, slots := 0, locals := 43 } : Room) (va_Pc [.ref m0, .int x] (fun U => U.heap.size = sz ∧ MI dC dI im vm kvm tm T m0 M U.heap ∧ va_K (dC, dI) vwCl T U ∧ Gs sK sV (va_A M sz) U)) (va_Qi (fun (r : Int32) (u : Int32 × VS × VS × List Nat) => r = bkR vm.1 vm.2.2.1 x ∧ u = (im, (vm.1, vm.2.1, bkN vm.1 vm.2.2.1 x, vm.2.2.2.1, vm.2.2.2.2.1, vm.2.2.2.2.2.1, vm.2.2.2.2.2.2.1, vm.2.2.2.2.2.2.2), kvm, tm)) (fun (u : Int32 × VS × VS × List Nat) (t : State) => ∃ M1 : va_W, MI dC dI u.1 u.2.1 u.2.2.1 u.2.2.2 T m0 M1 t.heap ∧ va_D (va_A M sz) M1 ∧ M1.map (fun c => c.1) = M.map (fun c => c.1)) (va_A M sz)) 0 0 (va_A M sz) := by
  obtain ⟨n, wk, kb, mi, sn, yk, yv, yc⟩ := vm
  refine met_wrap (fun args s hPc => ?_)
  obtain ⟨rfl, rfl, hMM, hK, hE⟩ := hPc
  have hMM0 := hMM
  refine hMM _ (fun aS aI aB aT aG aO aN aD aY th ac sp en wg op se dn rn kd nu tv bv cS cI cB cT cG cO cN cD cY fS fI fB fT fG fO fN fD fY hM hP hD hTM hMS hMI hrn => ?_)
  have hMV : MV fS n mi sn yk yv yc := hMS.2
  have hMS : MOK fS n wk kb := hMS.1
  obtain ⟨hl, tp, hn, zn, h5, z1, hw6, zw, hk12, zk, zb, ht, zt, hHd⟩ := id hMS
  obtain ⟨hrq, rfl, hYm⟩ := hrn
  subst hM
  have hP : va_P (dC, dI) vwCl ([(zo14irriiiiiirriirrrrlriiii m0 th aS aI im ac sp en wg op aB aT se dn aG aO aN aD bv aY (nI tm.length) kd nu tv), (zaI aS cS 901 fS), (zaI aI cI 901 fI), (zaI aB cB 6 fB), (zaI aT cT 64 fT), (zaI aG cG 9 fG), (zaL aO cO 36 fO), (zaL aN cN 36 fN), (zaI aD cD 36 fD), (zaI aY cY 20 fY)] ++ []) s.heap := hP
  have hD : va_D (fun _ => True) ([(zo14irriiiiiirriirrrrlriiii m0 th aS aI im ac sp en wg op aB aT se dn aG aO aN aD bv aY (nI tm.length) kd nu tv), (zaI aS cS 901 fS), (zaI aI cI 901 fI), (zaI aB cB 6 fB), (zaI aT cT 64 fT), (zaI aG cG 9 fG), (zaL aO cO 36 fO), (zaL aN cN 36 fN), (zaI aD cD 36 fD), (zaI aY cY 20 fY)] ++ []) := hD
  have hwc := bl_mem (G := [(zo14irriiiiiirriirrrrlriiii m0 th aS aI im ac sp en wg op aB aT se dn aG aO aN aD bv aY (nI tm.length) kd nu tv), (zaI aS cS 901 fS), (zaI aI cI 901 fI), (zaI aB cB 6 fB), (zaI aT cT 64 fT), (zaI aG cG 9 fG), (zaL aO cO 36 fO), (zaL aN cN 36 fN), (zaI aD cD 36 fD), (zaI aY cY 20 fY)]) (F := [(zo14irriiiiiirriirrrrlriiii m0 th aS aI im ac sp en wg op aB aT se dn aG aO aN aD bv aY (nI tm.length) kd nu tv), (zaI aS cS 901 fS)]) (T := []) [0, 1] rfl
  have hPc := bl_sub (F := [(zo14irriiiiiirriirrrrlriiii m0 th aS aI im ac sp en wg op aB aT se dn aG aO aN aD bv aY (nI tm.length) kd nu tv), (zaI aS cS 901 fS)]) hP [0, 1] rfl
  refine ⟨_, _, _, c_mBook l dC dI m0 aS aI aB aT aG aO aN aD aY th im ac sp en wg op se dn (nI tm.length) kd nu tv bv cS fS n kb x s.heap.size zn hn zk hk12 zb, ⟨rfl, rfl, hPc, (K_mem hK hTM).sub [0] rfl, bl_Dsub hD [0, 1] (by decide) rfl⟩, fun o t hQ => ?_, fun q hq => bl_A hwc q hq⟩
  obtain ⟨⟨r, u9, rfl, hpost, hB⟩, hz, hkp⟩ := hQ
  obtain ⟨fS9, rfl⟩ : ∃ z9, z9 = u9 := ⟨_, rfl⟩
  try dsimp only at hpost hB
  obtain ⟨hP1, hK1, hD1⟩ := hB
  obtain ⟨q1, q2, zb9, q3⟩ := hpost
  have hJ := bl_gen (F' := [(zo14irriiiiiirriirrrrlriiii m0 th aS aI im ac sp en wg op aB aT se dn aG aO aN aD bv aY (nI tm.length) kd nu tv), (zaI aS cS 901 fS9), (zaI aI cI 901 fI), (zaI aB cB 6 fB), (zaI aT cT 64 fT), (zaI aG cG 9 fG), (zaL aO cO 36 fO), (zaL aN cN 36 fN), (zaI aD cD 36 fD), (zaI aY cY 20 fY)]) hP hD [0, 1] rfl hkp hP1 hD1 [some 0, some 1, none, none, none, none, none, none, none, none] [0, 1] rfl (Or.inl rfl) rfl
  exact ⟨⟨r, (im, (n, wk, bkN n kb x, mi, sn, yk, yv, yc), kvm, tm), rfl, ⟨q1, rfl⟩, _, (fun M9 k9 => k9 aS aI aB aT aG aO aN aD aY th ac sp en wg op se dn ((nI tm.length)) kd nu tv bv cS cI cB cT cG cO cN cD cY (fS9) fI fB fT fG fO fN fD fY rfl hJ.1 ⟨hJ.2.1, fun _ _ _ => trivial⟩ hTM ⟨(show MOK fS9 n wk (bkN n kb x) from MOK_book hMS (bkN_le hk12) q2 zb9 q3), (show MV fS9 n mi sn yk yv yc from MV_of hMV (fun i hi => q3 i (by omega) (by omega)))⟩ ((show im = 0 ∨ (MOK fI (kvm.1) (kvm.2.1) (kvm.2.2.1) ∧ MV fI (kvm.1) (kvm.2.2.2.1) (kvm.2.2.2.2.1) (kvm.2.2.2.2.2.1) (kvm.2.2.2.2.2.2.1) (kvm.2.2.2.2.2.2.2)) from hMI)) (⟨hrq, rfl, hYm⟩)), hJ.2, rfl⟩, hz, fun q h1 h2 => hkp q h1 (fun h => h2 (bl_A hwc _ h))⟩

set_option maxHeartbeats 4000000 in
set_option maxRecDepth 100000 in
theorem v_set (l : Launch) (dC : Nat → ClassId) (dI : Nat → Nat → Nat) (sK sV : Nat → Nat) (im : Int32) (vm kvm : VS) (tm : List Nat) (T : List (ClassId × FieldType)) (m0 : Nat) (M : va_W) (x : Int32) (y : Int32) (sz : Nat) : Met l yX12_set wsX12_set ({ frames := 1, cells := 0, slots := 0, locals := 22 } : Room) (va_Pc [.ref m0, .int x, .int y] (fun U => U.heap.size = sz ∧ MI dC dI im vm kvm tm T m0 M U.heap ∧ va_K (dC, dI) vwCl T U ∧ Gs sK sV (va_A M sz) U)) (va_Qi (fun (r : Int32) (u : Int32 × VS × VS × List Nat) => r = stR vm.2.2.2.1 vm.2.2.2.2.1 x y ∧ u = (im, (vm.1, vm.2.1, vm.2.2.1, stM vm.2.2.2.1 x y, stN vm.2.2.2.2.1 x y, vm.2.2.2.2.2.1, vm.2.2.2.2.2.2.1, vm.2.2.2.2.2.2.2), kvm, tm)) (fun (u : Int32 × VS × VS × List Nat) (t : State) => ∃ M1 : va_W, MI dC dI u.1 u.2.1 u.2.2.1 u.2.2.2 T m0 M1 t.heap ∧ va_D (va_A M sz) M1 ∧ M1.map (fun c => c.1) = M.map (fun c => c.1)) (va_A M sz)) 0 0 (va_A M sz) := by
  obtain ⟨n, wk, kb, mi, sn, yk, yv, yc⟩ := vm
  refine met_wrap (fun args s hPc => ?_)
  obtain ⟨rfl, rfl, hMM, hK, hE⟩ := hPc
  have hMM0 := hMM
  refine hMM _ (fun aS aI aB aT aG aO aN aD aY th ac sp en wg op se dn rn kd nu tv bv cS cI cB cT cG cO cN cD cY fS fI fB fT fG fO fN fD fY hM hP hD hTM hMS hMI hrn => ?_)
  have hMV : MV fS n mi sn yk yv yc := hMS.2
  have hMS : MOK fS n wk kb := hMS.1
  obtain ⟨hl, tp, hn, zn, h5, z1, hw6, zw, hk12, zk, zb, ht, zt, hHd⟩ := id hMS
  obtain ⟨hrq, rfl, hYm⟩ := hrn
  subst hM
  have hP : va_P (dC, dI) vwCl ([(zo14irriiiiiirriirrrrlriiii m0 th aS aI im ac sp en wg op aB aT se dn aG aO aN aD bv aY (nI tm.length) kd nu tv), (zaI aS cS 901 fS), (zaI aI cI 901 fI), (zaI aB cB 6 fB), (zaI aT cT 64 fT), (zaI aG cG 9 fG), (zaL aO cO 36 fO), (zaL aN cN 36 fN), (zaI aD cD 36 fD), (zaI aY cY 20 fY)] ++ []) s.heap := hP
  have hD : va_D (fun _ => True) ([(zo14irriiiiiirriirrrrlriiii m0 th aS aI im ac sp en wg op aB aT se dn aG aO aN aD bv aY (nI tm.length) kd nu tv), (zaI aS cS 901 fS), (zaI aI cI 901 fI), (zaI aB cB 6 fB), (zaI aT cT 64 fT), (zaI aG cG 9 fG), (zaL aO cO 36 fO), (zaL aN cN 36 fN), (zaI aD cD 36 fD), (zaI aY cY 20 fY)] ++ []) := hD
  have hwc := bl_mem (G := [(zo14irriiiiiirriirrrrlriiii m0 th aS aI im ac sp en wg op aB aT se dn aG aO aN aD bv aY (nI tm.length) kd nu tv), (zaI aS cS 901 fS), (zaI aI cI 901 fI), (zaI aB cB 6 fB), (zaI aT cT 64 fT), (zaI aG cG 9 fG), (zaL aO cO 36 fO), (zaL aN cN 36 fN), (zaI aD cD 36 fD), (zaI aY cY 20 fY)]) (F := [(zo14irriiiiiirriirrrrlriiii m0 th aS aI im ac sp en wg op aB aT se dn aG aO aN aD bv aY (nI tm.length) kd nu tv), (zaI aS cS 901 fS)]) (T := []) [0, 1] rfl
  have hPc := bl_sub (F := [(zo14irriiiiiirriirrrrlriiii m0 th aS aI im ac sp en wg op aB aT se dn aG aO aN aD bv aY (nI tm.length) kd nu tv), (zaI aS cS 901 fS)]) hP [0, 1] rfl
  refine ⟨_, _, _, c_mSet l dC dI m0 aS aI aB aT aG aO aN aD aY th im ac sp en wg op se dn (nI tm.length) kd nu tv bv cS fS x y s.heap.size , ⟨rfl, rfl, hPc, (K_mem hK hTM).sub [0] rfl, bl_Dsub hD [0, 1] (by decide) rfl⟩, fun o t hQ => ?_, fun q hq => bl_A hwc q hq⟩
  obtain ⟨⟨r, u9, rfl, hpost, hB⟩, hz, hkp⟩ := hQ
  obtain ⟨fS9, rfl⟩ : ∃ z9, z9 = u9 := ⟨_, rfl⟩
  try dsimp only at hpost hB
  obtain ⟨hP1, hK1, hD1⟩ := hB
  obtain ⟨⟨q1, q2, q3⟩, q4⟩ := hpost
  have hJ := bl_gen (F' := [(zo14irriiiiiirriirrrrlriiii m0 th aS aI im ac sp en wg op aB aT se dn aG aO aN aD bv aY (nI tm.length) kd nu tv), (zaI aS cS 901 fS9), (zaI aI cI 901 fI), (zaI aB cB 6 fB), (zaI aT cT 64 fT), (zaI aG cG 9 fG), (zaL aO cO 36 fO), (zaL aN cN 36 fN), (zaI aD cD 36 fD), (zaI aY cY 20 fY)]) hP hD [0, 1] rfl hkp hP1 hD1 [some 0, some 1, none, none, none, none, none, none, none, none] [0, 1] rfl (Or.inl rfl) rfl
  exact ⟨⟨r, (im, (n, wk, kb, stM mi x y, stN sn x y, yk, yv, yc), kvm, tm), rfl, ⟨by rw [← hMV.1, ← hMV.2.1]; exact q1, rfl⟩, _, (fun M9 k9 => k9 aS aI aB aT aG aO aN aD aY th ac sp en wg op se dn ((nI tm.length)) kd nu tv bv cS cI cB cT cG cO cN cD cY (fS9) fI fB fT fG fO fN fD fY rfl hJ.1 ⟨hJ.2.1, fun _ _ _ => trivial⟩ hTM ⟨(show MOK fS9 n wk kb from MOK_rest hMS (fun i hi => q4 i (by omega) (by omega))), (show MV fS9 n (stM mi x y) (stN sn x y) yk yv yc from ⟨by rw [q2, hMV.1], by rw [q3, hMV.2.1], fun k hk => (q4 _ (by omega) (by omega)).trans (hMV.2.2.1 k hk), fun k hk => (q4 _ (by omega) (by omega)).trans (hMV.2.2.2.1 k hk), fun k hk => (q4 _ (by omega) (by omega)).trans (hMV.2.2.2.2 k hk)⟩)⟩ ((show im = 0 ∨ (MOK fI (kvm.1) (kvm.2.1) (kvm.2.2.1) ∧ MV fI (kvm.1) (kvm.2.2.2.1) (kvm.2.2.2.2.1) (kvm.2.2.2.2.2.1) (kvm.2.2.2.2.2.2.1) (kvm.2.2.2.2.2.2.2)) from hMI)) (⟨hrq, rfl, hYm⟩)), hJ.2, rfl⟩, hz, fun q h1 h2 => hkp q h1 (fun h => h2 (bl_A hwc _ h))⟩

set_option maxHeartbeats 4000000 in
set_option maxRecDepth 100000 in
theorem v_edges (l : Launch) (dC : Nat → ClassId) (dI : Nat → Nat → Nat) (sK sV : Nat → Nat) (im : Int32) (vm kvm : VS) (tm : List Nat) (T : List (ClassId × FieldType)) (m0 : Nat) (M : va_W) (x : Int64) (sz : Nat) : Met l yX12_edges wsX12_edges ({ frames := 1, cells := 0, slots := 0, locals := 22 } : Room) (va_Pc [.ref m0, .long x] (fun U => U.heap.size = sz ∧ MI dC dI im vm kvm tm T m0 M U.heap ∧ va_K (dC, dI) vwCl T U ∧ Gs sK sV (va_A M sz) U)) (va_Qi (fun (r : Int32) (u : Int32 × VS × VS × List Nat) => u = (im, vm, kvm, tm)) (fun (u : Int32 × VS × VS × List Nat) (t : State) => ∃ M1 : va_W, MI dC dI u.1 u.2.1 u.2.2.1 u.2.2.2 T m0 M1 t.heap ∧ va_D (va_A M sz) M1 ∧ M1.map (fun c => c.1) = M.map (fun c => c.1)) (va_A M sz)) 0 0 (va_A M sz) := by
  obtain ⟨n, wk, kb, mi, sn, yk, yv, yc⟩ := vm
  refine met_wrap (fun args s hPc => ?_)
  obtain ⟨rfl, rfl, hMM, hK, hE⟩ := hPc
  have hMM0 := hMM
  refine hMM _ (fun aS aI aB aT aG aO aN aD aY th ac sp en wg op se dn rn kd nu tv bv cS cI cB cT cG cO cN cD cY fS fI fB fT fG fO fN fD fY hM hP hD hTM hMS hMI hrn => ?_)
  have hMV : MV fS n mi sn yk yv yc := hMS.2
  have hMS : MOK fS n wk kb := hMS.1
  obtain ⟨hl, tp, hn, zn, h5, z1, hw6, zw, hk12, zk, zb, ht, zt, hHd⟩ := id hMS
  obtain ⟨hrq, rfl, hYm⟩ := hrn
  subst hM
  have hP : va_P (dC, dI) vwCl ([(zo14irriiiiiirriirrrrlriiii m0 th aS aI im ac sp en wg op aB aT se dn aG aO aN aD bv aY (nI tm.length) kd nu tv), (zaI aS cS 901 fS), (zaI aI cI 901 fI), (zaI aB cB 6 fB), (zaI aT cT 64 fT), (zaI aG cG 9 fG), (zaL aO cO 36 fO), (zaL aN cN 36 fN), (zaI aD cD 36 fD), (zaI aY cY 20 fY)] ++ []) s.heap := hP
  have hD : va_D (fun _ => True) ([(zo14irriiiiiirriirrrrlriiii m0 th aS aI im ac sp en wg op aB aT se dn aG aO aN aD bv aY (nI tm.length) kd nu tv), (zaI aS cS 901 fS), (zaI aI cI 901 fI), (zaI aB cB 6 fB), (zaI aT cT 64 fT), (zaI aG cG 9 fG), (zaL aO cO 36 fO), (zaL aN cN 36 fN), (zaI aD cD 36 fD), (zaI aY cY 20 fY)] ++ []) := hD
  have hwc := bl_mem (G := [(zo14irriiiiiirriirrrrlriiii m0 th aS aI im ac sp en wg op aB aT se dn aG aO aN aD bv aY (nI tm.length) kd nu tv), (zaI aS cS 901 fS), (zaI aI cI 901 fI), (zaI aB cB 6 fB), (zaI aT cT 64 fT), (zaI aG cG 9 fG), (zaL aO cO 36 fO), (zaL aN cN 36 fN), (zaI aD cD 36 fD), (zaI aY cY 20 fY)]) (F := [(zo14irriiiiiirriirrrrlriiii m0 th aS aI im ac sp en wg op aB aT se dn aG aO aN aD bv aY (nI tm.length) kd nu tv), (zaI aS cS 901 fS)]) (T := []) [0, 1] rfl
  have hPc := bl_sub (F := [(zo14irriiiiiirriirrrrlriiii m0 th aS aI im ac sp en wg op aB aT se dn aG aO aN aD bv aY (nI tm.length) kd nu tv), (zaI aS cS 901 fS)]) hP [0, 1] rfl
  refine ⟨_, _, _, c_mEdges l dC dI m0 aS aI aB aT aG aO aN aD aY th im ac sp en wg op se dn (nI tm.length) kd nu tv bv cS fS x s.heap.size , ⟨rfl, rfl, hPc, (K_mem hK hTM).sub [0] rfl, bl_Dsub hD [0, 1] (by decide) rfl⟩, fun o t hQ => ?_, fun q hq => bl_A hwc q hq⟩
  obtain ⟨⟨r, u9, rfl, hpost, hB⟩, hz, hkp⟩ := hQ
  obtain ⟨fS9, rfl⟩ : ∃ z9, z9 = u9 := ⟨_, rfl⟩
  try dsimp only at hpost hB
  obtain ⟨hP1, hK1, hD1⟩ := hB
  have hJ := bl_gen (F' := [(zo14irriiiiiirriirrrrlriiii m0 th aS aI im ac sp en wg op aB aT se dn aG aO aN aD bv aY (nI tm.length) kd nu tv), (zaI aS cS 901 fS9), (zaI aI cI 901 fI), (zaI aB cB 6 fB), (zaI aT cT 64 fT), (zaI aG cG 9 fG), (zaL aO cO 36 fO), (zaL aN cN 36 fN), (zaI aD cD 36 fD), (zaI aY cY 20 fY)]) hP hD [0, 1] rfl hkp hP1 hD1 [some 0, some 1, none, none, none, none, none, none, none, none] [0, 1] rfl (Or.inl rfl) rfl
  exact ⟨⟨r, (im, (n, wk, kb, mi, sn, yk, yv, yc), kvm, tm), rfl, rfl, _, (fun M9 k9 => k9 aS aI aB aT aG aO aN aD aY th ac sp en wg op se dn ((nI tm.length)) kd nu tv bv cS cI cB cT cG cO cN cD cY (fS9) fI fB fT fG fO fN fD fY rfl hJ.1 ⟨hJ.2.1, fun _ _ _ => trivial⟩ hTM ⟨(show MOK fS9 n wk kb from MOK_rest hMS (fun i hi => hpost i (by omega))), (show MV fS9 n mi sn yk yv yc from MV_of hMV (fun i hi => hpost i (by omega)))⟩ ((show im = 0 ∨ (MOK fI (kvm.1) (kvm.2.1) (kvm.2.2.1) ∧ MV fI (kvm.1) (kvm.2.2.2.1) (kvm.2.2.2.2.1) (kvm.2.2.2.2.2.1) (kvm.2.2.2.2.2.2.1) (kvm.2.2.2.2.2.2.2)) from hMI)) (⟨hrq, rfl, hYm⟩)), hJ.2, rfl⟩, hz, fun q h1 h2 => hkp q h1 (fun h => h2 (bl_A hwc _ h))⟩

set_option maxHeartbeats 4000000 in
set_option maxRecDepth 100000 in
theorem v_heap (l : Launch) (dC : Nat → ClassId) (dI : Nat → Nat → Nat) (sK sV : Nat → Nat) (im : Int32) (vm kvm : VS) (tm : List Nat) (T : List (ClassId × FieldType)) (m0 : Nat) (M : va_W) (x : Int32) (y : Int32) (z : Int32) (sz : Nat) : Met l yX12_heap wsX12_heap ({ frames := 2, cells := 0, slots := 0, locals := 42 } : Room) (va_Pc [.ref m0, .int x, .int y, .int z] (fun U => U.heap.size = sz ∧ MI dC dI im vm kvm tm T m0 M U.heap ∧ va_K (dC, dI) vwCl T U ∧ Gs sK sV (va_A M sz) U)) (va_Qi (fun (r : Int32) (u : Int32 × VS × VS × List Nat) => r = hpR vm.1 vm.2.2.2.2.2.2.2 x y z ∧ u = (im, hpF vm x y z, kvm, tm)) (fun (u : Int32 × VS × VS × List Nat) (t : State) => ∃ M1 : va_W, MI dC dI u.1 u.2.1 u.2.2.1 u.2.2.2 T m0 M1 t.heap ∧ va_D (va_A M sz) M1 ∧ M1.map (fun c => c.1) = M.map (fun c => c.1)) (va_A M sz)) 0 0 (va_A M sz) := by
  obtain ⟨n, wk, kb, mi, sn, yk, yv, yc⟩ := vm
  refine met_wrap (fun args s hPc => ?_)
  obtain ⟨rfl, rfl, hMM, hK, hE⟩ := hPc
  have hMM0 := hMM
  refine hMM _ (fun aS aI aB aT aG aO aN aD aY th ac sp en wg op se dn rn kd nu tv bv cS cI cB cT cG cO cN cD cY fS fI fB fT fG fO fN fD fY hM hP hD hTM hMS hMI hrn => ?_)
  have hMV : MV fS n mi sn yk yv yc := hMS.2
  have hMS : MOK fS n wk kb := hMS.1
  obtain ⟨hl, tp, hn, zn, h5, z1, hw6, zw, hk12, zk, zb, ht, zt, hHd⟩ := id hMS
  obtain ⟨hrq, rfl, hYm⟩ := hrn
  subst hM
  have hP : va_P (dC, dI) vwCl ([(zo14irriiiiiirriirrrrlriiii m0 th aS aI im ac sp en wg op aB aT se dn aG aO aN aD bv aY (nI tm.length) kd nu tv), (zaI aS cS 901 fS), (zaI aI cI 901 fI), (zaI aB cB 6 fB), (zaI aT cT 64 fT), (zaI aG cG 9 fG), (zaL aO cO 36 fO), (zaL aN cN 36 fN), (zaI aD cD 36 fD), (zaI aY cY 20 fY)] ++ []) s.heap := hP
  have hD : va_D (fun _ => True) ([(zo14irriiiiiirriirrrrlriiii m0 th aS aI im ac sp en wg op aB aT se dn aG aO aN aD bv aY (nI tm.length) kd nu tv), (zaI aS cS 901 fS), (zaI aI cI 901 fI), (zaI aB cB 6 fB), (zaI aT cT 64 fT), (zaI aG cG 9 fG), (zaL aO cO 36 fO), (zaL aN cN 36 fN), (zaI aD cD 36 fD), (zaI aY cY 20 fY)] ++ []) := hD
  have hwc := bl_mem (G := [(zo14irriiiiiirriirrrrlriiii m0 th aS aI im ac sp en wg op aB aT se dn aG aO aN aD bv aY (nI tm.length) kd nu tv), (zaI aS cS 901 fS), (zaI aI cI 901 fI), (zaI aB cB 6 fB), (zaI aT cT 64 fT), (zaI aG cG 9 fG), (zaL aO cO 36 fO), (zaL aN cN 36 fN), (zaI aD cD 36 fD), (zaI aY cY 20 fY)]) (F := [(zo14irriiiiiirriirrrrlriiii m0 th aS aI im ac sp en wg op aB aT se dn aG aO aN aD bv aY (nI tm.length) kd nu tv), (zaI aS cS 901 fS)]) (T := []) [0, 1] rfl
  have hPc := bl_sub (F := [(zo14irriiiiiirriirrrrlriiii m0 th aS aI im ac sp en wg op aB aT se dn aG aO aN aD bv aY (nI tm.length) kd nu tv), (zaI aS cS 901 fS)]) hP [0, 1] rfl
  refine ⟨_, _, _, c_mHeap l dC dI m0 aS aI aB aT aG aO aN aD aY th im ac sp en wg op se dn (nI tm.length) kd nu tv bv cS fS n yc x y z s.heap.size zn hn hMV.2.2.2.2, ⟨rfl, rfl, hPc, (K_mem hK hTM).sub [0] rfl, bl_Dsub hD [0, 1] (by decide) rfl⟩, fun o t hQ => ?_, fun q hq => bl_A hwc q hq⟩
  obtain ⟨⟨r, u9, rfl, hpost, hB⟩, hz, hkp⟩ := hQ
  obtain ⟨fS9, rfl⟩ : ∃ z9, z9 = u9 := ⟨_, rfl⟩
  try dsimp only at hpost hB
  obtain ⟨hP1, hK1, hD1⟩ := hB
  obtain ⟨hr9, hpost⟩ := hpost
  rcases hpost with ⟨hlt, e9⟩ | ⟨hge, h8, e9⟩
  · skip
    obtain rfl := e9.symm
    have hJ := bl_gen (F' := [(zo14irriiiiiirriirrrrlriiii m0 th aS aI im ac sp en wg op aB aT se dn aG aO aN aD bv aY (nI tm.length) kd nu tv), (zaI aS cS 901 fS), (zaI aI cI 901 fI), (zaI aB cB 6 fB), (zaI aT cT 64 fT), (zaI aG cG 9 fG), (zaL aO cO 36 fO), (zaL aN cN 36 fN), (zaI aD cD 36 fD), (zaI aY cY 20 fY)]) hP hD [0, 1] rfl hkp hP1 hD1 [some 0, some 1, none, none, none, none, none, none, none, none] [0, 1] rfl (Or.inl rfl) rfl
    exact ⟨⟨r, (im, (n, wk, kb, mi, sn, yk, yv, yc), kvm, tm), rfl, ⟨hr9, u_eq (hpF_no (hp_lt hr9 hlt))⟩, _, (fun M9 k9 => k9 aS aI aB aT aG aO aN aD aY th ac sp en wg op se dn ((nI tm.length)) kd nu tv bv cS cI cB cT cG cO cN cD cY (fS) fI fB fT fG fO fN fD fY rfl hJ.1 ⟨hJ.2.1, fun _ _ _ => trivial⟩ hTM ⟨(show MOK fS n wk kb from hMS), (show MV fS n mi sn yk yv yc from hMV)⟩ ((show im = 0 ∨ (MOK fI (kvm.1) (kvm.2.1) (kvm.2.2.1) ∧ MV fI (kvm.1) (kvm.2.2.2.1) (kvm.2.2.2.2.1) (kvm.2.2.2.2.2.1) (kvm.2.2.2.2.2.2.1) (kvm.2.2.2.2.2.2.2)) from hMI)) (⟨hrq, rfl, hYm⟩)), hJ.2, rfl⟩, hz, fun q h1 h2 => hkp q h1 (fun h => h2 (bl_A hwc _ h))⟩
  · skip
    subst e9
    have hJ := bl_gen (F' := [(zo14irriiiiiirriirrrrlriiii m0 th aS aI im ac sp en wg op aB aT se dn aG aO aN aD bv aY (nI tm.length) kd nu tv), (zaI aS cS 901 (upd (upd (upd (upd fS (10 + n) x) (19 + n) y) (28 + n) z) 0 (nI (n + 1)))), (zaI aI cI 901 fI), (zaI aB cB 6 fB), (zaI aT cT 64 fT), (zaI aG cG 9 fG), (zaL aO cO 36 fO), (zaL aN cN 36 fN), (zaI aD cD 36 fD), (zaI aY cY 20 fY)]) hP hD [0, 1] rfl hkp hP1 hD1 [some 0, some 1, none, none, none, none, none, none, none, none] [0, 1] rfl (Or.inl rfl) rfl
    exact ⟨⟨r, (im, (n + 1, wk, kb, mi, sn, (fun k => if k = n then x else yk k), (fun k => if k = n then y else yv k), (fun k => if k = n then z else yc k)), kvm, tm), rfl, ⟨hr9, u_eq (hpF_yes (hp_ge hr9 hge))⟩, _, (fun M9 k9 => k9 aS aI aB aT aG aO aN aD aY th ac sp en wg op se dn ((nI tm.length)) kd nu tv bv cS cI cB cT cG cO cN cD cY (upd (upd (upd (upd fS (10 + n) x) (19 + n) y) (28 + n) z) 0 (nI (n + 1))) fI fB fT fG fO fN fD fY rfl hJ.1 ⟨hJ.2.1, fun _ _ _ => trivial⟩ hTM ⟨(show MOK (upd (upd (upd (upd fS (10 + n) x) (19 + n) y) (28 + n) z) 0 (nI (n + 1))) (n + 1) wk kb from MOK_heap hMS (by omega) pk_us (fun i h1 h2 => by rw [pk_un h1, pk_un (by omega), pk_un (by omega), pk_un (by omega)])), (show MV (upd (upd (upd (upd fS (10 + n) x) (19 + n) y) (28 + n) z) 0 (nI (n + 1))) (n + 1) mi sn (fun k => if k = n then x else yk k) (fun k => if k = n then y else yv k) (fun k => if k = n then z else yc k) from MV_put hMV h8)⟩ ((show im = 0 ∨ (MOK fI (kvm.1) (kvm.2.1) (kvm.2.2.1) ∧ MV fI (kvm.1) (kvm.2.2.2.1) (kvm.2.2.2.2.1) (kvm.2.2.2.2.2.1) (kvm.2.2.2.2.2.2.1) (kvm.2.2.2.2.2.2.2)) from hMI)) (⟨hrq, rfl, hYm⟩)), hJ.2, rfl⟩, hz, fun q h1 h2 => hkp q h1 (fun h => h2 (bl_A hwc _ h))⟩

set_option maxHeartbeats 4000000 in
set_option maxRecDepth 100000 in
theorem v_build (l : Launch) (dC : Nat → ClassId) (dI : Nat → Nat → Nat) (sK sV : Nat → Nat) (im : Int32) (vm kvm : VS) (tm : List Nat) (T : List (ClassId × FieldType)) (m0 : Nat) (M : va_W) (x : Int32) (y : Int32) (z : Int32) (sz : Nat) : Met l yX12_build wsX12_build ({ frames := 6, cells := 0, slots := 0, locals := 147 } : Room) (va_Pc [.ref m0, .int x, .int y, .int z] (fun U => U.heap.size = sz ∧ MI dC dI im vm kvm tm T m0 M U.heap ∧ va_K (dC, dI) vwCl T U ∧ Gs sK sV (va_A M sz) U)) (va_Qi (fun (r : Int32) (u : Int32 × VS × VS × List Nat) => u = (im, vm, kvm, tm)) (fun (u : Int32 × VS × VS × List Nat) (t : State) => ∃ M1 : va_W, MI dC dI u.1 u.2.1 u.2.2.1 u.2.2.2 T m0 M1 t.heap ∧ va_D (va_A M sz) M1 ∧ M1.map (fun c => c.1) = M.map (fun c => c.1)) (va_A M sz)) 0 0 (va_A M sz) := by
  obtain ⟨n, wk, kb, mi, sn, yk, yv, yc⟩ := vm
  refine met_wrap (fun args s hPc => ?_)
  obtain ⟨rfl, rfl, hMM, hK, hE⟩ := hPc
  have hMM0 := hMM
  refine hMM _ (fun aS aI aB aT aG aO aN aD aY th ac sp en wg op se dn rn kd nu tv bv cS cI cB cT cG cO cN cD cY fS fI fB fT fG fO fN fD fY hM hP hD hTM hMS hMI hrn => ?_)
  have hMV : MV fS n mi sn yk yv yc := hMS.2
  have hMS : MOK fS n wk kb := hMS.1
  obtain ⟨hl, tp, hn, zn, h5, z1, hw6, zw, hk12, zk, zb, ht, zt, hHd⟩ := id hMS
  obtain ⟨hrq, rfl, hYm⟩ := hrn
  subst hM
  have hP : va_P (dC, dI) vwCl ([(zo14irriiiiiirriirrrrlriiii m0 th aS aI im ac sp en wg op aB aT se dn aG aO aN aD bv aY (nI tm.length) kd nu tv), (zaI aS cS 901 fS), (zaI aI cI 901 fI), (zaI aB cB 6 fB), (zaI aT cT 64 fT), (zaI aG cG 9 fG), (zaL aO cO 36 fO), (zaL aN cN 36 fN), (zaI aD cD 36 fD), (zaI aY cY 20 fY)] ++ []) s.heap := hP
  have hD : va_D (fun _ => True) ([(zo14irriiiiiirriirrrrlriiii m0 th aS aI im ac sp en wg op aB aT se dn aG aO aN aD bv aY (nI tm.length) kd nu tv), (zaI aS cS 901 fS), (zaI aI cI 901 fI), (zaI aB cB 6 fB), (zaI aT cT 64 fT), (zaI aG cG 9 fG), (zaL aO cO 36 fO), (zaL aN cN 36 fN), (zaI aD cD 36 fD), (zaI aY cY 20 fY)] ++ []) := hD
  have hwc := bl_mem (G := [(zo14irriiiiiirriirrrrlriiii m0 th aS aI im ac sp en wg op aB aT se dn aG aO aN aD bv aY (nI tm.length) kd nu tv), (zaI aS cS 901 fS), (zaI aI cI 901 fI), (zaI aB cB 6 fB), (zaI aT cT 64 fT), (zaI aG cG 9 fG), (zaL aO cO 36 fO), (zaL aN cN 36 fN), (zaI aD cD 36 fD), (zaI aY cY 20 fY)]) (F := [(zo14irriiiiiirriirrrrlriiii m0 th aS aI im ac sp en wg op aB aT se dn aG aO aN aD bv aY (nI tm.length) kd nu tv), (zaI aS cS 901 fS), (zaI aB cB 6 fB), (zaI aT cT 64 fT), (zaI aG cG 9 fG)]) (T := []) [0, 1, 3, 4, 5] rfl
  have hPc := bl_sub (F := [(zo14irriiiiiirriirrrrlriiii m0 th aS aI im ac sp en wg op aB aT se dn aG aO aN aD bv aY (nI tm.length) kd nu tv), (zaI aS cS 901 fS), (zaI aB cB 6 fB), (zaI aT cT 64 fT), (zaI aG cG 9 fG)]) hP [0, 1, 3, 4, 5] rfl
  refine ⟨_, _, _, c_mBuild l dC dI m0 aS aI aB aT aG aO aN aD aY th im ac sp en wg op se dn (nI tm.length) kd nu tv bv cS cB cT cG fS fB fT fG n x y z s.heap.size zn hn (hHd.hold h5), ⟨rfl, rfl, hPc, (K_mem hK hTM).sub [0, 2, 3, 4] rfl, bl_Dsub hD [0, 1, 3, 4, 5] (by decide) rfl⟩, fun o t hQ => ?_, fun q hq => bl_A hwc q hq⟩
  obtain ⟨⟨r, u9, rfl, hpost, hB⟩, hz, hkp⟩ := hQ
  obtain ⟨fB9, fT9, se9, dn9, fG9, fS9⟩ := u9
  try dsimp only at hpost hB
  obtain ⟨hP1, hK1, hD1⟩ := hB
  have hJ := bl_gen (F' := [(zo14irriiiiiirriirrrrlriiii m0 th aS aI im ac sp en wg op aB aT se9 dn9 aG aO aN aD bv aY (nI tm.length) kd nu tv), (zaI aS cS 901 fS9), (zaI aI cI 901 fI), (zaI aB cB 6 fB9), (zaI aT cT 64 fT9), (zaI aG cG 9 fG9), (zaL aO cO 36 fO), (zaL aN cN 36 fN), (zaI aD cD 36 fD), (zaI aY cY 20 fY)]) hP hD [0, 1, 3, 4, 5] rfl hkp hP1 hD1 [some 0, some 1, none, some 2, some 3, some 4, none, none, none, none] [0, 1, 3, 4, 5] rfl (Or.inl rfl) rfl
  exact ⟨⟨r, (im, (n, wk, kb, mi, sn, yk, yv, yc), kvm, tm), rfl, rfl, _, (fun M9 k9 => k9 aS aI aB aT aG aO aN aD aY th ac sp en wg op (se9) (dn9) ((nI tm.length)) kd nu tv bv cS cI cB cT cG cO cN cD cY (fS9) fI (fB9) (fT9) (fG9) fO fN fD fY rfl hJ.1 ⟨hJ.2.1, fun _ _ _ => trivial⟩ hTM ⟨(show MOK fS9 n wk kb from MOK_rest hMS (fun i hi => hpost i (by omega) (by omega) (by omega))), (show MV fS9 n mi sn yk yv yc from MV_of hMV (fun i hi => hpost i (by omega) (by omega) (by omega)))⟩ ((show im = 0 ∨ (MOK fI (kvm.1) (kvm.2.1) (kvm.2.2.1) ∧ MV fI (kvm.1) (kvm.2.2.2.1) (kvm.2.2.2.2.1) (kvm.2.2.2.2.2.1) (kvm.2.2.2.2.2.2.1) (kvm.2.2.2.2.2.2.2)) from hMI)) (⟨hrq, rfl, hYm⟩)), hJ.2, rfl⟩, hz, fun q h1 h2 => hkp q h1 (fun h => h2 (bl_A hwc _ h))⟩

set_option maxHeartbeats 4000000 in
set_option maxRecDepth 100000 in
theorem v_hill (l : Launch) (dC : Nat → ClassId) (dI : Nat → Nat → Nat) (sK sV : Nat → Nat) (im : Int32) (vm kvm : VS) (tm : List Nat) (T : List (ClassId × FieldType)) (m0 : Nat) (M : va_W)  (sz : Nat) : Met l yX12_hill wsX12_hill ({ frames := 26, cells := 0, slots := 0, locals := 555 } : Room) (va_Pc [.ref m0] (fun U => U.heap.size = sz ∧ MI dC dI im vm kvm tm T m0 M U.heap ∧ va_K (dC, dI) vwCl T U ∧ Gs sK sV (va_A M sz) U)) (va_Qi (fun (r : Int32) (u : Int32 × VS × VS × List Nat) => u = (im, vm, kvm, tm)) (fun (u : Int32 × VS × VS × List Nat) (t : State) => ∃ M1 : va_W, MI dC dI u.1 u.2.1 u.2.2.1 u.2.2.2 T m0 M1 t.heap ∧ va_D (va_A M sz) M1 ∧ M1.map (fun c => c.1) = M.map (fun c => c.1)) (va_A M sz)) 0 0 (va_A M sz) := by
  obtain ⟨n, wk, kb, mi, sn, yk, yv, yc⟩ := vm
  refine met_wrap (fun args s hPc => ?_)
  obtain ⟨rfl, rfl, hMM, hK, hE⟩ := hPc
  have hMM0 := hMM
  refine hMM _ (fun aS aI aB aT aG aO aN aD aY th ac sp en wg op se dn rn kd nu tv bv cS cI cB cT cG cO cN cD cY fS fI fB fT fG fO fN fD fY hM hP hD hTM hMS hMI hrn => ?_)
  have hMV : MV fS n mi sn yk yv yc := hMS.2
  have hMS : MOK fS n wk kb := hMS.1
  obtain ⟨hl, tp, hn, zn, h5, z1, hw6, zw, hk12, zk, zb, ht, zt, hHd⟩ := id hMS
  obtain ⟨hrq, rfl, hYm⟩ := hrn
  subst hM
  have hP : va_P (dC, dI) vwCl ([(zo14irriiiiiirriirrrrlriiii m0 th aS aI im ac sp en wg op aB aT se dn aG aO aN aD bv aY (nI tm.length) kd nu tv), (zaI aS cS 901 fS), (zaI aI cI 901 fI), (zaI aB cB 6 fB), (zaI aT cT 64 fT), (zaI aG cG 9 fG), (zaL aO cO 36 fO), (zaL aN cN 36 fN), (zaI aD cD 36 fD), (zaI aY cY 20 fY)] ++ []) s.heap := hP
  have hD : va_D (fun _ => True) ([(zo14irriiiiiirriirrrrlriiii m0 th aS aI im ac sp en wg op aB aT se dn aG aO aN aD bv aY (nI tm.length) kd nu tv), (zaI aS cS 901 fS), (zaI aI cI 901 fI), (zaI aB cB 6 fB), (zaI aT cT 64 fT), (zaI aG cG 9 fG), (zaL aO cO 36 fO), (zaL aN cN 36 fN), (zaI aD cD 36 fD), (zaI aY cY 20 fY)] ++ []) := hD
  have hwc := bl_mem (G := [(zo14irriiiiiirriirrrrlriiii m0 th aS aI im ac sp en wg op aB aT se dn aG aO aN aD bv aY (nI tm.length) kd nu tv), (zaI aS cS 901 fS), (zaI aI cI 901 fI), (zaI aB cB 6 fB), (zaI aT cT 64 fT), (zaI aG cG 9 fG), (zaL aO cO 36 fO), (zaL aN cN 36 fN), (zaI aD cD 36 fD), (zaI aY cY 20 fY)]) (F := [(zo14irriiiiiirriirrrrlriiii m0 th aS aI im ac sp en wg op aB aT se dn aG aO aN aD bv aY (nI tm.length) kd nu tv), (zaI aS cS 901 fS)]) (T := []) [0, 1] rfl
  have hPc := bl_sub (F := [(zo14irriiiiiirriirrrrlriiii m0 th aS aI im ac sp en wg op aB aT se dn aG aO aN aD bv aY (nI tm.length) kd nu tv), (zaI aS cS 901 fS)]) hP [0, 1] rfl
  refine ⟨_, _, _, c_mHill l dC dI sK sV m0 aS aI aB aT aG aO aN aD aY th im ac sp en wg op se dn (nI tm.length) kd nu tv bv cS fS hl tp s.heap.size z1 h5 zt ht hHd, ⟨rfl, rfl, hPc, (K_mem hK hTM).sub [0] rfl, bl_Dsub hD [0, 1] (by decide) rfl, hE.call va_S.rf rfl (State.WarmedH.refl s) (bl_A hwc)⟩, fun o t hQ => ?_, fun q hq => bl_A hwc q hq⟩
  obtain ⟨⟨r, u9, rfl, hpost, hB⟩, hz, hkp⟩ := hQ
  obtain ⟨fS9, ac9, sp9, en9, wg9, op9⟩ := u9
  try dsimp only at hpost hB
  obtain ⟨hP1, hK1, hD1⟩ := hB
  have hJ := bl_gen (F' := [(zo14irriiiiiirriirrrrlriiii m0 th aS aI im ac9 sp9 en9 wg9 op9 aB aT se dn aG aO aN aD bv aY (nI tm.length) kd nu tv), (zaI aS cS 901 fS9), (zaI aI cI 901 fI), (zaI aB cB 6 fB), (zaI aT cT 64 fT), (zaI aG cG 9 fG), (zaL aO cO 36 fO), (zaL aN cN 36 fN), (zaI aD cD 36 fD), (zaI aY cY 20 fY)]) hP hD [0, 1] rfl hkp hP1 hD1 [some 0, some 1, none, none, none, none, none, none, none, none] [0, 1] rfl (Or.inl rfl) rfl
  exact ⟨⟨r, (im, (n, wk, kb, mi, sn, yk, yv, yc), kvm, tm), rfl, rfl, _, (fun M9 k9 => k9 aS aI aB aT aG aO aN aD aY th (ac9) (sp9) (en9) (wg9) (op9) se dn ((nI tm.length)) kd nu tv bv cS cI cB cT cG cO cN cD cY (fS9) fI fB fT fG fO fN fD fY rfl hJ.1 ⟨hJ.2.1, fun _ _ _ => trivial⟩ hTM ⟨(show MOK fS9 n wk kb from MOK_hill hMS hpost), (show MV fS9 n mi sn yk yv yc from MV_of hMV (fun i hi => hpost.2.2 i (by omega) (by omega) (by omega) (by omega)))⟩ ((show im = 0 ∨ (MOK fI (kvm.1) (kvm.2.1) (kvm.2.2.1) ∧ MV fI (kvm.1) (kvm.2.2.2.1) (kvm.2.2.2.2.1) (kvm.2.2.2.2.2.1) (kvm.2.2.2.2.2.2.1) (kvm.2.2.2.2.2.2.2)) from hMI)) (⟨hrq, rfl, hYm⟩)), hJ.2, rfl⟩, hz, fun q h1 h2 => hkp q h1 (fun h => h2 (bl_A hwc _ h))⟩

set_option maxHeartbeats 4000000 in
set_option maxRecDepth 100000 in
theorem v_act (l : Launch) (dC : Nat → ClassId) (dI : Nat → Nat → Nat) (sK sV : Nat → Nat) (im : Int32) (vm kvm : VS) (tm : List Nat) (T : List (ClassId × FieldType)) (m0 : Nat) (M : va_W) (x : Int32) (y : Int32) (z : Int32) (sz : Nat) : Met l yX12_act wsX12_act ({ frames := 7, cells := 0, slots := 0, locals := 148 } : Room) (va_Pc [.ref m0, .int x, .int y, .int z] (fun U => U.heap.size = sz ∧ MI dC dI im vm kvm tm T m0 M U.heap ∧ va_K (dC, dI) vwCl T U ∧ Gs sK sV (va_A M sz) U)) (va_Qi (fun (r : Int32) (u : Int32 × VS × VS × List Nat) => r = acR vm.1 vm.2.2.2.2.2.1 vm.2.2.2.2.2.2.1 x y z ∧ u = (im, vm, kvm, acT vm.1 vm.2.2.2.2.2.1 x y)) (fun (u : Int32 × VS × VS × List Nat) (t : State) => ∃ M1 : va_W, MI dC dI u.1 u.2.1 u.2.2.1 u.2.2.2 T m0 M1 t.heap ∧ va_D (va_A M sz) M1 ∧ M1.map (fun c => c.1) = M.map (fun c => c.1)) (va_A M sz)) 0 0 (va_A M sz) := by
  obtain ⟨n, wk, kb, mi, sn, yk, yv, yc⟩ := vm
  refine met_wrap (fun args s hPc => ?_)
  obtain ⟨rfl, rfl, hMM, hK, hE⟩ := hPc
  have hMM0 := hMM
  refine hMM _ (fun aS aI aB aT aG aO aN aD aY th ac sp en wg op se dn rn kd nu tv bv cS cI cB cT cG cO cN cD cY fS fI fB fT fG fO fN fD fY hM hP hD hTM hMS hMI hrn => ?_)
  have hMV : MV fS n mi sn yk yv yc := hMS.2
  have hMS : MOK fS n wk kb := hMS.1
  obtain ⟨hl, tp, hn, zn, h5, z1, hw6, zw, hk12, zk, zb, ht, zt, hHd⟩ := id hMS
  obtain ⟨hrq, rfl, hYm⟩ := hrn
  subst hM
  have hP : va_P (dC, dI) vwCl ([(zo14irriiiiiirriirrrrlriiii m0 th aS aI im ac sp en wg op aB aT se dn aG aO aN aD bv aY (nI tm.length) kd nu tv), (zaI aS cS 901 fS), (zaI aI cI 901 fI), (zaI aB cB 6 fB), (zaI aT cT 64 fT), (zaI aG cG 9 fG), (zaL aO cO 36 fO), (zaL aN cN 36 fN), (zaI aD cD 36 fD), (zaI aY cY 20 fY)] ++ []) s.heap := hP
  have hD : va_D (fun _ => True) ([(zo14irriiiiiirriirrrrlriiii m0 th aS aI im ac sp en wg op aB aT se dn aG aO aN aD bv aY (nI tm.length) kd nu tv), (zaI aS cS 901 fS), (zaI aI cI 901 fI), (zaI aB cB 6 fB), (zaI aT cT 64 fT), (zaI aG cG 9 fG), (zaL aO cO 36 fO), (zaL aN cN 36 fN), (zaI aD cD 36 fD), (zaI aY cY 20 fY)] ++ []) := hD
  have hwc := bl_mem (G := [(zo14irriiiiiirriirrrrlriiii m0 th aS aI im ac sp en wg op aB aT se dn aG aO aN aD bv aY (nI tm.length) kd nu tv), (zaI aS cS 901 fS), (zaI aI cI 901 fI), (zaI aB cB 6 fB), (zaI aT cT 64 fT), (zaI aG cG 9 fG), (zaL aO cO 36 fO), (zaL aN cN 36 fN), (zaI aD cD 36 fD), (zaI aY cY 20 fY)]) (F := [(zo14irriiiiiirriirrrrlriiii m0 th aS aI im ac sp en wg op aB aT se dn aG aO aN aD bv aY (nI tm.length) kd nu tv), (zaI aS cS 901 fS), (zaI aY cY 20 fY)]) (T := []) [0, 1, 9] rfl
  have hPc := bl_sub (F := [(zo14irriiiiiirriirrrrlriiii m0 th aS aI im ac sp en wg op aB aT se dn aG aO aN aD bv aY (nI tm.length) kd nu tv), (zaI aS cS 901 fS), (zaI aY cY 20 fY)]) hP [0, 1, 9] rfl
  refine ⟨_, _, _, c_mAct l dC dI m0 aS aI aB aT aG aO aN aD aY th im ac sp en wg op se dn (nI tm.length) kd nu tv bv cS cY fS fY n yk yv x y z s.heap.size zn hn hMV.2.2.1 hMV.2.2.2.1, ⟨rfl, rfl, hPc, (K_mem hK hTM).sub [0, 8] rfl, bl_Dsub hD [0, 1, 9] (by decide) rfl⟩, fun o t hQ => ?_, fun q hq => bl_A hwc q hq⟩
  obtain ⟨⟨r, u9, rfl, hpost, hB⟩, hz, hkp⟩ := hQ
  obtain ⟨fY9, rn9, kd9, nu9, tv9⟩ := u9
  try dsimp only at hpost hB
  obtain ⟨hP1, hK1, hD1⟩ := hB
  obtain ⟨q1, q2, q3⟩ := hpost
  have hJ := bl_gen (F' := [(zo14irriiiiiirriirrrrlriiii m0 th aS aI im ac sp en wg op aB aT se dn aG aO aN aD bv aY rn9 kd9 nu9 tv9), (zaI aS cS 901 fS), (zaI aI cI 901 fI), (zaI aB cB 6 fB), (zaI aT cT 64 fT), (zaI aG cG 9 fG), (zaL aO cO 36 fO), (zaL aN cN 36 fN), (zaI aD cD 36 fD), (zaI aY cY 20 fY9)]) hP hD [0, 1, 9] rfl hkp hP1 hD1 [some 0, some 1, none, none, none, none, none, none, none, some 2] [0, 1, 9] rfl (Or.inl rfl) rfl
  exact ⟨⟨r, (im, (n, wk, kb, mi, sn, yk, yv, yc), kvm, acT n yk x y), rfl, ⟨q1, rfl⟩, _, (fun M9 k9 => k9 aS aI aB aT aG aO aN aD aY th ac sp en wg op se dn (rn9) (kd9) (nu9) (tv9) bv cS cI cB cT cG cO cN cD cY fS fI fB fT fG fO fN fD (fY9) rfl hJ.1 ⟨hJ.2.1, fun _ _ _ => trivial⟩ hTM ⟨(show MOK fS n wk kb from hMS), (show MV fS n mi sn yk yv yc from hMV)⟩ ((show im = 0 ∨ (MOK fI (kvm.1) (kvm.2.1) (kvm.2.2.1) ∧ MV fI (kvm.1) (kvm.2.2.2.1) (kvm.2.2.2.2.1) (kvm.2.2.2.2.2.1) (kvm.2.2.2.2.2.2.1) (kvm.2.2.2.2.2.2.2)) from hMI)) (⟨Nat.le_trans acT_le (by omega), q2, q3⟩)), hJ.2, rfl⟩, hz, fun q h1 h2 => hkp q h1 (fun h => h2 (bl_A hwc _ h))⟩

set_option maxHeartbeats 4000000 in
set_option maxRecDepth 100000 in
theorem v_trace (l : Launch) (dC : Nat → ClassId) (dI : Nat → Nat → Nat) (sK sV : Nat → Nat) (im : Int32) (vm kvm : VS) (tm : List Nat) (T : List (ClassId × FieldType)) (m0 : Nat) (M : va_W) (x : Int32) (sz : Nat) : Met l yX12_trace wsX12_trace ({ frames := 1, cells := 0, slots := 0, locals := 22 } : Room) (va_Pc [.ref m0, .int x] (fun U => U.heap.size = sz ∧ MI dC dI im vm kvm tm T m0 M U.heap ∧ va_K (dC, dI) vwCl T U ∧ Gs sK sV (va_A M sz) U)) (va_Qi (fun (r : Int32) (u : Int32 × VS × VS × List Nat) => r = trR tm x ∧ u = (im, vm, kvm, tm)) (fun (u : Int32 × VS × VS × List Nat) (t : State) => ∃ M1 : va_W, MI dC dI u.1 u.2.1 u.2.2.1 u.2.2.2 T m0 M1 t.heap ∧ va_D (va_A M sz) M1 ∧ M1.map (fun c => c.1) = M.map (fun c => c.1)) (va_A M sz)) 0 0 (va_A M sz) := by
  obtain ⟨n, wk, kb, mi, sn, yk, yv, yc⟩ := vm
  refine met_wrap (fun args s hPc => ?_)
  obtain ⟨rfl, rfl, hMM, hK, hE⟩ := hPc
  have hMM0 := hMM
  refine hMM _ (fun aS aI aB aT aG aO aN aD aY th ac sp en wg op se dn rn kd nu tv bv cS cI cB cT cG cO cN cD cY fS fI fB fT fG fO fN fD fY hM hP hD hTM hMS hMI hrn => ?_)
  have hMV : MV fS n mi sn yk yv yc := hMS.2
  have hMS : MOK fS n wk kb := hMS.1
  obtain ⟨hl, tp, hn, zn, h5, z1, hw6, zw, hk12, zk, zb, ht, zt, hHd⟩ := id hMS
  obtain ⟨hrq, rfl, hYm⟩ := hrn
  subst hM
  have hP : va_P (dC, dI) vwCl ([(zo14irriiiiiirriirrrrlriiii m0 th aS aI im ac sp en wg op aB aT se dn aG aO aN aD bv aY (nI tm.length) kd nu tv), (zaI aS cS 901 fS), (zaI aI cI 901 fI), (zaI aB cB 6 fB), (zaI aT cT 64 fT), (zaI aG cG 9 fG), (zaL aO cO 36 fO), (zaL aN cN 36 fN), (zaI aD cD 36 fD), (zaI aY cY 20 fY)] ++ []) s.heap := hP
  have hD : va_D (fun _ => True) ([(zo14irriiiiiirriirrrrlriiii m0 th aS aI im ac sp en wg op aB aT se dn aG aO aN aD bv aY (nI tm.length) kd nu tv), (zaI aS cS 901 fS), (zaI aI cI 901 fI), (zaI aB cB 6 fB), (zaI aT cT 64 fT), (zaI aG cG 9 fG), (zaL aO cO 36 fO), (zaL aN cN 36 fN), (zaI aD cD 36 fD), (zaI aY cY 20 fY)] ++ []) := hD
  have hwc := bl_mem (G := [(zo14irriiiiiirriirrrrlriiii m0 th aS aI im ac sp en wg op aB aT se dn aG aO aN aD bv aY (nI tm.length) kd nu tv), (zaI aS cS 901 fS), (zaI aI cI 901 fI), (zaI aB cB 6 fB), (zaI aT cT 64 fT), (zaI aG cG 9 fG), (zaL aO cO 36 fO), (zaL aN cN 36 fN), (zaI aD cD 36 fD), (zaI aY cY 20 fY)]) (F := [(zo14irriiiiiirriirrrrlriiii m0 th aS aI im ac sp en wg op aB aT se dn aG aO aN aD bv aY (nI tm.length) kd nu tv), (zaI aY cY 20 fY)]) (T := []) [0, 9] rfl
  have hPc := bl_sub (F := [(zo14irriiiiiirriirrrrlriiii m0 th aS aI im ac sp en wg op aB aT se dn aG aO aN aD bv aY (nI tm.length) kd nu tv), (zaI aY cY 20 fY)]) hP [0, 9] rfl
  refine ⟨_, _, _, c_mTrace l dC dI m0 aS aI aB aT aG aO aN aD aY th im ac sp en wg op se dn (nI tm.length) kd nu tv bv cY fY tm x (by omega) hYm, ⟨rfl, hPc, (K_mem hK hTM).sub [8] rfl⟩, fun o t hQ => ?_, fun q hq => hq.elim⟩
  obtain ⟨r, rfl, hpost, hh⟩ := hQ
  exact ⟨⟨r, (im, (n, wk, kb, mi, sn, yk, yv, yc), kvm, tm), rfl, ⟨hpost, rfl⟩, _, by rw [hh]; exact hMM0, ⟨hD.1, fun k q hq => Or.inl ⟨k, q.2, hq⟩⟩, rfl⟩, by rw [hh]; exact Nat.le_refl _, fun q _ _ => by rw [hh]⟩

set_option maxHeartbeats 4000000 in
set_option maxRecDepth 100000 in
theorem v_image (l : Launch) (dC : Nat → ClassId) (dI : Nat → Nat → Nat) (sK sV : Nat → Nat) (im : Int32) (vm kvm : VS) (tm : List Nat) (T : List (ClassId × FieldType)) (m0 : Nat) (M : va_W)  (sz : Nat) : Met l yX12_image wsX12_image ({ frames := 0, cells := 0, slots := 0, locals := 0 } : Room) (va_Pc [.ref m0] (fun U => U.heap.size = sz ∧ MI dC dI im vm kvm tm T m0 M U.heap ∧ va_K (dC, dI) vwCl T U ∧ Gs sK sV (va_A M sz) U)) (va_Qi (fun (r : Int32) (u : Int32 × VS × VS × List Nat) => r = nI vm.1 ∧ u = (1, vm, vm, tm)) (fun (u : Int32 × VS × VS × List Nat) (t : State) => ∃ M1 : va_W, MI dC dI u.1 u.2.1 u.2.2.1 u.2.2.2 T m0 M1 t.heap ∧ va_D (va_A M sz) M1 ∧ M1.map (fun c => c.1) = M.map (fun c => c.1)) (va_A M sz)) 0 0 (va_A M sz) := by
  obtain ⟨n, wk, kb, mi, sn, yk, yv, yc⟩ := vm
  refine met_wrap (fun args s hPc => ?_)
  obtain ⟨rfl, rfl, hMM, hK, hE⟩ := hPc
  have hMM0 := hMM
  refine hMM _ (fun aS aI aB aT aG aO aN aD aY th ac sp en wg op se dn rn kd nu tv bv cS cI cB cT cG cO cN cD cY fS fI fB fT fG fO fN fD fY hM hP hD hTM hMS hMI hrn => ?_)
  have hMV : MV fS n mi sn yk yv yc := hMS.2
  have hMS : MOK fS n wk kb := hMS.1
  obtain ⟨hl, tp, hn, zn, h5, z1, hw6, zw, hk12, zk, zb, ht, zt, hHd⟩ := id hMS
  obtain ⟨hrq, rfl, hYm⟩ := hrn
  subst hM
  have hP : va_P (dC, dI) vwCl ([(zo14irriiiiiirriirrrrlriiii m0 th aS aI im ac sp en wg op aB aT se dn aG aO aN aD bv aY (nI tm.length) kd nu tv), (zaI aS cS 901 fS), (zaI aI cI 901 fI), (zaI aB cB 6 fB), (zaI aT cT 64 fT), (zaI aG cG 9 fG), (zaL aO cO 36 fO), (zaL aN cN 36 fN), (zaI aD cD 36 fD), (zaI aY cY 20 fY)] ++ []) s.heap := hP
  have hD : va_D (fun _ => True) ([(zo14irriiiiiirriirrrrlriiii m0 th aS aI im ac sp en wg op aB aT se dn aG aO aN aD bv aY (nI tm.length) kd nu tv), (zaI aS cS 901 fS), (zaI aI cI 901 fI), (zaI aB cB 6 fB), (zaI aT cT 64 fT), (zaI aG cG 9 fG), (zaL aO cO 36 fO), (zaL aN cN 36 fN), (zaI aD cD 36 fD), (zaI aY cY 20 fY)] ++ []) := hD
  have hwc := bl_mem (G := [(zo14irriiiiiirriirrrrlriiii m0 th aS aI im ac sp en wg op aB aT se dn aG aO aN aD bv aY (nI tm.length) kd nu tv), (zaI aS cS 901 fS), (zaI aI cI 901 fI), (zaI aB cB 6 fB), (zaI aT cT 64 fT), (zaI aG cG 9 fG), (zaL aO cO 36 fO), (zaL aN cN 36 fN), (zaI aD cD 36 fD), (zaI aY cY 20 fY)]) (F := [(zo14irriiiiiirriirrrrlriiii m0 th aS aI im ac sp en wg op aB aT se dn aG aO aN aD bv aY (nI tm.length) kd nu tv), (zaI aS cS 901 fS), (zaI aI cI 901 fI)]) (T := []) [0, 1, 2] rfl
  have hPc := bl_sub (F := [(zo14irriiiiiirriirrrrlriiii m0 th aS aI im ac sp en wg op aB aT se dn aG aO aN aD bv aY (nI tm.length) kd nu tv), (zaI aS cS 901 fS), (zaI aI cI 901 fI)]) hP [0, 1, 2] rfl
  refine ⟨_, _, _, c_mImage l dC dI m0 aS aI aB aT aG aO aN aD aY th im ac sp en wg op se dn (nI tm.length) kd nu tv bv cS cI fS fI s.heap.size , ⟨rfl, rfl, hPc, (K_mem hK hTM).sub [0, 1] rfl, bl_Dsub hD [0, 1, 2] (by decide) rfl⟩, fun o t hQ => ?_, fun q hq => bl_A hwc q hq⟩
  obtain ⟨⟨r, u9, rfl, hpost, hB⟩, hz, hkp⟩ := hQ
  obtain ⟨fI9, im9⟩ := u9
  try dsimp only at hpost hB
  obtain ⟨hP1, hK1, hD1⟩ := hB
  obtain ⟨er, e1, q2⟩ := hpost
  obtain rfl := e1
  have hJ := bl_gen (F' := [(zo14irriiiiiirriirrrrlriiii m0 th aS aI 1 ac sp en wg op aB aT se dn aG aO aN aD bv aY (nI tm.length) kd nu tv), (zaI aS cS 901 fS), (zaI aI cI 901 fI9), (zaI aB cB 6 fB), (zaI aT cT 64 fT), (zaI aG cG 9 fG), (zaL aO cO 36 fO), (zaL aN cN 36 fN), (zaI aD cD 36 fD), (zaI aY cY 20 fY)]) hP hD [0, 1, 2] rfl hkp hP1 hD1 [some 0, some 1, some 2, none, none, none, none, none, none, none] [0, 1, 2] rfl (Or.inl rfl) rfl
  exact ⟨⟨r, (1, (n, wk, kb, mi, sn, yk, yv, yc), (n, wk, kb, mi, sn, yk, yv, yc), tm), rfl, ⟨er.trans zn, rfl⟩, _, (fun M9 k9 => k9 aS aI aB aT aG aO aN aD aY th ac sp en wg op se dn ((nI tm.length)) kd nu tv bv cS cI cB cT cG cO cN cD cY fS (fI9) fB fT fG fO fN fD fY rfl hJ.1 ⟨hJ.2.1, fun _ _ _ => trivial⟩ hTM ⟨(show MOK fS n wk kb from hMS), (show MV fS n mi sn yk yv yc from hMV)⟩ ((show 1 = 0 ∨ (MOK fI9 n wk kb ∧ MV fI9 n mi sn yk yv yc) from Or.inr ⟨MOK_rest hMS (fun i hi => q2 i (by omega)), MV_of hMV (fun i hi => q2 i (by omega))⟩)) (⟨hrq, rfl, hYm⟩)), hJ.2, rfl⟩, hz, fun q h1 h2 => hkp q h1 (fun h => h2 (bl_A hwc _ h))⟩

set_option maxHeartbeats 4000000 in
set_option maxRecDepth 100000 in
theorem v_undo (l : Launch) (dC : Nat → ClassId) (dI : Nat → Nat → Nat) (sK sV : Nat → Nat) (im : Int32) (vm kvm : VS) (tm : List Nat) (T : List (ClassId × FieldType)) (m0 : Nat) (M : va_W)  (sz : Nat) : Met l yX12_undo wsX12_undo ({ frames := 0, cells := 0, slots := 0, locals := 0 } : Room) (va_Pc [.ref m0] (fun U => U.heap.size = sz ∧ MI dC dI im vm kvm tm T m0 M U.heap ∧ va_K (dC, dI) vwCl T U ∧ Gs sK sV (va_A M sz) U)) (va_Qi (fun (r : Int32) (u : Int32 × VS × VS × List Nat) => (im = 0 ∧ r = -3 ∧ u = (im, vm, kvm, tm)) ∨ (¬ im = 0 ∧ r = nI kvm.1 ∧ u = (im, kvm, kvm, tm))) (fun (u : Int32 × VS × VS × List Nat) (t : State) => ∃ M1 : va_W, MI dC dI u.1 u.2.1 u.2.2.1 u.2.2.2 T m0 M1 t.heap ∧ va_D (va_A M sz) M1 ∧ M1.map (fun c => c.1) = M.map (fun c => c.1)) (va_A M sz)) 0 0 (va_A M sz) := by
  obtain ⟨n, wk, kb, mi, sn, yk, yv, yc⟩ := vm
  refine met_wrap (fun args s hPc => ?_)
  obtain ⟨rfl, rfl, hMM, hK, hE⟩ := hPc
  have hMM0 := hMM
  refine hMM _ (fun aS aI aB aT aG aO aN aD aY th ac sp en wg op se dn rn kd nu tv bv cS cI cB cT cG cO cN cD cY fS fI fB fT fG fO fN fD fY hM hP hD hTM hMS hMI hrn => ?_)
  have hMV : MV fS n mi sn yk yv yc := hMS.2
  have hMS : MOK fS n wk kb := hMS.1
  obtain ⟨hl, tp, hn, zn, h5, z1, hw6, zw, hk12, zk, zb, ht, zt, hHd⟩ := id hMS
  obtain ⟨hrq, rfl, hYm⟩ := hrn
  subst hM
  have hP : va_P (dC, dI) vwCl ([(zo14irriiiiiirriirrrrlriiii m0 th aS aI im ac sp en wg op aB aT se dn aG aO aN aD bv aY (nI tm.length) kd nu tv), (zaI aS cS 901 fS), (zaI aI cI 901 fI), (zaI aB cB 6 fB), (zaI aT cT 64 fT), (zaI aG cG 9 fG), (zaL aO cO 36 fO), (zaL aN cN 36 fN), (zaI aD cD 36 fD), (zaI aY cY 20 fY)] ++ []) s.heap := hP
  have hD : va_D (fun _ => True) ([(zo14irriiiiiirriirrrrlriiii m0 th aS aI im ac sp en wg op aB aT se dn aG aO aN aD bv aY (nI tm.length) kd nu tv), (zaI aS cS 901 fS), (zaI aI cI 901 fI), (zaI aB cB 6 fB), (zaI aT cT 64 fT), (zaI aG cG 9 fG), (zaL aO cO 36 fO), (zaL aN cN 36 fN), (zaI aD cD 36 fD), (zaI aY cY 20 fY)] ++ []) := hD
  have hwc := bl_mem (G := [(zo14irriiiiiirriirrrrlriiii m0 th aS aI im ac sp en wg op aB aT se dn aG aO aN aD bv aY (nI tm.length) kd nu tv), (zaI aS cS 901 fS), (zaI aI cI 901 fI), (zaI aB cB 6 fB), (zaI aT cT 64 fT), (zaI aG cG 9 fG), (zaL aO cO 36 fO), (zaL aN cN 36 fN), (zaI aD cD 36 fD), (zaI aY cY 20 fY)]) (F := [(zo14irriiiiiirriirrrrlriiii m0 th aS aI im ac sp en wg op aB aT se dn aG aO aN aD bv aY (nI tm.length) kd nu tv), (zaI aS cS 901 fS), (zaI aI cI 901 fI)]) (T := []) [0, 1, 2] rfl
  have hPc := bl_sub (F := [(zo14irriiiiiirriirrrrlriiii m0 th aS aI im ac sp en wg op aB aT se dn aG aO aN aD bv aY (nI tm.length) kd nu tv), (zaI aS cS 901 fS), (zaI aI cI 901 fI)]) hP [0, 1, 2] rfl
  refine ⟨_, _, _, c_mUndo l dC dI m0 aS aI aB aT aG aO aN aD aY th im ac sp en wg op se dn (nI tm.length) kd nu tv bv cS cI fS fI s.heap.size , ⟨rfl, rfl, hPc, (K_mem hK hTM).sub [0, 1] rfl, bl_Dsub hD [0, 1, 2] (by decide) rfl⟩, fun o t hQ => ?_, fun q hq => bl_A hwc q hq⟩
  obtain ⟨⟨r, u9, rfl, hpost, hB⟩, hz, hkp⟩ := hQ
  obtain ⟨fS9, rfl⟩ : ∃ z9, z9 = u9 := ⟨_, rfl⟩
  try dsimp only at hpost hB
  obtain ⟨hP1, hK1, hD1⟩ := hB
  rcases hpost with ⟨him, er, e1⟩ | ⟨him, er, q2⟩
  · skip
    obtain rfl := e1.symm
    have hJ := bl_gen (F' := [(zo14irriiiiiirriirrrrlriiii m0 th aS aI im ac sp en wg op aB aT se dn aG aO aN aD bv aY (nI tm.length) kd nu tv), (zaI aS cS 901 fS), (zaI aI cI 901 fI), (zaI aB cB 6 fB), (zaI aT cT 64 fT), (zaI aG cG 9 fG), (zaL aO cO 36 fO), (zaL aN cN 36 fN), (zaI aD cD 36 fD), (zaI aY cY 20 fY)]) hP hD [0, 1, 2] rfl hkp hP1 hD1 [some 0, some 1, some 2, none, none, none, none, none, none, none] [0, 1, 2] rfl (Or.inl rfl) rfl
    exact ⟨⟨r, (im, (n, wk, kb, mi, sn, yk, yv, yc), kvm, tm), rfl, Or.inl ⟨him, er, rfl⟩, _, (fun M9 k9 => k9 aS aI aB aT aG aO aN aD aY th ac sp en wg op se dn ((nI tm.length)) kd nu tv bv cS cI cB cT cG cO cN cD cY (fS) fI fB fT fG fO fN fD fY rfl hJ.1 ⟨hJ.2.1, fun _ _ _ => trivial⟩ hTM ⟨(show MOK fS n wk kb from hMS), (show MV fS n mi sn yk yv yc from hMV)⟩ ((show im = 0 ∨ (MOK fI (kvm.1) (kvm.2.1) (kvm.2.2.1) ∧ MV fI (kvm.1) (kvm.2.2.2.1) (kvm.2.2.2.2.1) (kvm.2.2.2.2.2.1) (kvm.2.2.2.2.2.2.1) (kvm.2.2.2.2.2.2.2)) from hMI)) (⟨hrq, rfl, hYm⟩)), hJ.2, rfl⟩, hz, fun q h1 h2 => hkp q h1 (fun h => h2 (bl_A hwc _ h))⟩
  · skip
    obtain ⟨hI9, hV9⟩ := hMI.resolve_left him
    have hn9 := (MOK_n hI9).2
    have hJ := bl_gen (F' := [(zo14irriiiiiirriirrrrlriiii m0 th aS aI im ac sp en wg op aB aT se dn aG aO aN aD bv aY (nI tm.length) kd nu tv), (zaI aS cS 901 fS9), (zaI aI cI 901 fI), (zaI aB cB 6 fB), (zaI aT cT 64 fT), (zaI aG cG 9 fG), (zaL aO cO 36 fO), (zaL aN cN 36 fN), (zaI aD cD 36 fD), (zaI aY cY 20 fY)]) hP hD [0, 1, 2] rfl hkp hP1 hD1 [some 0, some 1, some 2, none, none, none, none, none, none, none] [0, 1, 2] rfl (Or.inl rfl) rfl
    exact ⟨⟨r, (im, kvm, kvm, tm), rfl, Or.inr ⟨him, er.trans (MOK_n hI9).1, rfl⟩, _, (fun M9 k9 => k9 aS aI aB aT aG aO aN aD aY th ac sp en wg op se dn ((nI tm.length)) kd nu tv bv cS cI cB cT cG cO cN cD cY (fS9) fI fB fT fG fO fN fD fY rfl hJ.1 ⟨hJ.2.1, fun _ _ _ => trivial⟩ hTM ⟨(show MOK fS9 (kvm.1) (kvm.2.1) (kvm.2.2.1) from MOK_rest hI9 (fun i hi => q2 i (by omega))), (show MV fS9 (kvm.1) (kvm.2.2.2.1) (kvm.2.2.2.2.1) (kvm.2.2.2.2.2.1) (kvm.2.2.2.2.2.2.1) (kvm.2.2.2.2.2.2.2) from MV_of hV9 (fun i hi => q2 i (by omega)))⟩ ((show im = 0 ∨ (MOK fI (kvm.1) (kvm.2.1) (kvm.2.2.1) ∧ MV fI (kvm.1) (kvm.2.2.2.1) (kvm.2.2.2.2.1) (kvm.2.2.2.2.2.1) (kvm.2.2.2.2.2.2.1) (kvm.2.2.2.2.2.2.2)) from hMI)) (⟨hrq, rfl, hYm⟩)), hJ.2, rfl⟩, hz, fun q h1 h2 => hkp q h1 (fun h => h2 (bl_A hwc _ h))⟩
end
