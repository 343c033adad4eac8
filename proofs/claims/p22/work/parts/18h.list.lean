theorem ggX11_trace_Jx4a65c_size_8abf5 : GoodIn wsX11_trace wsJx4a65c_size_8abf5 := gga_of 934 rfl rfl rfl
theorem gX11_trace_Jx4a65c_size_8abf5 : GoodIn wsX11_trace (wsV RX11 243 RJx4a65c yJx4a65c_size_8abf5 wsJx4a65c_size_8abf5) := goodIn_app (ggh_of [1083, 932, 933, 71] rfl rfl rfl) ggX11_trace_Jx4a65c_size_8abf5
theorem ggX11_trace_Jx4a65c_get_915e3 : GoodIn wsX11_trace wsJx4a65c_get_915e3 := gga_of 1087 rfl rfl rfl
theorem gX11_trace_Jx4a65c_get_915e3 : GoodIn wsX11_trace (wsV RX11 247 RJx4a65c yJx4a65c_get_915e3 wsJx4a65c_get_915e3) := goodIn_app (ggh_of [1084, 1085, 1086, 71] rfl rfl rfl) ggX11_trace_Jx4a65c_get_915e3
theorem ggX11_trace_J6_intValue_8abf5 : GoodIn wsX11_trace wsJ6_intValue_8abf5 := gga_of 1100 rfl rfl rfl
theorem gX11_trace_J6_intValue_8abf5 : GoodIn wsX11_trace (wsV RX11 253 RJ6 yJ6_intValue_8abf5 wsJ6_intValue_8abf5) := goodIn_app (ggh_of [1097, 1098, 1099, 87] rfl rfl rfl) ggX11_trace_J6_intValue_8abf5
theorem ggX11_count_Jx4a65c_size_8abf5 : GoodIn wsX11_count wsJx4a65c_size_8abf5 := gga_of 934 rfl rfl rfl
theorem gX11_count_Jx4a65c_size_8abf5 : GoodIn wsX11_count (wsV RX11 243 RJx4a65c yJx4a65c_size_8abf5 wsJx4a65c_size_8abf5) := goodIn_app (ggh_of [1083, 932, 933, 71] rfl rfl rfl) ggX11_count_Jx4a65c_size_8abf5
noncomputable def dk18hlist_cX11_trace_0 : List (Nat × Instr × Nat) := [(0, .iload_n 1, 1), (1, .ifCond .lt 31, 3), (32, .iconst (-1), 1), (33, .ireturn, 1), (4, .iload_n 1, 1), (5, .aload_n 0, 1), (6, .getfield 49, 3), (9, .invokevirtual 243, 3), (12, .if_icmp .ge 20, 3), (15, .aload_n 0, 1), (16, .getfield 49, 3), (19, .iload_n 1, 1), (20, .invokevirtual 247, 3), (23, .checkcast 251, 3), (26, .invokevirtual 253, 3), (29, .goto 4, 3)]
set_option maxRecDepth 100000 in
theorem dk18hlist_cX11_trace_0_a : dkA cX11_trace dk18hlist_cX11_trace_0 = true := by decide +kernel
theorem dX11_trace_0 : decode cX11_trace 0 = .ok (.iload_n 1, 1) := dkAt dk18hlist_cX11_trace_0_a 0 rfl
theorem dX11_trace_1 : decode cX11_trace 1 = .ok (.ifCond .lt 31, 3) := dkAt dk18hlist_cX11_trace_0_a 1 rfl
theorem dX11_trace_32 : decode cX11_trace 32 = .ok (.iconst (-1), 1) := dkAt dk18hlist_cX11_trace_0_a 2 rfl
theorem dX11_trace_33 : decode cX11_trace 33 = .ok (.ireturn, 1) := dkAt dk18hlist_cX11_trace_0_a 3 rfl
theorem dX11_trace_4 : decode cX11_trace 4 = .ok (.iload_n 1, 1) := dkAt dk18hlist_cX11_trace_0_a 4 rfl
theorem dX11_trace_5 : decode cX11_trace 5 = .ok (.aload_n 0, 1) := dkAt dk18hlist_cX11_trace_0_a 5 rfl
theorem dX11_trace_6 : decode cX11_trace 6 = .ok (.getfield 49, 3) := dkAt dk18hlist_cX11_trace_0_a 6 rfl
theorem dX11_trace_9 : decode cX11_trace 9 = .ok (.invokevirtual 243, 3) := dkAt dk18hlist_cX11_trace_0_a 7 rfl
theorem dX11_trace_12 : decode cX11_trace 12 = .ok (.if_icmp .ge 20, 3) := dkAt dk18hlist_cX11_trace_0_a 8 rfl
theorem dX11_trace_15 : decode cX11_trace 15 = .ok (.aload_n 0, 1) := dkAt dk18hlist_cX11_trace_0_a 9 rfl
theorem dX11_trace_16 : decode cX11_trace 16 = .ok (.getfield 49, 3) := dkAt dk18hlist_cX11_trace_0_a 10 rfl
theorem dX11_trace_19 : decode cX11_trace 19 = .ok (.iload_n 1, 1) := dkAt dk18hlist_cX11_trace_0_a 11 rfl
theorem dX11_trace_20 : decode cX11_trace 20 = .ok (.invokevirtual 247, 3) := dkAt dk18hlist_cX11_trace_0_a 12 rfl
theorem dX11_trace_23 : decode cX11_trace 23 = .ok (.checkcast 251, 3) := dkAt dk18hlist_cX11_trace_0_a 13 rfl
theorem dX11_trace_26 : decode cX11_trace 26 = .ok (.invokevirtual 253, 3) := dkAt dk18hlist_cX11_trace_0_a 14 rfl
theorem dX11_trace_29 : decode cX11_trace 29 = .ok (.goto 4, 3) := dkAt dk18hlist_cX11_trace_0_a 15 rfl
noncomputable def dk18hlist_cX11_count_0 : List (Nat × Instr × Nat) := [(0, .iload_n 1, 1), (1, .tableswitch 87 0 5 #[39, 47, 55, 63, 71, 79], 39), (40, .aload_n 0, 1), (41, .getfield 14, 3), (44, .getfield 101, 3), (47, .ireturn, 1), (48, .aload_n 0, 1), (49, .getfield 14, 3), (52, .getfield 61, 3), (55, .ireturn, 1), (56, .aload_n 0, 1), (57, .getfield 14, 3), (60, .getfield 169, 3), (63, .ireturn, 1), (64, .aload_n 0, 1), (65, .getfield 14, 3), (68, .getfield 221, 3), (71, .ireturn, 1), (72, .aload_n 0, 1), (73, .getfield 14, 3), (76, .getfield 53, 3), (79, .ireturn, 1), (80, .aload_n 0, 1), (81, .getfield 49, 3), (84, .invokevirtual 243, 3), (87, .ireturn, 1), (88, .iconst (-1), 1), (89, .ireturn, 1)]
set_option maxRecDepth 100000 in
theorem dk18hlist_cX11_count_0_a : dkA cX11_count dk18hlist_cX11_count_0 = true := by decide +kernel
theorem dX11_count_0 : decode cX11_count 0 = .ok (.iload_n 1, 1) := dkAt dk18hlist_cX11_count_0_a 0 rfl
theorem dX11_count_1 : decode cX11_count 1 = .ok (.tableswitch 87 0 5 #[39, 47, 55, 63, 71, 79], 39) := dkAt dk18hlist_cX11_count_0_a 1 rfl
theorem dX11_count_40 : decode cX11_count 40 = .ok (.aload_n 0, 1) := dkAt dk18hlist_cX11_count_0_a 2 rfl
theorem dX11_count_41 : decode cX11_count 41 = .ok (.getfield 14, 3) := dkAt dk18hlist_cX11_count_0_a 3 rfl
theorem dX11_count_44 : decode cX11_count 44 = .ok (.getfield 101, 3) := dkAt dk18hlist_cX11_count_0_a 4 rfl
theorem dX11_count_47 : decode cX11_count 47 = .ok (.ireturn, 1) := dkAt dk18hlist_cX11_count_0_a 5 rfl
theorem dX11_count_48 : decode cX11_count 48 = .ok (.aload_n 0, 1) := dkAt dk18hlist_cX11_count_0_a 6 rfl
theorem dX11_count_49 : decode cX11_count 49 = .ok (.getfield 14, 3) := dkAt dk18hlist_cX11_count_0_a 7 rfl
theorem dX11_count_52 : decode cX11_count 52 = .ok (.getfield 61, 3) := dkAt dk18hlist_cX11_count_0_a 8 rfl
theorem dX11_count_55 : decode cX11_count 55 = .ok (.ireturn, 1) := dkAt dk18hlist_cX11_count_0_a 9 rfl
theorem dX11_count_56 : decode cX11_count 56 = .ok (.aload_n 0, 1) := dkAt dk18hlist_cX11_count_0_a 10 rfl
theorem dX11_count_57 : decode cX11_count 57 = .ok (.getfield 14, 3) := dkAt dk18hlist_cX11_count_0_a 11 rfl
theorem dX11_count_60 : decode cX11_count 60 = .ok (.getfield 169, 3) := dkAt dk18hlist_cX11_count_0_a 12 rfl
theorem dX11_count_63 : decode cX11_count 63 = .ok (.ireturn, 1) := dkAt dk18hlist_cX11_count_0_a 13 rfl
theorem dX11_count_64 : decode cX11_count 64 = .ok (.aload_n 0, 1) := dkAt dk18hlist_cX11_count_0_a 14 rfl
theorem dX11_count_65 : decode cX11_count 65 = .ok (.getfield 14, 3) := dkAt dk18hlist_cX11_count_0_a 15 rfl
theorem dX11_count_68 : decode cX11_count 68 = .ok (.getfield 221, 3) := dkAt dk18hlist_cX11_count_0_a 16 rfl
theorem dX11_count_71 : decode cX11_count 71 = .ok (.ireturn, 1) := dkAt dk18hlist_cX11_count_0_a 17 rfl
theorem dX11_count_72 : decode cX11_count 72 = .ok (.aload_n 0, 1) := dkAt dk18hlist_cX11_count_0_a 18 rfl
theorem dX11_count_73 : decode cX11_count 73 = .ok (.getfield 14, 3) := dkAt dk18hlist_cX11_count_0_a 19 rfl
theorem dX11_count_76 : decode cX11_count 76 = .ok (.getfield 53, 3) := dkAt dk18hlist_cX11_count_0_a 20 rfl
theorem dX11_count_79 : decode cX11_count 79 = .ok (.ireturn, 1) := dkAt dk18hlist_cX11_count_0_a 21 rfl
theorem dX11_count_80 : decode cX11_count 80 = .ok (.aload_n 0, 1) := dkAt dk18hlist_cX11_count_0_a 22 rfl
theorem dX11_count_81 : decode cX11_count 81 = .ok (.getfield 49, 3) := dkAt dk18hlist_cX11_count_0_a 23 rfl
theorem dX11_count_84 : decode cX11_count 84 = .ok (.invokevirtual 243, 3) := dkAt dk18hlist_cX11_count_0_a 24 rfl
theorem dX11_count_87 : decode cX11_count 87 = .ok (.ireturn, 1) := dkAt dk18hlist_cX11_count_0_a 25 rfl
theorem dX11_count_88 : decode cX11_count 88 = .ok (.iconst (-1), 1) := dkAt dk18hlist_cX11_count_0_a 26 rfl
theorem dX11_count_89 : decode cX11_count 89 = .ok (.ireturn, 1) := dkAt dk18hlist_cX11_count_0_a 27 rfl
theorem kc_xTrace1_0 : ∀ w ∈ wsX110, w ∈ wsX11_trace := fun w h => List.mem_cons_of_mem _ (gin_wsX110 w h)
theorem kc_xTrace1_1 : (.fieldLink RX11 49 "MistHeaps" "bodies" "Ljava/util/ArrayList;" : Cond) ∈ wsX11_trace := kc_of 334 rfl rfl rfl
theorem kc_xTrace1_2 : (.classLink RX11 251 "java/lang/Integer" : Cond) ∈ wsX11_trace := kc_of 1096 rfl rfl rfl
set_option maxHeartbeats 4000000 in
set_option maxRecDepth 100000 in
theorem c_xTrace1 (l : Launch) (dC : Nat → ClassId) (dI : Nat → Nat → Nat) (ad : Nat → Nat) (cB bS : Nat) (h0 : Nat) (sc : Nat) (kp : Nat) (bl : Nat) (go : Nat) (ch : Nat) (bo : Nat) (aEl : Nat) (ik : Int32) (x : Int32) (cEl : ClassId) (fEl : Nat → Option Nat) (sz_ : Nat) (mdc : Int32) (tl : List Nat) (hsz : sz_ ≤ 10) (zL : okL ad fEl sz_ tl) : Met l yX11_trace wsX11_trace ({ frames := 3, cells := 0, slots := 0, locals := 64 } : Room) (va_Pc [.ref h0, .int x] (fun U => va_P (dC, dI) vwCl [(zo13rrirrrr h0 sc kp ik bl go ch bo), (zo1iri bo mdc aEl (nI sz_)), (zaR aEl cEl 10 fEl)] U.heap ∧ va_K (dC, dI) vwCl [(cEl, .object "java/lang/Object")] U ∧ Gi ad cB bS (fun _ => False) U)) (vp_Si (fun r => r = trR tl x)) 0 0 (fun _ => False) := by
  refine met_ofQ (cc := cX11_trace) (maxL := 2) (ret := (some .int)) (by decide) rfl ?_
  intro p e s m args below meth c s₁ Q B hml hv hQ
  obtain ⟨rfl, hP, hK, hI_⟩ := hv
  have hx := B.exec
  have hb := B.bytes
  have hr := B.returns
  have hts := atoms_spec (ws := wsX11_trace) B.pre
  have hown : s.vm.findClass RX11 = some m.cls := findClass_of_methodNamed B.named
  have hlocks := B.notSynchronized
  obtain ⟨A, hAe⟩ : ∃ A : Nat → Prop, A = fun _ => False := ⟨_, rfl⟩
  rw [← hAe] at hQ hI_
  have hS : va_S A s.heap s.heap [] := va_S.rf
  have hl := lv_entry [.ref h0, .int x] (n := 2) (Nat.le_of_ble_eq_true rfl)
  rw [lg_entry_eq]
  generalize (lg_sl [.ref h0, .int x] ++ List.replicate (2 - (lg_sl [.ref h0, .int x]).length) Slot.unset).toArray = ls at hl ⊢
  generalize hag : ([.ref h0, .int x] : List Value).toArray = args at hts hQ ⊢
  have hl : lv_has ls 2 [(0, .ref h0), (1, .int x)] := hl
  refine lv_iload_n hx hb dX11_trace_0 rfl (lv_at hl 1 rfl) ?_
  refine lv_if_lt (tgt := 32) hx hb dX11_trace_1 (by decide) (fun c_1 => ?_) (fun c_1 => ?_)
  · skip
    refine lv_iconst (v := (-1)) hx hb dX11_trace_32 (by decide) ?_
    rw [hQ]
    exact W.iret (v := (-1)) hx hb hr (fun tQ htQ hWQ => ⟨(-1), rfl, by have hlz := zL.1; first | exact tr_no (fun j hj => ge_no (n := sz_) (by omega) (Or.inl (by assumption)) j (by omega)) | exact tr_no (fun j hj => ge_no (n := sz_) (by omega) (Or.inr (by assumption)) j (by omega)), by rw [htQ]⟩) (fun q hq => absurd hq List.not_mem_nil) dX11_trace_33
  · skip
    refine lv_iload_n hx hb dX11_trace_4 rfl (lv_at hl 1 rfl) ?_
    refine lv_aload_n hx hb dX11_trace_5 rfl (lv_at hl 0 rfl) ?_
    refine va_get (D := (dC, dI)) (ci := 13) (v := .ref bo) (C := RX11) (T := TX11) (N := 7) hx hb hts kc_xTrace1_0 hown hK hP 0 rfl rfl 6 (by decide) (hts (.fieldLink RX11 49 "MistHeaps" "bodies" "Ljava/util/ArrayList;") kc_xTrace1_1) (fun _ h9 => h9) rfl dX11_trace_6 ?_
    have hPc := hP.sub (ws' := [(zo1iri bo mdc aEl (nI sz_))]) [1] rfl
    have hKc := hK.sub (tys' := []) [] rfl
    refine vp_callSi (va_runV (As := []) (rest := [.int x]) ⟨hx, hb, hml, hown, hts⟩ (c_lsize1 l dC dI bo aEl sz_ mdc) (cwV 0 hts gX11_trace_Jx4a65c_size_8abf5 rfl rfl rfl hd_yJx4a65c_size_8abf5 ⟨Nat.le_of_ble_eq_true rfl, Nat.le_of_ble_eq_true rfl⟩) ⟨fun a U g mk q => by obtain ⟨q0, qP, qK⟩ := q; exact ⟨q0, qP, va_K.moved (u := U) (U := U.calling g mk a) (Vm.Alike.refl U.vm) qK⟩, va_recv hK hP (ci := 1) (q := (RJx4a65c, TJx4a65c, 3)) (q0 := 1) rfl rfl, fun U hU hW => ⟨rfl, by rw [hU]; exact hPc, va_K.moved hW.alike hKc⟩⟩ rfl rfl hl.1 rfl (lv_room (Nat.le_of_ble_eq_true rfl)) dX11_trace_9 ⟨Nat.le_of_ble_eq_true rfl, Nat.le_of_ble_eq_true rfl⟩).run (fun r_2 hw_3 => ?_)
    refine qi_as (y := nI sz_) hw_3 ?_
    refine lv_icmp_ge (tgt := 32) hx hb dX11_trace_12 (by decide) (fun c_4 => ?_) (fun c_4 => ?_)
    · skip
      refine lv_iconst (v := (-1)) hx hb dX11_trace_32 (by decide) ?_
      rw [hQ]
      exact W.iret (v := (-1)) hx hb hr (fun tQ htQ hWQ => ⟨(-1), rfl, by have hlz := zL.1; first | exact tr_no (fun j hj => ge_no (n := sz_) (by omega) (Or.inl (by assumption)) j (by omega)) | exact tr_no (fun j hj => ge_no (n := sz_) (by omega) (Or.inr (by assumption)) j (by omega)), by rw [htQ]⟩) (fun q hq => absurd hq List.not_mem_nil) dX11_trace_33
    · skip
      obtain ⟨jt, hjt, rfl⟩ := lt_of (x := x) (n := sz_) (by omega) (by assumption) c_4
      refine lv_aload_n hx hb dX11_trace_15 rfl (lv_at hl 0 rfl) ?_
      refine va_get (D := (dC, dI)) (ci := 13) (v := .ref bo) (C := RX11) (T := TX11) (N := 7) hx hb hts kc_xTrace1_0 hown hK hP 0 rfl rfl 6 (by decide) (hts (.fieldLink RX11 49 "MistHeaps" "bodies" "Ljava/util/ArrayList;") kc_xTrace1_1) (fun _ h9 => h9) rfl dX11_trace_16 ?_
      refine lv_iload_n hx hb dX11_trace_19 rfl (lv_at hl 1 rfl) ?_
      have hPc := hP.sub (ws' := [(zo1iri bo mdc aEl (nI sz_)), (zaR aEl cEl 10 fEl)]) [1, 2] rfl
      have hKc := hK.sub (tys' := [(cEl, .object "java/lang/Object")]) [0] rfl
      refine va_csq (va_runV (As := [.int (nI jt)]) (rest := []) ⟨hx, hb, hml, hown, hts⟩ (c_lget l dC dI bo aEl jt cEl fEl sz_ mdc (by omega) (by omega)) (cwV 1 hts gX11_trace_Jx4a65c_get_915e3 rfl rfl rfl hd_yJx4a65c_get_915e3 ⟨Nat.le_of_ble_eq_true rfl, Nat.le_of_ble_eq_true rfl⟩) ⟨fun a U g mk q => by obtain ⟨q0, qP, qK⟩ := q; exact ⟨q0, qP, va_K.moved (u := U) (U := U.calling g mk a) (Vm.Alike.refl U.vm) qK⟩, va_recv hK hP (ci := 1) (q := (RJx4a65c, TJx4a65c, 3)) (q0 := 1) rfl rfl, fun U hU hW => ⟨rfl, by rw [hU]; exact hPc, va_K.moved hW.alike hKc⟩⟩ rfl rfl hl.1 rfl (lv_room (Nat.le_of_ble_eq_true rfl)) dX11_trace_20 ⟨Nat.le_of_ble_eq_true rfl, Nat.le_of_ble_eq_true rfl⟩).run (fun r_5 hw_6 => ?_)
      obtain ⟨bx, ebx⟩ : ∃ q : Nat, q = tl.getD jt 0 + 128 := ⟨_, rfl⟩
      have hb9 := (zL.2 jt hjt).1
      have hbx : bx < 256 := by omega
      refine qq_as (v := .ref (ad bx)) (by rw [hw_6, (zL.2 jt hjt).2, ebx]; rfl) ?_
      refine va_castS hx hb hown (hts (.classLink RX11 251 "java/lang/Integer") kc_xTrace1_2) (hK.1 0 (RJ6, TJ6, 1) rfl).2 (va_Orecv (hI_.1.1 bx (by omega)) hS) dX11_trace_23 ?_
      refine vp_callSi (va_runV (As := []) (rest := []) ⟨hx, hb, hml, hown, hts⟩ (c_intValue l dC dI ad cB bS bx hbx) (cwV 0 hts gX11_trace_J6_intValue_8abf5 rfl rfl rfl hd_yJ6_intValue_8abf5 ⟨Nat.le_of_ble_eq_true rfl, Nat.le_of_ble_eq_true rfl⟩) ⟨fun a U g mk q => by obtain ⟨q0, qhI_⟩ := q; exact ⟨q0, qhI_.same rfl rfl⟩, va_Orecv (hI_.1.1 bx hbx) hS, fun U hU hW => ⟨rfl, hI_.callF hS hU hW⟩⟩ rfl rfl hl.1 rfl (lv_room (Nat.le_of_ble_eq_true rfl)) dX11_trace_26 ⟨Nat.le_of_ble_eq_true rfl, Nat.le_of_ble_eq_true rfl⟩).run (fun r_7 hw_8 => ?_)
      refine qi_as (y := nI (tl.getD jt 0)) (by rw [hw_8, ebx]; exact vb_of hb9) ?_
      refine lv_goto (tgt := 33) hx hb dX11_trace_29 (by decide) ?_
      rw [hQ]
      exact W.iret (v := nI (tl.getD jt 0)) hx hb hr (fun tQ htQ hWQ => ⟨nI (tl.getD jt 0), rfl, by have hlz := zL.1; exact tr_yes (by omega) (by omega), by rw [htQ]⟩) (fun q hq => absurd hq List.not_mem_nil) dX11_trace_33

theorem kc_xTrace0_0 : ∀ w ∈ wsX110, w ∈ wsX11_trace := fun w h => List.mem_cons_of_mem _ (gin_wsX110 w h)
theorem kc_xTrace0_1 : (.fieldLink RX11 49 "MistHeaps" "bodies" "Ljava/util/ArrayList;" : Cond) ∈ wsX11_trace := kc_of 334 rfl rfl rfl
set_option maxHeartbeats 4000000 in
set_option maxRecDepth 100000 in
theorem c_xTrace0 (l : Launch) (dC : Nat → ClassId) (dI : Nat → Nat → Nat) (h0 : Nat) (sc : Nat) (kp : Nat) (bl : Nat) (go : Nat) (ch : Nat) (bo : Nat) (ik : Int32) (x : Int32) (bS : Nat) (mdc : Int32) : Met l yX11_trace wsX11_trace ({ frames := 3, cells := 0, slots := 0, locals := 64 } : Room) (va_Pc [.ref h0, .int x] (fun U => va_P (dC, dI) vwCl [(zo13rrirrrr h0 sc kp ik bl go ch bo), (zo1iri bo mdc bS 0)] U.heap ∧ va_K (dC, dI) vwCl [] U)) (vp_Si (fun r => r = -1)) 0 0 (fun _ => False) := by
  refine met_ofQ (cc := cX11_trace) (maxL := 2) (ret := (some .int)) (by decide) rfl ?_
  intro p e s m args below meth c s₁ Q B hml hv hQ
  obtain ⟨rfl, hP, hK⟩ := hv
  have hx := B.exec
  have hb := B.bytes
  have hr := B.returns
  have hts := atoms_spec (ws := wsX11_trace) B.pre
  have hown : s.vm.findClass RX11 = some m.cls := findClass_of_methodNamed B.named
  have hlocks := B.notSynchronized
  obtain ⟨A, hAe⟩ : ∃ A : Nat → Prop, A = fun _ => False := ⟨_, rfl⟩
  rw [← hAe] at hQ
  have hS : va_S A s.heap s.heap [] := va_S.rf
  have hl := lv_entry [.ref h0, .int x] (n := 2) (Nat.le_of_ble_eq_true rfl)
  rw [lg_entry_eq]
  generalize (lg_sl [.ref h0, .int x] ++ List.replicate (2 - (lg_sl [.ref h0, .int x]).length) Slot.unset).toArray = ls at hl ⊢
  generalize hag : ([.ref h0, .int x] : List Value).toArray = args at hts hQ ⊢
  have hl : lv_has ls 2 [(0, .ref h0), (1, .int x)] := hl
  refine lv_iload_n hx hb dX11_trace_0 rfl (lv_at hl 1 rfl) ?_
  refine lv_if_lt (tgt := 32) hx hb dX11_trace_1 (by decide) (fun c_1 => ?_) (fun c_1 => ?_)
  · skip
    refine lv_iconst (v := (-1)) hx hb dX11_trace_32 (by decide) ?_
    rw [hQ]
    exact W.iret (v := (-1)) hx hb hr (fun tQ htQ hWQ => ⟨(-1), rfl, rfl, by rw [htQ]⟩) (fun q hq => absurd hq List.not_mem_nil) dX11_trace_33
  · skip
    refine lv_iload_n hx hb dX11_trace_4 rfl (lv_at hl 1 rfl) ?_
    refine lv_aload_n hx hb dX11_trace_5 rfl (lv_at hl 0 rfl) ?_
    refine va_get (D := (dC, dI)) (ci := 13) (v := .ref bo) (C := RX11) (T := TX11) (N := 7) hx hb hts kc_xTrace0_0 hown hK hP 0 rfl rfl 6 (by decide) (hts (.fieldLink RX11 49 "MistHeaps" "bodies" "Ljava/util/ArrayList;") kc_xTrace0_1) (fun _ h9 => h9) rfl dX11_trace_6 ?_
    have hPc := hP.sub (ws' := [(zo1iri bo mdc bS 0)]) [1] rfl
    have hKc := hK.sub (tys' := []) [] rfl
    refine vp_callSi (va_runV (As := []) (rest := [.int x]) ⟨hx, hb, hml, hown, hts⟩ (c_lsize0 l dC dI bo bS mdc) (cwV 0 hts gX11_trace_Jx4a65c_size_8abf5 rfl rfl rfl hd_yJx4a65c_size_8abf5 ⟨Nat.le_of_ble_eq_true rfl, Nat.le_of_ble_eq_true rfl⟩) ⟨fun a U g mk q => by obtain ⟨q0, qP, qK⟩ := q; exact ⟨q0, qP, va_K.moved (u := U) (U := U.calling g mk a) (Vm.Alike.refl U.vm) qK⟩, va_recv hK hP (ci := 1) (q := (RJx4a65c, TJx4a65c, 3)) (q0 := 1) rfl rfl, fun U hU hW => ⟨rfl, by rw [hU]; exact hPc, va_K.moved hW.alike hKc⟩⟩ rfl rfl hl.1 rfl (lv_room (Nat.le_of_ble_eq_true rfl)) dX11_trace_9 ⟨Nat.le_of_ble_eq_true rfl, Nat.le_of_ble_eq_true rfl⟩).run (fun r_2 hw_3 => ?_)
    refine qi_as (y := 0) hw_3 ?_
    refine lv_icmp_ge (tgt := 32) hx hb dX11_trace_12 (by decide) (fun c_4 => ?_) (fun c_4 => absurd c_4 ((not_not_intro (Int32.not_lt.mp (by assumption)))))
    refine lv_iconst (v := (-1)) hx hb dX11_trace_32 (by decide) ?_
    rw [hQ]
    exact W.iret (v := (-1)) hx hb hr (fun tQ htQ hWQ => ⟨(-1), rfl, rfl, by rw [htQ]⟩) (fun q hq => absurd hq List.not_mem_nil) dX11_trace_33

theorem kc_xCount1_0 : ∀ w ∈ wsX110, w ∈ wsX11_count := fun w h => List.mem_cons_of_mem _ (gin_wsX110 w h)
theorem kc_xCount1_1 : (.fieldLink RX11 14 "MistHeaps" "scene" "LMistHeaps$Scene;" : Cond) ∈ wsX11_count := kc_of 328 rfl rfl rfl
theorem kc_xCount1_2 : ∀ w ∈ wsX80, w ∈ wsX11_count := fun w h => List.mem_cons_of_mem _ (gin_wsX80 w h)
theorem kc_xCount1_3 : (.fieldLink RX11 101 "MistHeaps$Scene" "heapCount" "I" : Cond) ∈ wsX11_count := kc_of 173 rfl rfl rfl
theorem kc_xCount1_4 : (.fieldLink RX11 61 "MistHeaps$Scene" "hills" "I" : Cond) ∈ wsX11_count := kc_of 159 rfl rfl rfl
theorem kc_xCount1_5 : (.fieldLink RX11 169 "MistHeaps$Scene" "walkSize" "I" : Cond) ∈ wsX11_count := kc_of 179 rfl rfl rfl
theorem kc_xCount1_6 : (.fieldLink RX11 221 "MistHeaps$Scene" "bookSize" "I" : Cond) ∈ wsX11_count := kc_of 183 rfl rfl rfl
theorem kc_xCount1_7 : (.fieldLink RX11 53 "MistHeaps$Scene" "tapeSize" "I" : Cond) ∈ wsX11_count := kc_of 154 rfl rfl rfl
theorem kc_xCount1_8 : (.fieldLink RX11 49 "MistHeaps" "bodies" "Ljava/util/ArrayList;" : Cond) ∈ wsX11_count := kc_of 334 rfl rfl rfl
set_option maxHeartbeats 4000000 in
set_option maxRecDepth 100000 in
theorem c_xCount1 (l : Launch) (dC : Nat → ClassId) (dI : Nat → Nat → Nat) (h0 : Nat) (sc : Nat) (kp : Nat) (bl : Nat) (go : Nat) (ch : Nat) (bo : Nat) (aTp : Nat) (aHl : Nat) (aHs : Nat) (aWk : Nat) (aBk : Nat) (aFc : Nat) (aEl : Nat) (ts : Nat) (nh : Nat) (n : Nat) (wz : Nat) (bz : Nat) (mi : Int32) (sn : Int32) (ik : Int32) (x : Int32) (ed : Int64) (sz_ : Nat) (mdc : Int32) (tl : List Nat) (hlz : tl.length = sz_) : Met l yX11_count wsX11_count ({ frames := 1, cells := 0, slots := 0, locals := 20 } : Room) (va_Pc [.ref h0, .int x] (fun U => va_P (dC, dI) vwCl [(zo13rrirrrr h0 sc kp ik bl go ch bo), (zo10ririliiriririr sc aTp (nI ts) aHl (nI nh) ed mi sn aHs (nI n) aWk (nI wz) aBk (nI bz) aFc), (zo1iri bo mdc aEl (nI sz_))] U.heap ∧ va_K (dC, dI) vwCl [] U)) (vp_Si (fun r => r = ctR n nh wz bz ts tl x)) 0 0 (fun _ => False) := by
  refine met_ofQ (cc := cX11_count) (maxL := 2) (ret := (some .int)) (by decide) rfl ?_
  intro p e s m args below meth c s₁ Q B hml hv hQ
  obtain ⟨rfl, hP, hK⟩ := hv
  have hx := B.exec
  have hb := B.bytes
  have hr := B.returns
  have hts := atoms_spec (ws := wsX11_count) B.pre
  have hown : s.vm.findClass RX11 = some m.cls := findClass_of_methodNamed B.named
  have hlocks := B.notSynchronized
  obtain ⟨A, hAe⟩ : ∃ A : Nat → Prop, A = fun _ => False := ⟨_, rfl⟩
  rw [← hAe] at hQ
  have hS : va_S A s.heap s.heap [] := va_S.rf
  have hl := lv_entry [.ref h0, .int x] (n := 2) (Nat.le_of_ble_eq_true rfl)
  rw [lg_entry_eq]
  generalize (lg_sl [.ref h0, .int x] ++ List.replicate (2 - (lg_sl [.ref h0, .int x]).length) Slot.unset).toArray = ls at hl ⊢
  generalize hag : ([.ref h0, .int x] : List Value).toArray = args at hts hQ ⊢
  have hl : lv_has ls 2 [(0, .ref h0), (1, .int x)] := hl
  refine lv_iload_n hx hb dX11_count_0 rfl (lv_at hl 1 rfl) ?_
  by_cases c_1_0 : x = 0
  · skip
    refine lv_tableIn (tgt := 40) hx hb dX11_count_1 (by rw [c_1_0]; decide) (by rw [c_1_0]; decide) (by rw [c_1_0]; rfl) (by decide) ?_
    refine lv_aload_n hx hb dX11_count_40 rfl (lv_at hl 0 rfl) ?_
    refine va_get (D := (dC, dI)) (ci := 13) (v := .ref sc) (C := RX11) (T := TX11) (N := 7) hx hb hts kc_xCount1_0 hown hK hP 0 rfl rfl 0 (by decide) (hts (.fieldLink RX11 14 "MistHeaps" "scene" "LMistHeaps$Scene;") kc_xCount1_1) (fun _ h9 => h9) rfl dX11_count_41 ?_
    refine va_get (D := (dC, dI)) (ci := 10) (v := .int (nI n)) (C := RX8) (T := TX8) (N := 14) hx hb hts kc_xCount1_2 hown hK hP 1 rfl rfl 8 (by decide) (hts (.fieldLink RX11 101 "MistHeaps$Scene" "heapCount" "I") kc_xCount1_3) (fun _ h9 => h9) rfl dX11_count_44 ?_
    rw [hQ]
    exact W.iret (v := nI n) hx hb hr (fun tQ htQ hWQ => ⟨nI n, rfl, ct_0 (by assumption), by rw [htQ]⟩) (fun q hq => absurd hq List.not_mem_nil) dX11_count_47
  by_cases c_1_1 : x = 1
  · skip
    refine lv_tableIn (tgt := 48) hx hb dX11_count_1 (by rw [c_1_1]; decide) (by rw [c_1_1]; decide) (by rw [c_1_1]; rfl) (by decide) ?_
    refine lv_aload_n hx hb dX11_count_48 rfl (lv_at hl 0 rfl) ?_
    refine va_get (D := (dC, dI)) (ci := 13) (v := .ref sc) (C := RX11) (T := TX11) (N := 7) hx hb hts kc_xCount1_0 hown hK hP 0 rfl rfl 0 (by decide) (hts (.fieldLink RX11 14 "MistHeaps" "scene" "LMistHeaps$Scene;") kc_xCount1_1) (fun _ h9 => h9) rfl dX11_count_49 ?_
    refine va_get (D := (dC, dI)) (ci := 10) (v := .int (nI nh)) (C := RX8) (T := TX8) (N := 14) hx hb hts kc_xCount1_2 hown hK hP 1 rfl rfl 3 (by decide) (hts (.fieldLink RX11 61 "MistHeaps$Scene" "hills" "I") kc_xCount1_4) (fun _ h9 => h9) rfl dX11_count_52 ?_
    rw [hQ]
    exact W.iret (v := nI nh) hx hb hr (fun tQ htQ hWQ => ⟨nI nh, rfl, ct_1 (by assumption), by rw [htQ]⟩) (fun q hq => absurd hq List.not_mem_nil) dX11_count_55
  by_cases c_1_2 : x = 2
  · skip
    refine lv_tableIn (tgt := 56) hx hb dX11_count_1 (by rw [c_1_2]; decide) (by rw [c_1_2]; decide) (by rw [c_1_2]; rfl) (by decide) ?_
    refine lv_aload_n hx hb dX11_count_56 rfl (lv_at hl 0 rfl) ?_
    refine va_get (D := (dC, dI)) (ci := 13) (v := .ref sc) (C := RX11) (T := TX11) (N := 7) hx hb hts kc_xCount1_0 hown hK hP 0 rfl rfl 0 (by decide) (hts (.fieldLink RX11 14 "MistHeaps" "scene" "LMistHeaps$Scene;") kc_xCount1_1) (fun _ h9 => h9) rfl dX11_count_57 ?_
    refine va_get (D := (dC, dI)) (ci := 10) (v := .int (nI wz)) (C := RX8) (T := TX8) (N := 14) hx hb hts kc_xCount1_2 hown hK hP 1 rfl rfl 10 (by decide) (hts (.fieldLink RX11 169 "MistHeaps$Scene" "walkSize" "I") kc_xCount1_5) (fun _ h9 => h9) rfl dX11_count_60 ?_
    rw [hQ]
    exact W.iret (v := nI wz) hx hb hr (fun tQ htQ hWQ => ⟨nI wz, rfl, ct_2 (by assumption), by rw [htQ]⟩) (fun q hq => absurd hq List.not_mem_nil) dX11_count_63
  by_cases c_1_3 : x = 3
  · skip
    refine lv_tableIn (tgt := 64) hx hb dX11_count_1 (by rw [c_1_3]; decide) (by rw [c_1_3]; decide) (by rw [c_1_3]; rfl) (by decide) ?_
    refine lv_aload_n hx hb dX11_count_64 rfl (lv_at hl 0 rfl) ?_
    refine va_get (D := (dC, dI)) (ci := 13) (v := .ref sc) (C := RX11) (T := TX11) (N := 7) hx hb hts kc_xCount1_0 hown hK hP 0 rfl rfl 0 (by decide) (hts (.fieldLink RX11 14 "MistHeaps" "scene" "LMistHeaps$Scene;") kc_xCount1_1) (fun _ h9 => h9) rfl dX11_count_65 ?_
    refine va_get (D := (dC, dI)) (ci := 10) (v := .int (nI bz)) (C := RX8) (T := TX8) (N := 14) hx hb hts kc_xCount1_2 hown hK hP 1 rfl rfl 12 (by decide) (hts (.fieldLink RX11 221 "MistHeaps$Scene" "bookSize" "I") kc_xCount1_6) (fun _ h9 => h9) rfl dX11_count_68 ?_
    rw [hQ]
    exact W.iret (v := nI bz) hx hb hr (fun tQ htQ hWQ => ⟨nI bz, rfl, ct_3 (by assumption), by rw [htQ]⟩) (fun q hq => absurd hq List.not_mem_nil) dX11_count_71
  by_cases c_1_4 : x = 4
  · skip
    refine lv_tableIn (tgt := 72) hx hb dX11_count_1 (by rw [c_1_4]; decide) (by rw [c_1_4]; decide) (by rw [c_1_4]; rfl) (by decide) ?_
    refine lv_aload_n hx hb dX11_count_72 rfl (lv_at hl 0 rfl) ?_
    refine va_get (D := (dC, dI)) (ci := 13) (v := .ref sc) (C := RX11) (T := TX11) (N := 7) hx hb hts kc_xCount1_0 hown hK hP 0 rfl rfl 0 (by decide) (hts (.fieldLink RX11 14 "MistHeaps" "scene" "LMistHeaps$Scene;") kc_xCount1_1) (fun _ h9 => h9) rfl dX11_count_73 ?_
    refine va_get (D := (dC, dI)) (ci := 10) (v := .int (nI ts)) (C := RX8) (T := TX8) (N := 14) hx hb hts kc_xCount1_2 hown hK hP 1 rfl rfl 1 (by decide) (hts (.fieldLink RX11 53 "MistHeaps$Scene" "tapeSize" "I") kc_xCount1_7) (fun _ h9 => h9) rfl dX11_count_76 ?_
    rw [hQ]
    exact W.iret (v := nI ts) hx hb hr (fun tQ htQ hWQ => ⟨nI ts, rfl, ct_4 (by assumption), by rw [htQ]⟩) (fun q hq => absurd hq List.not_mem_nil) dX11_count_79
  by_cases c_1_5 : x = 5
  · skip
    refine lv_tableIn (tgt := 80) hx hb dX11_count_1 (by rw [c_1_5]; decide) (by rw [c_1_5]; decide) (by rw [c_1_5]; rfl) (by decide) ?_
    refine lv_aload_n hx hb dX11_count_80 rfl (lv_at hl 0 rfl) ?_
    refine va_get (D := (dC, dI)) (ci := 13) (v := .ref bo) (C := RX11) (T := TX11) (N := 7) hx hb hts kc_xCount1_0 hown hK hP 0 rfl rfl 6 (by decide) (hts (.fieldLink RX11 49 "MistHeaps" "bodies" "Ljava/util/ArrayList;") kc_xCount1_8) (fun _ h9 => h9) rfl dX11_count_81 ?_
    have hPc := hP.sub (ws' := [(zo1iri bo mdc aEl (nI sz_))]) [2] rfl
    have hKc := hK.sub (tys' := []) [] rfl
    refine vp_callSi (va_runV (As := []) (rest := []) ⟨hx, hb, hml, hown, hts⟩ (c_lsize1 l dC dI bo aEl sz_ mdc) (cwV 0 hts gX11_count_Jx4a65c_size_8abf5 rfl rfl rfl hd_yJx4a65c_size_8abf5 ⟨Nat.le_of_ble_eq_true rfl, Nat.le_of_ble_eq_true rfl⟩) ⟨fun a U g mk q => by obtain ⟨q0, qP, qK⟩ := q; exact ⟨q0, qP, va_K.moved (u := U) (U := U.calling g mk a) (Vm.Alike.refl U.vm) qK⟩, va_recv hK hP (ci := 1) (q := (RJx4a65c, TJx4a65c, 3)) (q0 := 2) rfl rfl, fun U hU hW => ⟨rfl, by rw [hU]; exact hPc, va_K.moved hW.alike hKc⟩⟩ rfl rfl hl.1 rfl (lv_room (Nat.le_of_ble_eq_true rfl)) dX11_count_84 ⟨Nat.le_of_ble_eq_true rfl, Nat.le_of_ble_eq_true rfl⟩).run (fun r_2 hw_3 => ?_)
    refine qi_as (y := nI sz_) hw_3 ?_
    rw [hQ]
    exact W.iret (v := nI sz_) hx hb hr (fun tQ htQ hWQ => ⟨nI sz_, rfl, (by rw [← hlz]; exact ct_5 (by assumption)), by rw [htQ]⟩) (fun q hq => absurd hq List.not_mem_nil) dX11_count_87
  refine lv_tableOut (tgt := 88) hx hb dX11_count_1 (sw_out 0 5 x (fun k hk => by
    match k, hk with
    | 0, _ => exact c_1_0
    | 1, _ => exact c_1_1
    | 2, _ => exact c_1_2
    | 3, _ => exact c_1_3
    | 4, _ => exact c_1_4
    | 5, _ => exact c_1_5
    | k + 6, hk => exact absurd hk (by omega))) (by decide) ?_
  refine lv_iconst (v := (-1)) hx hb dX11_count_88 (by decide) ?_
  rw [hQ]
  exact W.iret (v := (-1)) hx hb hr (fun tQ htQ hWQ => ⟨(-1), rfl, ct_n (by assumption) (by assumption) (by assumption) (by assumption) (by assumption) (by assumption), by rw [htQ]⟩) (fun q hq => absurd hq List.not_mem_nil) dX11_count_89

theorem kc_xCount0_0 : ∀ w ∈ wsX110, w ∈ wsX11_count := fun w h => List.mem_cons_of_mem _ (gin_wsX110 w h)
theorem kc_xCount0_1 : (.fieldLink RX11 14 "MistHeaps" "scene" "LMistHeaps$Scene;" : Cond) ∈ wsX11_count := kc_of 328 rfl rfl rfl
theorem kc_xCount0_2 : ∀ w ∈ wsX80, w ∈ wsX11_count := fun w h => List.mem_cons_of_mem _ (gin_wsX80 w h)
theorem kc_xCount0_3 : (.fieldLink RX11 101 "MistHeaps$Scene" "heapCount" "I" : Cond) ∈ wsX11_count := kc_of 173 rfl rfl rfl
theorem kc_xCount0_4 : (.fieldLink RX11 61 "MistHeaps$Scene" "hills" "I" : Cond) ∈ wsX11_count := kc_of 159 rfl rfl rfl
theorem kc_xCount0_5 : (.fieldLink RX11 169 "MistHeaps$Scene" "walkSize" "I" : Cond) ∈ wsX11_count := kc_of 179 rfl rfl rfl
theorem kc_xCount0_6 : (.fieldLink RX11 221 "MistHeaps$Scene" "bookSize" "I" : Cond) ∈ wsX11_count := kc_of 183 rfl rfl rfl
theorem kc_xCount0_7 : (.fieldLink RX11 53 "MistHeaps$Scene" "tapeSize" "I" : Cond) ∈ wsX11_count := kc_of 154 rfl rfl rfl
theorem kc_xCount0_8 : (.fieldLink RX11 49 "MistHeaps" "bodies" "Ljava/util/ArrayList;" : Cond) ∈ wsX11_count := kc_of 334 rfl rfl rfl
set_option maxHeartbeats 4000000 in
set_option maxRecDepth 100000 in
theorem c_xCount0 (l : Launch) (dC : Nat → ClassId) (dI : Nat → Nat → Nat) (h0 : Nat) (sc : Nat) (kp : Nat) (bl : Nat) (go : Nat) (ch : Nat) (bo : Nat) (aTp : Nat) (aHl : Nat) (aHs : Nat) (aWk : Nat) (aBk : Nat) (aFc : Nat) (ts : Nat) (nh : Nat) (n : Nat) (wz : Nat) (bz : Nat) (mi : Int32) (sn : Int32) (ik : Int32) (x : Int32) (ed : Int64) (bS : Nat) (mdc : Int32) : Met l yX11_count wsX11_count ({ frames := 1, cells := 0, slots := 0, locals := 20 } : Room) (va_Pc [.ref h0, .int x] (fun U => va_P (dC, dI) vwCl [(zo13rrirrrr h0 sc kp ik bl go ch bo), (zo10ririliiriririr sc aTp (nI ts) aHl (nI nh) ed mi sn aHs (nI n) aWk (nI wz) aBk (nI bz) aFc), (zo1iri bo mdc bS 0)] U.heap ∧ va_K (dC, dI) vwCl [] U)) (vp_Si (fun r => r = ctR n nh wz bz ts [] x)) 0 0 (fun _ => False) := by
  refine met_ofQ (cc := cX11_count) (maxL := 2) (ret := (some .int)) (by decide) rfl ?_
  intro p e s m args below meth c s₁ Q B hml hv hQ
  obtain ⟨rfl, hP, hK⟩ := hv
  have hx := B.exec
  have hb := B.bytes
  have hr := B.returns
  have hts := atoms_spec (ws := wsX11_count) B.pre
  have hown : s.vm.findClass RX11 = some m.cls := findClass_of_methodNamed B.named
  have hlocks := B.notSynchronized
  obtain ⟨A, hAe⟩ : ∃ A : Nat → Prop, A = fun _ => False := ⟨_, rfl⟩
  rw [← hAe] at hQ
  have hS : va_S A s.heap s.heap [] := va_S.rf
  have hl := lv_entry [.ref h0, .int x] (n := 2) (Nat.le_of_ble_eq_true rfl)
  rw [lg_entry_eq]
  generalize (lg_sl [.ref h0, .int x] ++ List.replicate (2 - (lg_sl [.ref h0, .int x]).length) Slot.unset).toArray = ls at hl ⊢
  generalize hag : ([.ref h0, .int x] : List Value).toArray = args at hts hQ ⊢
  have hl : lv_has ls 2 [(0, .ref h0), (1, .int x)] := hl
  refine lv_iload_n hx hb dX11_count_0 rfl (lv_at hl 1 rfl) ?_
  by_cases c_1_0 : x = 0
  · skip
    refine lv_tableIn (tgt := 40) hx hb dX11_count_1 (by rw [c_1_0]; decide) (by rw [c_1_0]; decide) (by rw [c_1_0]; rfl) (by decide) ?_
    refine lv_aload_n hx hb dX11_count_40 rfl (lv_at hl 0 rfl) ?_
    refine va_get (D := (dC, dI)) (ci := 13) (v := .ref sc) (C := RX11) (T := TX11) (N := 7) hx hb hts kc_xCount0_0 hown hK hP 0 rfl rfl 0 (by decide) (hts (.fieldLink RX11 14 "MistHeaps" "scene" "LMistHeaps$Scene;") kc_xCount0_1) (fun _ h9 => h9) rfl dX11_count_41 ?_
    refine va_get (D := (dC, dI)) (ci := 10) (v := .int (nI n)) (C := RX8) (T := TX8) (N := 14) hx hb hts kc_xCount0_2 hown hK hP 1 rfl rfl 8 (by decide) (hts (.fieldLink RX11 101 "MistHeaps$Scene" "heapCount" "I") kc_xCount0_3) (fun _ h9 => h9) rfl dX11_count_44 ?_
    rw [hQ]
    exact W.iret (v := nI n) hx hb hr (fun tQ htQ hWQ => ⟨nI n, rfl, ct_0 (by assumption), by rw [htQ]⟩) (fun q hq => absurd hq List.not_mem_nil) dX11_count_47
  by_cases c_1_1 : x = 1
  · skip
    refine lv_tableIn (tgt := 48) hx hb dX11_count_1 (by rw [c_1_1]; decide) (by rw [c_1_1]; decide) (by rw [c_1_1]; rfl) (by decide) ?_
    refine lv_aload_n hx hb dX11_count_48 rfl (lv_at hl 0 rfl) ?_
    refine va_get (D := (dC, dI)) (ci := 13) (v := .ref sc) (C := RX11) (T := TX11) (N := 7) hx hb hts kc_xCount0_0 hown hK hP 0 rfl rfl 0 (by decide) (hts (.fieldLink RX11 14 "MistHeaps" "scene" "LMistHeaps$Scene;") kc_xCount0_1) (fun _ h9 => h9) rfl dX11_count_49 ?_
    refine va_get (D := (dC, dI)) (ci := 10) (v := .int (nI nh)) (C := RX8) (T := TX8) (N := 14) hx hb hts kc_xCount0_2 hown hK hP 1 rfl rfl 3 (by decide) (hts (.fieldLink RX11 61 "MistHeaps$Scene" "hills" "I") kc_xCount0_4) (fun _ h9 => h9) rfl dX11_count_52 ?_
    rw [hQ]
    exact W.iret (v := nI nh) hx hb hr (fun tQ htQ hWQ => ⟨nI nh, rfl, ct_1 (by assumption), by rw [htQ]⟩) (fun q hq => absurd hq List.not_mem_nil) dX11_count_55
  by_cases c_1_2 : x = 2
  · skip
    refine lv_tableIn (tgt := 56) hx hb dX11_count_1 (by rw [c_1_2]; decide) (by rw [c_1_2]; decide) (by rw [c_1_2]; rfl) (by decide) ?_
    refine lv_aload_n hx hb dX11_count_56 rfl (lv_at hl 0 rfl) ?_
    refine va_get (D := (dC, dI)) (ci := 13) (v := .ref sc) (C := RX11) (T := TX11) (N := 7) hx hb hts kc_xCount0_0 hown hK hP 0 rfl rfl 0 (by decide) (hts (.fieldLink RX11 14 "MistHeaps" "scene" "LMistHeaps$Scene;") kc_xCount0_1) (fun _ h9 => h9) rfl dX11_count_57 ?_
    refine va_get (D := (dC, dI)) (ci := 10) (v := .int (nI wz)) (C := RX8) (T := TX8) (N := 14) hx hb hts kc_xCount0_2 hown hK hP 1 rfl rfl 10 (by decide) (hts (.fieldLink RX11 169 "MistHeaps$Scene" "walkSize" "I") kc_xCount0_5) (fun _ h9 => h9) rfl dX11_count_60 ?_
    rw [hQ]
    exact W.iret (v := nI wz) hx hb hr (fun tQ htQ hWQ => ⟨nI wz, rfl, ct_2 (by assumption), by rw [htQ]⟩) (fun q hq => absurd hq List.not_mem_nil) dX11_count_63
  by_cases c_1_3 : x = 3
  · skip
    refine lv_tableIn (tgt := 64) hx hb dX11_count_1 (by rw [c_1_3]; decide) (by rw [c_1_3]; decide) (by rw [c_1_3]; rfl) (by decide) ?_
    refine lv_aload_n hx hb dX11_count_64 rfl (lv_at hl 0 rfl) ?_
    refine va_get (D := (dC, dI)) (ci := 13) (v := .ref sc) (C := RX11) (T := TX11) (N := 7) hx hb hts kc_xCount0_0 hown hK hP 0 rfl rfl 0 (by decide) (hts (.fieldLink RX11 14 "MistHeaps" "scene" "LMistHeaps$Scene;") kc_xCount0_1) (fun _ h9 => h9) rfl dX11_count_65 ?_
    refine va_get (D := (dC, dI)) (ci := 10) (v := .int (nI bz)) (C := RX8) (T := TX8) (N := 14) hx hb hts kc_xCount0_2 hown hK hP 1 rfl rfl 12 (by decide) (hts (.fieldLink RX11 221 "MistHeaps$Scene" "bookSize" "I") kc_xCount0_6) (fun _ h9 => h9) rfl dX11_count_68 ?_
    rw [hQ]
    exact W.iret (v := nI bz) hx hb hr (fun tQ htQ hWQ => ⟨nI bz, rfl, ct_3 (by assumption), by rw [htQ]⟩) (fun q hq => absurd hq List.not_mem_nil) dX11_count_71
  by_cases c_1_4 : x = 4
  · skip
    refine lv_tableIn (tgt := 72) hx hb dX11_count_1 (by rw [c_1_4]; decide) (by rw [c_1_4]; decide) (by rw [c_1_4]; rfl) (by decide) ?_
    refine lv_aload_n hx hb dX11_count_72 rfl (lv_at hl 0 rfl) ?_
    refine va_get (D := (dC, dI)) (ci := 13) (v := .ref sc) (C := RX11) (T := TX11) (N := 7) hx hb hts kc_xCount0_0 hown hK hP 0 rfl rfl 0 (by decide) (hts (.fieldLink RX11 14 "MistHeaps" "scene" "LMistHeaps$Scene;") kc_xCount0_1) (fun _ h9 => h9) rfl dX11_count_73 ?_
    refine va_get (D := (dC, dI)) (ci := 10) (v := .int (nI ts)) (C := RX8) (T := TX8) (N := 14) hx hb hts kc_xCount0_2 hown hK hP 1 rfl rfl 1 (by decide) (hts (.fieldLink RX11 53 "MistHeaps$Scene" "tapeSize" "I") kc_xCount0_7) (fun _ h9 => h9) rfl dX11_count_76 ?_
    rw [hQ]
    exact W.iret (v := nI ts) hx hb hr (fun tQ htQ hWQ => ⟨nI ts, rfl, ct_4 (by assumption), by rw [htQ]⟩) (fun q hq => absurd hq List.not_mem_nil) dX11_count_79
  by_cases c_1_5 : x = 5
  · skip
    refine lv_tableIn (tgt := 80) hx hb dX11_count_1 (by rw [c_1_5]; decide) (by rw [c_1_5]; decide) (by rw [c_1_5]; rfl) (by decide) ?_
    refine lv_aload_n hx hb dX11_count_80 rfl (lv_at hl 0 rfl) ?_
    refine va_get (D := (dC, dI)) (ci := 13) (v := .ref bo) (C := RX11) (T := TX11) (N := 7) hx hb hts kc_xCount0_0 hown hK hP 0 rfl rfl 6 (by decide) (hts (.fieldLink RX11 49 "MistHeaps" "bodies" "Ljava/util/ArrayList;") kc_xCount0_8) (fun _ h9 => h9) rfl dX11_count_81 ?_
    have hPc := hP.sub (ws' := [(zo1iri bo mdc bS 0)]) [2] rfl
    have hKc := hK.sub (tys' := []) [] rfl
    refine vp_callSi (va_runV (As := []) (rest := []) ⟨hx, hb, hml, hown, hts⟩ (c_lsize0 l dC dI bo bS mdc) (cwV 0 hts gX11_count_Jx4a65c_size_8abf5 rfl rfl rfl hd_yJx4a65c_size_8abf5 ⟨Nat.le_of_ble_eq_true rfl, Nat.le_of_ble_eq_true rfl⟩) ⟨fun a U g mk q => by obtain ⟨q0, qP, qK⟩ := q; exact ⟨q0, qP, va_K.moved (u := U) (U := U.calling g mk a) (Vm.Alike.refl U.vm) qK⟩, va_recv hK hP (ci := 1) (q := (RJx4a65c, TJx4a65c, 3)) (q0 := 2) rfl rfl, fun U hU hW => ⟨rfl, by rw [hU]; exact hPc, va_K.moved hW.alike hKc⟩⟩ rfl rfl hl.1 rfl (lv_room (Nat.le_of_ble_eq_true rfl)) dX11_count_84 ⟨Nat.le_of_ble_eq_true rfl, Nat.le_of_ble_eq_true rfl⟩).run (fun r_2 hw_3 => ?_)
    refine qi_as (y := 0) hw_3 ?_
    rw [hQ]
    exact W.iret (v := 0) hx hb hr (fun tQ htQ hWQ => ⟨0, rfl, (by rw [show (0 : Int32) = nI ([] : List Nat).length from rfl]; exact ct_5 (by assumption)), by rw [htQ]⟩) (fun q hq => absurd hq List.not_mem_nil) dX11_count_87
  refine lv_tableOut (tgt := 88) hx hb dX11_count_1 (sw_out 0 5 x (fun k hk => by
    match k, hk with
    | 0, _ => exact c_1_0
    | 1, _ => exact c_1_1
    | 2, _ => exact c_1_2
    | 3, _ => exact c_1_3
    | 4, _ => exact c_1_4
    | 5, _ => exact c_1_5
    | k + 6, hk => exact absurd hk (by omega))) (by decide) ?_
  refine lv_iconst (v := (-1)) hx hb dX11_count_88 (by decide) ?_
  rw [hQ]
  exact W.iret (v := (-1)) hx hb hr (fun tQ htQ hWQ => ⟨(-1), rfl, ct_n (by assumption) (by assumption) (by assumption) (by assumption) (by assumption) (by assumption), by rw [htQ]⟩) (fun q hq => absurd hq List.not_mem_nil) dX11_count_89
