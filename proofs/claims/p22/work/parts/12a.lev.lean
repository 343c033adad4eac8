theorem ggX12_every_X12_factor : GoodIn wsX12_every wsX12_factor := gga_of 1264 rfl rfl rfl
theorem gX12_every_X12_factor : GoodIn wsX12_every (wsV RX12 92 RX12 yX12_factor wsX12_factor) := goodIn_app (ggh_of [1261, 1263, 30, 72] rfl rfl rfl) ggX12_every_X12_factor
theorem ggX12_some_X12_every : GoodIn wsX12_some wsX12_every := gga_of 1260 rfl rfl rfl
theorem gX12_some_X12_every : GoodIn wsX12_some (wsV RX12 112 RX12 yX12_every wsX12_every) := goodIn_app (ggh_of [1257, 1259, 29, 72] rfl rfl rfl) ggX12_some_X12_every
noncomputable def dk12alev_cX12_factor_0 : List (Nat × Instr × Nat) := [(0, .aload_n 0, 1), (1, .getfield 65, 3), (4, .ifCond .eq 4, 3), (7, .return_, 1)]
set_option maxRecDepth 100000 in
theorem dk12alev_cX12_factor_0_a : dkA cX12_factor dk12alev_cX12_factor_0 = true := by decide +kernel
theorem dX12_factor_0 : decode cX12_factor 0 = .ok (.aload_n 0, 1) := dkAt dk12alev_cX12_factor_0_a 0 rfl
theorem dX12_factor_1 : decode cX12_factor 1 = .ok (.getfield 65, 3) := dkAt dk12alev_cX12_factor_0_a 1 rfl
theorem dX12_factor_4 : decode cX12_factor 4 = .ok (.ifCond .eq 4, 3) := dkAt dk12alev_cX12_factor_0_a 2 rfl
theorem dX12_factor_7 : decode cX12_factor 7 = .ok (.return_, 1) := dkAt dk12alev_cX12_factor_0_a 3 rfl
noncomputable def dk12alev_cX12_every_0 : List (Nat × Instr × Nat) := [(0, .aload_n 0, 1), (1, .invokevirtual 92, 3), (4, .aload_n 0, 1), (5, .getfield 65, 3), (8, .ifCond .ne 35, 3), (43, .return_, 1)]
set_option maxRecDepth 100000 in
theorem dk12alev_cX12_every_0_a : dkA cX12_every dk12alev_cX12_every_0 = true := by decide +kernel
theorem dX12_every_0 : decode cX12_every 0 = .ok (.aload_n 0, 1) := dkAt dk12alev_cX12_every_0_a 0 rfl
theorem dX12_every_1 : decode cX12_every 1 = .ok (.invokevirtual 92, 3) := dkAt dk12alev_cX12_every_0_a 1 rfl
theorem dX12_every_4 : decode cX12_every 4 = .ok (.aload_n 0, 1) := dkAt dk12alev_cX12_every_0_a 2 rfl
theorem dX12_every_5 : decode cX12_every 5 = .ok (.getfield 65, 3) := dkAt dk12alev_cX12_every_0_a 3 rfl
theorem dX12_every_8 : decode cX12_every 8 = .ok (.ifCond .ne 35, 3) := dkAt dk12alev_cX12_every_0_a 4 rfl
theorem dX12_every_43 : decode cX12_every 43 = .ok (.return_, 1) := dkAt dk12alev_cX12_every_0_a 5 rfl
noncomputable def dk12alev_cX12_some_0 : List (Nat × Instr × Nat) := [(0, .aload_n 0, 1), (1, .invokevirtual 112, 3), (4, .aload_n 0, 1), (5, .getfield 65, 3), (8, .ifCond .ne 35, 3), (43, .return_, 1)]
set_option maxRecDepth 100000 in
theorem dk12alev_cX12_some_0_a : dkA cX12_some dk12alev_cX12_some_0 = true := by decide +kernel
theorem dX12_some_0 : decode cX12_some 0 = .ok (.aload_n 0, 1) := dkAt dk12alev_cX12_some_0_a 0 rfl
theorem dX12_some_1 : decode cX12_some 1 = .ok (.invokevirtual 112, 3) := dkAt dk12alev_cX12_some_0_a 1 rfl
theorem dX12_some_4 : decode cX12_some 4 = .ok (.aload_n 0, 1) := dkAt dk12alev_cX12_some_0_a 2 rfl
theorem dX12_some_5 : decode cX12_some 5 = .ok (.getfield 65, 3) := dkAt dk12alev_cX12_some_0_a 3 rfl
theorem dX12_some_8 : decode cX12_some 8 = .ok (.ifCond .ne 35, 3) := dkAt dk12alev_cX12_some_0_a 4 rfl
theorem dX12_some_43 : decode cX12_some 43 = .ok (.return_, 1) := dkAt dk12alev_cX12_some_0_a 5 rfl
theorem PI.mono {f : Nat → Int32} {a d p q E : Nat} {K : List Nat} (h : PI f a K d p E) (h1 : p ≤ q) (h2 : q ≤ E) : PI f a K d q E := by
  obtain ⟨a1, a2, a3, a4, a5, a6, a7, a8⟩ := h
  exact ⟨a1, h2, a3, a4, by omega, by omega, a7, a8⟩
theorem PI.as {f : Nat → Int32} {a d p E : Nat} {K L M : List Nat} (h : PI f a ((K ++ L) ++ M) d p E) : PI f a (K ++ (L ++ M)) d p E := by rw [← List.append_assoc]; exact h
theorem PI.em {f : Nat → Int32} {a d d' p E t : Nat} {K : List Nat} {x : Int32} (h : PI f a K d p E) (hk : K.length + 1 ≤ p) (hd : 3 * d' ≤ p) (hs : stepd x d = some d') (ht : x = rcd t) : PI (emt f a K.length x) a (K ++ [t]) d' p E := by
  obtain ⟨a1, a2, a3, a4, a5, a6, a7, a8⟩ := h
  have e : (K ++ [t]).length = K.length + 1 := by rw [List.length_append]; rfl
  refine ⟨a1, a2, a3, by rw [e]; exact em_k, by rw [e]; exact hk, hd, by rw [e]; exact em_sd a1 (by omega) a7 hs, fun i hi => ?_⟩
  rw [e] at hi
  by_cases q : i = K.length
  · subst q
    rw [emt, pk_un (by omega), pk_us, getD_r, ht]
  · rw [emt, pk_un (by omega), pk_un (by omega), getD_l (by omega)]
    exact a8 i (by omega)
theorem rcd_t {j i v : Nat} (hj : j < 6) (hi : i < 3) (hv : v ≤ 99) : nI (j + 8 * i + 32 * v) = rcd (j * 300 + i * 100 + v) := by
  rw [rcd, if_pos (by omega)]
  congr 1
  omega
theorem rcd_c {w v K : Nat} (hw : (w = 0 ∧ K = 10) ∨ (w = 1 ∧ K = 200) ∨ (w = 3 ∧ K = 400)) (hv : v ≤ 99) : nI 0 - nI K - nI v = rcd (2000 + 100 * w + v) := by
  have e : (2000 + 100 * w + v - 2000) / 100 = w := by omega
  have e2 : (2000 + 100 * w + v - 2000) % 100 = v := by omega
  rw [rcd, if_neg (by omega), if_neg (by omega), e, e2]
  rcases hw with ⟨rfl, rfl⟩ | ⟨rfl, rfl⟩ | ⟨rfl, rfl⟩ <;> rfl
theorem stepd_test {j i v d : Nat} (hj : j < 6) (hi : i < 3) (hv : v ≤ 99) (hd : d < 60) : stepd (nI (j + 8 * i + 32 * v)) d = some (d + 1) := by
  have e : nI (j + 8 * i + 32 * v) - nI (j + 8 * i + 32 * v) / 8 * 8 = nI ((j + 8 * i + 32 * v) % 8) := pk_rem (d := 8) (by omega) (by omega) (by omega)
  rw [stepd, if_pos (nI_pos' (by omega)), if_pos ⟨by rw [e]; exact nI_lt (b := 6) (by omega) (by omega), hd⟩]
theorem stepd_not {d : Nat} (h : 1 ≤ d) : stepd (-1) d = some d := by rw [stepd, if_neg (by decide), if_pos rfl, if_pos h]
theorem stepd_both {d : Nat} (h : 2 ≤ d) : stepd (-2) d = some (d - 1) := by rw [stepd, if_neg (by decide), if_neg (by decide), if_pos (by decide), if_pos h]
theorem stepd_either {d : Nat} (h : 2 ≤ d) : stepd (-3) d = some (d - 1) := by rw [stepd, if_neg (by decide), if_neg (by decide), if_pos (by decide), if_pos h]

theorem kc_emitsW_0 : ∀ w ∈ wsX120, w ∈ wsX12_emits := fun w h => List.mem_cons_of_mem _ (gin_wsX120 w h)
theorem kc_emitsW_1 : (.fieldLink RX12 65 "MistHeapsModel" "isWrong" "Z" : Cond) ∈ wsX12_emits := kc_of 1147 rfl rfl rfl
set_option maxHeartbeats 4000000 in
set_option maxRecDepth 100000 in
theorem c_emitsW (l : Launch) (dC : Nat → ClassId) (dI : Nat → Nat → Nat) (m0 aS aI aB aT aG aO aN aD aY : Nat) (th im ac sp en wg op se dn rn kd nu tv : Int32) (bv : Int64) (x : Int32) : Met l yX12_emits wsX12_emits ({ frames := 0, cells := 0, slots := 0, locals := 0 } : Room) (va_Pc [.ref m0, .int x] (fun U => va_P (dC, dI) vwCl [(zo14irriiiiiirriirrrrlriiii m0 th aS aI im ac sp en 1 op aB aT se dn aG aO aN aD bv aY rn kd nu tv)] U.heap ∧ va_K (dC, dI) vwCl [] U)) (va_Sv (fun _ => True)) 0 0 (fun _ => False) := by
  refine met_ofQ (cc := cX12_emits) (maxL := 2) (ret := none) (by decide) rfl ?_
  intro p e s m args below meth c s₁ Q B hml hv hQ
  obtain ⟨rfl, hP, hK⟩ := hv
  have hx := B.exec
  have hb := B.bytes
  have hr := B.returns
  have hts := atoms_spec (ws := wsX12_emits) B.pre
  have hown : s.vm.findClass RX12 = some m.cls := findClass_of_methodNamed B.named
  have hlocks := B.notSynchronized
  obtain ⟨A, hAe⟩ : ∃ A : Nat → Prop, A = fun _ => False := ⟨_, rfl⟩
  rw [← hAe] at hQ
  have hS : va_S A s.heap s.heap [] := va_S.rf
  have hl := lv_entry [.ref m0, .int x] (n := 2) (Nat.le_of_ble_eq_true rfl)
  rw [lg_entry_eq]
  generalize (lg_sl [.ref m0, .int x] ++ List.replicate (2 - (lg_sl [.ref m0, .int x]).length) Slot.unset).toArray = ls at hl ⊢
  generalize hag : ([.ref m0, .int x] : List Value).toArray = args at hts hQ ⊢
  have hl : lv_has ls 2 [(0, .ref m0), (1, .int x)] := hl
  refine lv_aload_n hx hb dX12_emits_0 rfl (lv_at hl 0 rfl) ?_
  refine va_get (D := (dC, dI)) (ci := 14) (v := .int 1) (C := RX12) (T := TX12) (N := 23) hx hb hts kc_emitsW_0 hown hK hP 0 rfl rfl 7 (by decide) (hts (.fieldLink RX12 65 "MistHeapsModel" "isWrong" "Z") kc_emitsW_1) (fun _ h9 => h9) rfl dX12_emits_1 ?_
  refine lv_if_ne (tgt := 56) hx hb dX12_emits_4 (by decide) (fun _ => ?_) (fun c_1 => absurd c_1 (by decide))
  rw [hQ]
  exact W.vret hx hb hr (fun tQ htQ hWQ => ⟨rfl, trivial, by rw [htQ]⟩) (fun q hq => absurd hq List.not_mem_nil) dX12_emits_56

theorem kc_factorW_0 : ∀ w ∈ wsX120, w ∈ wsX12_factor := fun w h => List.mem_cons_of_mem _ (gin_wsX120 w h)
theorem kc_factorW_1 : (.fieldLink RX12 65 "MistHeapsModel" "isWrong" "Z" : Cond) ∈ wsX12_factor := kc_of 1147 rfl rfl rfl
set_option maxHeartbeats 4000000 in
set_option maxRecDepth 100000 in
theorem c_factorW (l : Launch) (dC : Nat → ClassId) (dI : Nat → Nat → Nat) (m0 aS aI aB aT aG aO aN aD aY : Nat) (th im ac sp en wg op se dn rn kd nu tv : Int32) (bv : Int64) : Met l yX12_factor wsX12_factor ({ frames := 0, cells := 0, slots := 0, locals := 0 } : Room) (va_Pc [.ref m0] (fun U => va_P (dC, dI) vwCl [(zo14irriiiiiirriirrrrlriiii m0 th aS aI im ac sp en 1 op aB aT se dn aG aO aN aD bv aY rn kd nu tv)] U.heap ∧ va_K (dC, dI) vwCl [] U)) (va_Sv (fun _ => True)) 0 0 (fun _ => False) := by
  refine met_ofQ (cc := cX12_factor) (maxL := 5) (ret := none) (by decide) rfl ?_
  intro p e s m args below meth c s₁ Q B hml hv hQ
  obtain ⟨rfl, hP, hK⟩ := hv
  have hx := B.exec
  have hb := B.bytes
  have hr := B.returns
  have hts := atoms_spec (ws := wsX12_factor) B.pre
  have hown : s.vm.findClass RX12 = some m.cls := findClass_of_methodNamed B.named
  have hlocks := B.notSynchronized
  obtain ⟨A, hAe⟩ : ∃ A : Nat → Prop, A = fun _ => False := ⟨_, rfl⟩
  rw [← hAe] at hQ
  have hS : va_S A s.heap s.heap [] := va_S.rf
  have hl := lv_entry [.ref m0] (n := 5) (Nat.le_of_ble_eq_true rfl)
  rw [lg_entry_eq]
  generalize (lg_sl [.ref m0] ++ List.replicate (5 - (lg_sl [.ref m0]).length) Slot.unset).toArray = ls at hl ⊢
  generalize hag : ([.ref m0] : List Value).toArray = args at hts hQ ⊢
  have hl : lv_has ls 5 [(0, .ref m0)] := hl
  refine lv_aload_n hx hb dX12_factor_0 rfl (lv_at hl 0 rfl) ?_
  refine va_get (D := (dC, dI)) (ci := 14) (v := .int 1) (C := RX12) (T := TX12) (N := 23) hx hb hts kc_factorW_0 hown hK hP 0 rfl rfl 7 (by decide) (hts (.fieldLink RX12 65 "MistHeapsModel" "isWrong" "Z") kc_factorW_1) (fun _ h9 => h9) rfl dX12_factor_1 ?_
  refine lv_if_eq (tgt := 8) hx hb dX12_factor_4 (by decide) (fun c_1 => absurd c_1 (by decide)) (fun _ => ?_)
  rw [hQ]
  exact W.vret hx hb hr (fun tQ htQ hWQ => ⟨rfl, trivial, by rw [htQ]⟩) (fun q hq => absurd hq List.not_mem_nil) dX12_factor_7

theorem kc_everyW_0 : ∀ w ∈ wsX120, w ∈ wsX12_every := fun w h => List.mem_cons_of_mem _ (gin_wsX120 w h)
theorem kc_everyW_1 : (.fieldLink RX12 65 "MistHeapsModel" "isWrong" "Z" : Cond) ∈ wsX12_every := kc_of 1147 rfl rfl rfl
set_option maxHeartbeats 4000000 in
set_option maxRecDepth 100000 in
theorem c_everyW (l : Launch) (dC : Nat → ClassId) (dI : Nat → Nat → Nat) (m0 aS aI aB aT aG aO aN aD aY : Nat) (th im ac sp en wg op se dn rn kd nu tv : Int32) (bv : Int64) : Met l yX12_every wsX12_every ({ frames := 1, cells := 0, slots := 0, locals := 24 } : Room) (va_Pc [.ref m0] (fun U => va_P (dC, dI) vwCl [(zo14irriiiiiirriirrrrlriiii m0 th aS aI im ac sp en 1 op aB aT se dn aG aO aN aD bv aY rn kd nu tv)] U.heap ∧ va_K (dC, dI) vwCl [] U)) (va_Sv (fun _ => True)) 0 0 (fun _ => False) := by
  refine met_ofQ (cc := cX12_every) (maxL := 1) (ret := none) (by decide) rfl ?_
  intro p e s m args below meth c s₁ Q B hml hv hQ
  obtain ⟨rfl, hP, hK⟩ := hv
  have hx := B.exec
  have hb := B.bytes
  have hr := B.returns
  have hts := atoms_spec (ws := wsX12_every) B.pre
  have hown : s.vm.findClass RX12 = some m.cls := findClass_of_methodNamed B.named
  have hlocks := B.notSynchronized
  obtain ⟨A, hAe⟩ : ∃ A : Nat → Prop, A = fun _ => False := ⟨_, rfl⟩
  rw [← hAe] at hQ
  have hS : va_S A s.heap s.heap [] := va_S.rf
  have hl := lv_entry [.ref m0] (n := 1) (Nat.le_of_ble_eq_true rfl)
  rw [lg_entry_eq]
  generalize (lg_sl [.ref m0] ++ List.replicate (1 - (lg_sl [.ref m0]).length) Slot.unset).toArray = ls at hl ⊢
  generalize hag : ([.ref m0] : List Value).toArray = args at hts hQ ⊢
  have hl : lv_has ls 1 [(0, .ref m0)] := hl
  refine lv_aload_n hx hb dX12_every_0 rfl (lv_at hl 0 rfl) ?_
  have hPc := hP.sub (ws' := [(zo14irriiiiiirriirrrrlriiii m0 th aS aI im ac sp en 1 op aB aT se dn aG aO aN aD bv aY rn kd nu tv)]) [0] rfl
  have hKc := hK.sub (tys' := []) [] rfl
  refine va_csv (va_runV (As := []) (rest := []) ⟨hx, hb, hml, hown, hts⟩ (c_factorW l dC dI m0 aS aI aB aT aG aO aN aD aY th im ac sp en 1 op se dn rn kd nu tv bv) (cwV 0 hts gX12_every_X12_factor rfl rfl rfl hd_yX12_factor ⟨Nat.le_of_ble_eq_true rfl, Nat.le_of_ble_eq_true rfl⟩) ⟨fun a U g mk q => by obtain ⟨q0, qP, qK⟩ := q; exact ⟨q0, qP, va_K.moved (u := U) (U := U.calling g mk a) (Vm.Alike.refl U.vm) qK⟩, va_recv hK hP (ci := 14) (q := (RX12, TX12, 23)) (q0 := 0) rfl rfl, fun U hU hW => ⟨rfl, by rw [hU]; exact hPc, va_K.moved hW.alike hKc⟩⟩ rfl rfl hl.1 rfl (lv_room (Nat.le_of_ble_eq_true rfl)) dX12_every_1 ⟨Nat.le_of_ble_eq_true rfl, Nat.le_of_ble_eq_true rfl⟩).run (fun hw_2 => ?_)
  refine lv_aload_n hx hb dX12_every_4 rfl (lv_at hl 0 rfl) ?_
  refine va_get (D := (dC, dI)) (ci := 14) (v := .int 1) (C := RX12) (T := TX12) (N := 23) hx hb hts kc_everyW_0 hown hK hP 0 rfl rfl 7 (by decide) (hts (.fieldLink RX12 65 "MistHeapsModel" "isWrong" "Z") kc_everyW_1) (fun _ h9 => h9) rfl dX12_every_5 ?_
  refine lv_if_ne (tgt := 43) hx hb dX12_every_8 (by decide) (fun _ => ?_) (fun c_3 => absurd c_3 (by decide))
  rw [hQ]
  exact W.vret hx hb hr (fun tQ htQ hWQ => ⟨rfl, trivial, by rw [htQ]⟩) (fun q hq => absurd hq List.not_mem_nil) dX12_every_43

theorem kc_someW_0 : ∀ w ∈ wsX120, w ∈ wsX12_some := fun w h => List.mem_cons_of_mem _ (gin_wsX120 w h)
theorem kc_someW_1 : (.fieldLink RX12 65 "MistHeapsModel" "isWrong" "Z" : Cond) ∈ wsX12_some := kc_of 1147 rfl rfl rfl
set_option maxHeartbeats 4000000 in
set_option maxRecDepth 100000 in
theorem c_someW (l : Launch) (dC : Nat → ClassId) (dI : Nat → Nat → Nat) (m0 aS aI aB aT aG aO aN aD aY : Nat) (th im ac sp en wg op se dn rn kd nu tv : Int32) (bv : Int64) : Met l yX12_some wsX12_some ({ frames := 2, cells := 0, slots := 0, locals := 44 } : Room) (va_Pc [.ref m0] (fun U => va_P (dC, dI) vwCl [(zo14irriiiiiirriirrrrlriiii m0 th aS aI im ac sp en 1 op aB aT se dn aG aO aN aD bv aY rn kd nu tv)] U.heap ∧ va_K (dC, dI) vwCl [] U)) (va_Sv (fun _ => True)) 0 0 (fun _ => False) := by
  refine met_ofQ (cc := cX12_some) (maxL := 1) (ret := none) (by decide) rfl ?_
  intro p e s m args below meth c s₁ Q B hml hv hQ
  obtain ⟨rfl, hP, hK⟩ := hv
  have hx := B.exec
  have hb := B.bytes
  have hr := B.returns
  have hts := atoms_spec (ws := wsX12_some) B.pre
  have hown : s.vm.findClass RX12 = some m.cls := findClass_of_methodNamed B.named
  have hlocks := B.notSynchronized
  obtain ⟨A, hAe⟩ : ∃ A : Nat → Prop, A = fun _ => False := ⟨_, rfl⟩
  rw [← hAe] at hQ
  have hS : va_S A s.heap s.heap [] := va_S.rf
  have hl := lv_entry [.ref m0] (n := 1) (Nat.le_of_ble_eq_true rfl)
  rw [lg_entry_eq]
  generalize (lg_sl [.ref m0] ++ List.replicate (1 - (lg_sl [.ref m0]).length) Slot.unset).toArray = ls at hl ⊢
  generalize hag : ([.ref m0] : List Value).toArray = args at hts hQ ⊢
  have hl : lv_has ls 1 [(0, .ref m0)] := hl
  refine lv_aload_n hx hb dX12_some_0 rfl (lv_at hl 0 rfl) ?_
  have hPc := hP.sub (ws' := [(zo14irriiiiiirriirrrrlriiii m0 th aS aI im ac sp en 1 op aB aT se dn aG aO aN aD bv aY rn kd nu tv)]) [0] rfl
  have hKc := hK.sub (tys' := []) [] rfl
  refine va_csv (va_runV (As := []) (rest := []) ⟨hx, hb, hml, hown, hts⟩ (c_everyW l dC dI m0 aS aI aB aT aG aO aN aD aY th im ac sp en 1 op se dn rn kd nu tv bv) (cwV 0 hts gX12_some_X12_every rfl rfl rfl hd_yX12_every ⟨Nat.le_of_ble_eq_true rfl, Nat.le_of_ble_eq_true rfl⟩) ⟨fun a U g mk q => by obtain ⟨q0, qP, qK⟩ := q; exact ⟨q0, qP, va_K.moved (u := U) (U := U.calling g mk a) (Vm.Alike.refl U.vm) qK⟩, va_recv hK hP (ci := 14) (q := (RX12, TX12, 23)) (q0 := 0) rfl rfl, fun U hU hW => ⟨rfl, by rw [hU]; exact hPc, va_K.moved hW.alike hKc⟩⟩ rfl rfl hl.1 rfl (lv_room (Nat.le_of_ble_eq_true rfl)) dX12_some_1 ⟨Nat.le_of_ble_eq_true rfl, Nat.le_of_ble_eq_true rfl⟩).run (fun hw_2 => ?_)
  refine lv_aload_n hx hb dX12_some_4 rfl (lv_at hl 0 rfl) ?_
  refine va_get (D := (dC, dI)) (ci := 14) (v := .int 1) (C := RX12) (T := TX12) (N := 23) hx hb hts kc_someW_0 hown hK hP 0 rfl rfl 7 (by decide) (hts (.fieldLink RX12 65 "MistHeapsModel" "isWrong" "Z") kc_someW_1) (fun _ h9 => h9) rfl dX12_some_5 ?_
  refine lv_if_ne (tgt := 43) hx hb dX12_some_8 (by decide) (fun _ => ?_) (fun c_3 => absurd c_3 (by decide))
  rw [hQ]
  exact W.vret hx hb hr (fun tQ htQ hWQ => ⟨rfl, trivial, by rw [htQ]⟩) (fun q hq => absurd hq List.not_mem_nil) dX12_some_43

section
variable {s : Nat → Nat} {F : Nat → pR} {p q : Nat} {L : List Nat}
theorem pEv_n (h : F p = (none, q)) : pEv s F p = (none, q) := by rw [pEv, h]; exact ps_none
theorem pEv_s (h : F p = (some L, q)) : pEv s F p = pSep s 38 1802 F 101 (some L, q) := by rw [pEv, h]
theorem pSm_n (h : pEv s F p = (none, q)) : pSm s F p = (none, q) := by rw [pSm, h]; exact ps_none
theorem pSm_s (h : pEv s F p = (some L, q)) : pSm s F p = pSep s 124 1803 (pEv s F) 101 (some L, q) := by rw [pSm, h]
end
