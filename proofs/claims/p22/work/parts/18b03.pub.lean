theorem ggX11_told_J13_bitCount_95d88 : GoodIn wsX11_told wsJ13_bitCount_95d88 := gga_of 530 rfl rfl rfl
theorem gX11_told_J13_bitCount_95d88 : GoodIn wsX11_told (va_wsS RX11 77 yJ13_bitCount_95d88 wsJ13_bitCount_95d88) := goodIn_app (ggh_of [528, 529, 80] rfl rfl rfl) ggX11_told_J13_bitCount_95d88
noncomputable def dk18b03pub_cX11_told_0 : List (Nat × Instr × Nat) := [(0, .iload_n 1, 1), (1, .tableswitch 69 0 3 #[31, 39, 47, 58], 31), (32, .aload_n 0, 1), (33, .getfield 14, 3), (36, .getfield 85, 3), (39, .ireturn, 1), (40, .aload_n 0, 1), (41, .getfield 14, 3), (44, .getfield 88, 3), (47, .ireturn, 1), (48, .aload_n 0, 1), (49, .getfield 14, 3), (52, .getfield 68, 3), (55, .getfield 91, 3), (58, .ireturn, 1), (59, .aload_n 0, 1), (60, .getfield 14, 3), (63, .getfield 73, 3), (66, .invokestatic 77, 3), (69, .ireturn, 1), (70, .iconst (-1), 1), (71, .ireturn, 1)]
set_option maxRecDepth 100000 in
theorem dk18b03pub_cX11_told_0_a : dkA cX11_told dk18b03pub_cX11_told_0 = true := by decide +kernel
theorem dX11_told_0 : decode cX11_told 0 = .ok (.iload_n 1, 1) := dkAt dk18b03pub_cX11_told_0_a 0 rfl
theorem dX11_told_1 : decode cX11_told 1 = .ok (.tableswitch 69 0 3 #[31, 39, 47, 58], 31) := dkAt dk18b03pub_cX11_told_0_a 1 rfl
theorem dX11_told_32 : decode cX11_told 32 = .ok (.aload_n 0, 1) := dkAt dk18b03pub_cX11_told_0_a 2 rfl
theorem dX11_told_33 : decode cX11_told 33 = .ok (.getfield 14, 3) := dkAt dk18b03pub_cX11_told_0_a 3 rfl
theorem dX11_told_36 : decode cX11_told 36 = .ok (.getfield 85, 3) := dkAt dk18b03pub_cX11_told_0_a 4 rfl
theorem dX11_told_39 : decode cX11_told 39 = .ok (.ireturn, 1) := dkAt dk18b03pub_cX11_told_0_a 5 rfl
theorem dX11_told_40 : decode cX11_told 40 = .ok (.aload_n 0, 1) := dkAt dk18b03pub_cX11_told_0_a 6 rfl
theorem dX11_told_41 : decode cX11_told 41 = .ok (.getfield 14, 3) := dkAt dk18b03pub_cX11_told_0_a 7 rfl
theorem dX11_told_44 : decode cX11_told 44 = .ok (.getfield 88, 3) := dkAt dk18b03pub_cX11_told_0_a 8 rfl
theorem dX11_told_47 : decode cX11_told 47 = .ok (.ireturn, 1) := dkAt dk18b03pub_cX11_told_0_a 9 rfl
theorem dX11_told_48 : decode cX11_told 48 = .ok (.aload_n 0, 1) := dkAt dk18b03pub_cX11_told_0_a 10 rfl
theorem dX11_told_49 : decode cX11_told 49 = .ok (.getfield 14, 3) := dkAt dk18b03pub_cX11_told_0_a 11 rfl
theorem dX11_told_52 : decode cX11_told 52 = .ok (.getfield 68, 3) := dkAt dk18b03pub_cX11_told_0_a 12 rfl
theorem dX11_told_55 : decode cX11_told 55 = .ok (.getfield 91, 3) := dkAt dk18b03pub_cX11_told_0_a 13 rfl
theorem dX11_told_58 : decode cX11_told 58 = .ok (.ireturn, 1) := dkAt dk18b03pub_cX11_told_0_a 14 rfl
theorem dX11_told_59 : decode cX11_told 59 = .ok (.aload_n 0, 1) := dkAt dk18b03pub_cX11_told_0_a 15 rfl
theorem dX11_told_60 : decode cX11_told 60 = .ok (.getfield 14, 3) := dkAt dk18b03pub_cX11_told_0_a 16 rfl
theorem dX11_told_63 : decode cX11_told 63 = .ok (.getfield 73, 3) := dkAt dk18b03pub_cX11_told_0_a 17 rfl
theorem dX11_told_66 : decode cX11_told 66 = .ok (.invokestatic 77, 3) := dkAt dk18b03pub_cX11_told_0_a 18 rfl
theorem dX11_told_69 : decode cX11_told 69 = .ok (.ireturn, 1) := dkAt dk18b03pub_cX11_told_0_a 19 rfl
theorem dX11_told_70 : decode cX11_told 70 = .ok (.iconst (-1), 1) := dkAt dk18b03pub_cX11_told_0_a 20 rfl
theorem dX11_told_71 : decode cX11_told 71 = .ok (.ireturn, 1) := dkAt dk18b03pub_cX11_told_0_a 21 rfl
theorem kc_xTold_0 : ∀ w ∈ wsX110, w ∈ wsX11_told := fun w h => List.mem_cons_of_mem _ (gin_wsX110 w h)
theorem kc_xTold_1 : (.fieldLink RX11 14 "MistHeaps" "scene" "LMistHeaps$Scene;" : Cond) ∈ wsX11_told := kc_of 328 rfl rfl rfl
theorem kc_xTold_2 : ∀ w ∈ wsX80, w ∈ wsX11_told := fun w h => List.mem_cons_of_mem _ (gin_wsX80 w h)
theorem kc_xTold_3 : (.fieldLink RX11 85 "MistHeaps$Scene" "mist" "I" : Cond) ∈ wsX11_told := kc_of 164 rfl rfl rfl
theorem kc_xTold_4 : (.fieldLink RX11 88 "MistHeaps$Scene" "snow" "I" : Cond) ∈ wsX11_told := kc_of 166 rfl rfl rfl
theorem kc_xTold_5 : (.fieldLink RX11 68 "MistHeaps$Scene" "hill" "LMistHeaps$Hill;" : Cond) ∈ wsX11_told := kc_of 157 rfl rfl rfl
theorem kc_xTold_6 : (.fieldLink RX11 91 "MistHeaps$Hill" "sight" "I" : Cond) ∈ wsX11_told := kc_of 115 rfl rfl rfl
theorem kc_xTold_7 : ∀ w ∈ wsX50, w ∈ wsX11_told := fun w h => List.mem_cons_of_mem _ (gin_wsX50 w h)
theorem kc_xTold_8 : (.fieldLink RX11 73 "MistHeaps$Scene" "edges" "J" : Cond) ∈ wsX11_told := kc_of 161 rfl rfl rfl
set_option maxHeartbeats 4000000 in
set_option maxRecDepth 100000 in
theorem c_xTold (l : Launch) (dC : Nat → ClassId) (dI : Nat → Nat → Nat)  (h0 : Nat) (sc : Nat) (kp : Nat) (bl : Nat) (go : Nat) (ch : Nat) (bo : Nat) (aTp : Nat) (aHl : Nat) (aHs : Nat) (aWk : Nat) (aBk : Nat) (aFc : Nat) (bW : Nat) (bA : Nat) (bE : Nat) (bC : Nat) (ts : Nat) (nh : Nat) (n : Nat) (wz : Nat) (bz : Nat) (cl : Nat) (mi : Int32) (sn : Int32) (sg : Int32) (cdd : Int32) (szz : Int32) (att : Int32) (nmb : Int32) (ik : Int32) (x : Int32) (cbW : ClassId) (cbA : ClassId) (cbE : ClassId) (cbC : ClassId) (fbW : Nat → Int32) (fbA : Nat → Int32) (fbE : Nat → Int32) (fbC : Nat → Int32) (tpv : Value) (ee : Nat) (hC : List pCla) (hee : ee < 2 ^ 36) (hsg : sg = nI (sgC hC)) : Met l yX11_told wsX11_told ({ frames := 1, cells := 0, slots := 0, locals := 21 } : Room) (va_Pc [.ref h0, .int x] (fun U => va_P (dC, dI) vwCl [(zo13rrirrrr h0 sc kp ik bl go ch bo), (zo10ririliiriririr sc aTp (nI ts) aHl (nI nh) (lN ee) mi sn aHs (nI n) aWk (nI wz) aBk (nI bz) aFc)] U.heap ∧ va_K (dC, dI) vwCl [] U ∧ Fz dC dI [(zo7iirrrriviii aHl sg (nI cl) bW bA bE bC cdd tpv szz att nmb), (zaI bW cbW 10 fbW), (zaI bA cbA 10 fbA), (zaI bE cbE 10 fbE), (zaI bC cbC 100 fbC)] [(cbW, .int), (cbA, .int), (cbE, .int), (cbC, .int)] (fun _ => False) U)) (vp_Si (fun r => r = tdR mi sn (sgC hC) ee x)) 0 0 (fun _ => False) := by
  refine met_ofQ (cc := cX11_told) (maxL := 2) (ret := (some .int)) (by decide) rfl ?_
  intro p e s m args below meth c s₁ Q B hml hv hQ
  obtain ⟨rfl, hP, hK, hZ⟩ := hv
  have hx := B.exec
  have hb := B.bytes
  have hr := B.returns
  have hts := atoms_spec (ws := wsX11_told) B.pre
  have hown : s.vm.findClass RX11 = some m.cls := findClass_of_methodNamed B.named
  have hlocks := B.notSynchronized
  obtain ⟨A, hAe⟩ : ∃ A : Nat → Prop, A = fun _ => False := ⟨_, rfl⟩
  rw [← hAe] at hQ hZ
  have hS : va_S A s.heap s.heap [] := va_S.rf
  have hl := lv_entry [.ref h0, .int x] (n := 2) (Nat.le_of_ble_eq_true rfl)
  rw [lg_entry_eq]
  generalize (lg_sl [.ref h0, .int x] ++ List.replicate (2 - (lg_sl [.ref h0, .int x]).length) Slot.unset).toArray = ls at hl ⊢
  generalize hag : ([.ref h0, .int x] : List Value).toArray = args at hts hQ ⊢
  have hl : lv_has ls 2 [(0, .ref h0), (1, .int x)] := hl
  subst hsg
  refine lv_iload_n hx hb dX11_told_0 rfl (lv_at hl 1 rfl) ?_
  by_cases c_1_0 : x = 0
  · skip
    refine lv_tableIn (tgt := 32) hx hb dX11_told_1 (by rw [c_1_0]; decide) (by rw [c_1_0]; decide) (by rw [c_1_0]; rfl) (by decide) ?_
    refine lv_aload_n hx hb dX11_told_32 rfl (lv_at hl 0 rfl) ?_
    refine va_get (D := (dC, dI)) (ci := 13) (v := .ref sc) (C := RX11) (T := TX11) (N := 7) hx hb hts kc_xTold_0 hown hK hP 0 rfl rfl 0 (by decide) (hts (.fieldLink RX11 14 "MistHeaps" "scene" "LMistHeaps$Scene;") kc_xTold_1) (fun _ h9 => h9) rfl dX11_told_33 ?_
    refine va_get (D := (dC, dI)) (ci := 10) (v := .int mi) (C := RX8) (T := TX8) (N := 14) hx hb hts kc_xTold_2 hown hK hP 1 rfl rfl 5 (by decide) (hts (.fieldLink RX11 85 "MistHeaps$Scene" "mist" "I") kc_xTold_3) (fun _ h9 => h9) rfl dX11_told_36 ?_
    rw [hQ]
    exact W.iret (v := mi) hx hb hr (fun tQ htQ hWQ => ⟨mi, rfl, td_0 (by assumption), by rw [htQ]⟩) (fun q hq => absurd hq List.not_mem_nil) dX11_told_39
  by_cases c_1_1 : x = 1
  · skip
    refine lv_tableIn (tgt := 40) hx hb dX11_told_1 (by rw [c_1_1]; decide) (by rw [c_1_1]; decide) (by rw [c_1_1]; rfl) (by decide) ?_
    refine lv_aload_n hx hb dX11_told_40 rfl (lv_at hl 0 rfl) ?_
    refine va_get (D := (dC, dI)) (ci := 13) (v := .ref sc) (C := RX11) (T := TX11) (N := 7) hx hb hts kc_xTold_0 hown hK hP 0 rfl rfl 0 (by decide) (hts (.fieldLink RX11 14 "MistHeaps" "scene" "LMistHeaps$Scene;") kc_xTold_1) (fun _ h9 => h9) rfl dX11_told_41 ?_
    refine va_get (D := (dC, dI)) (ci := 10) (v := .int sn) (C := RX8) (T := TX8) (N := 14) hx hb hts kc_xTold_2 hown hK hP 1 rfl rfl 6 (by decide) (hts (.fieldLink RX11 88 "MistHeaps$Scene" "snow" "I") kc_xTold_4) (fun _ h9 => h9) rfl dX11_told_44 ?_
    rw [hQ]
    exact W.iret (v := sn) hx hb hr (fun tQ htQ hWQ => ⟨sn, rfl, td_1 (by assumption), by rw [htQ]⟩) (fun q hq => absurd hq List.not_mem_nil) dX11_told_47
  by_cases c_1_2 : x = 2
  · skip
    refine lv_tableIn (tgt := 48) hx hb dX11_told_1 (by rw [c_1_2]; decide) (by rw [c_1_2]; decide) (by rw [c_1_2]; rfl) (by decide) ?_
    refine lv_aload_n hx hb dX11_told_48 rfl (lv_at hl 0 rfl) ?_
    refine va_get (D := (dC, dI)) (ci := 13) (v := .ref sc) (C := RX11) (T := TX11) (N := 7) hx hb hts kc_xTold_0 hown hK hP 0 rfl rfl 0 (by decide) (hts (.fieldLink RX11 14 "MistHeaps" "scene" "LMistHeaps$Scene;") kc_xTold_1) (fun _ h9 => h9) rfl dX11_told_49 ?_
    refine va_get (D := (dC, dI)) (ci := 10) (v := .ref aHl) (C := RX8) (T := TX8) (N := 14) hx hb hts kc_xTold_2 hown hK hP 1 rfl rfl 2 (by decide) (hts (.fieldLink RX11 68 "MistHeaps$Scene" "hill" "LMistHeaps$Hill;") kc_xTold_5) (fun _ h9 => h9) rfl dX11_told_52 ?_
    refine va_get (D := (dC, dI)) (ci := 7) (v := .int (nI (sgC hC))) (C := RX5) (T := TX5) (N := 11) hx hb hts kc_xTold_7 hown hZ.2.1 (hZ.P hS) 0 rfl rfl 0 (by decide) (hts (.fieldLink RX11 91 "MistHeaps$Hill" "sight" "I") kc_xTold_6) (fun _ h9 => h9) rfl dX11_told_55 ?_
    rw [hQ]
    exact W.iret (v := nI (sgC hC)) hx hb hr (fun tQ htQ hWQ => ⟨nI (sgC hC), rfl, td_2 (by assumption), by rw [htQ]⟩) (fun q hq => absurd hq List.not_mem_nil) dX11_told_58
  by_cases c_1_3 : x = 3
  · skip
    refine lv_tableIn (tgt := 59) hx hb dX11_told_1 (by rw [c_1_3]; decide) (by rw [c_1_3]; decide) (by rw [c_1_3]; rfl) (by decide) ?_
    refine lv_aload_n hx hb dX11_told_59 rfl (lv_at hl 0 rfl) ?_
    refine va_get (D := (dC, dI)) (ci := 13) (v := .ref sc) (C := RX11) (T := TX11) (N := 7) hx hb hts kc_xTold_0 hown hK hP 0 rfl rfl 0 (by decide) (hts (.fieldLink RX11 14 "MistHeaps" "scene" "LMistHeaps$Scene;") kc_xTold_1) (fun _ h9 => h9) rfl dX11_told_60 ?_
    refine va_get (D := (dC, dI)) (ci := 10) (v := .long (lN ee)) (C := RX8) (T := TX8) (N := 14) hx hb hts kc_xTold_2 hown hK hP 1 rfl rfl 4 (by decide) (hts (.fieldLink RX11 73 "MistHeaps$Scene" "edges" "J") kc_xTold_8) (fun _ h9 => h9) rfl dX11_told_63 ?_
    refine vp_callSi (va_runS (As := [.long (lN ee)]) (rest := []) ⟨hx, hb, hml, hown, hts⟩ (c_bits l dC dI ee hee) (va_cwS 1 hts gX11_told_J13_bitCount_95d88 rfl rfl rfl hd_yJ13_bitCount_95d88.2 ⟨Nat.le_of_ble_eq_true rfl, Nat.le_of_ble_eq_true rfl⟩) ⟨fun a U g mk q => ⟨q.1, trivial⟩, fun U hU hW => ⟨rfl, trivial⟩⟩ rfl rfl hl.1 rfl (lv_room (Nat.le_of_ble_eq_true rfl)) dX11_told_66 ⟨Nat.le_of_ble_eq_true rfl, Nat.le_of_ble_eq_true rfl⟩).run (fun r_2 hw_3 => ?_)
    obtain rfl := hw_3
    rw [hQ]
    exact W.iret (v := nI (bsum 36 ee)) hx hb hr (fun tQ htQ hWQ => ⟨nI (bsum 36 ee), rfl, td_3 (by assumption), by rw [htQ]⟩) (fun q hq => absurd hq List.not_mem_nil) dX11_told_69
  refine lv_tableOut (tgt := 70) hx hb dX11_told_1 (sw_out 0 3 x (fun k hk => by
    match k, hk with
    | 0, _ => exact c_1_0
    | 1, _ => exact c_1_1
    | 2, _ => exact c_1_2
    | 3, _ => exact c_1_3
    | k + 4, hk => exact absurd hk (by omega))) (by decide) ?_
  refine lv_iconst (v := (-1)) hx hb dX11_told_70 (by decide) ?_
  rw [hQ]
  exact W.iret (v := (-1)) hx hb hr (fun tQ htQ hWQ => ⟨(-1), rfl, td_n (by assumption) (by assumption) (by assumption) (by assumption), by rw [htQ]⟩) (fun q hq => absurd hq List.not_mem_nil) dX11_told_71
