theorem dX12_wayOf_0 : decode cX12_wayOf 0 = .ok (.iload_n 1, 1) := by decide +kernel
theorem dX12_wayOf_1 : decode cX12_wayOf 1 = .ok (.iconst 1, 1) := by decide +kernel
theorem dX12_wayOf_2 : decode cX12_wayOf 2 = .ok (.isub, 1) := by decide +kernel
theorem dX12_wayOf_3 : decode cX12_wayOf 3 = .ok (.iload_n 2, 1) := by decide +kernel
theorem dX12_wayOf_4 : decode cX12_wayOf 4 = .ok (.isub, 1) := by decide +kernel
theorem dX12_wayOf_5 : decode cX12_wayOf 5 = .ok (.istore_n 3, 1) := by decide +kernel
theorem dX12_wayOf_6 : decode cX12_wayOf 6 = .ok (.iload_n 3, 1) := by decide +kernel
theorem dX12_wayOf_7 : decode cX12_wayOf 7 = .ok (.iconst 2, 1) := by decide +kernel
theorem dX12_wayOf_8 : decode cX12_wayOf 8 = .ok (.if_icmp .ne 10, 3) := by decide +kernel
theorem dX12_wayOf_18 : decode cX12_wayOf 18 = .ok (.iload_n 3, 1) := by decide +kernel
theorem dX12_wayOf_19 : decode cX12_wayOf 19 = .ok (.iconst 1, 1) := by decide +kernel
theorem dX12_wayOf_20 : decode cX12_wayOf 20 = .ok (.if_icmp .ne 13, 3) := by decide +kernel
theorem dX12_wayOf_33 : decode cX12_wayOf 33 = .ok (.iload_n 0, 1) := by decide +kernel
theorem dX12_wayOf_34 : decode cX12_wayOf 34 = .ok (.bipush 8, 2) := by decide +kernel
theorem dX12_wayOf_36 : decode cX12_wayOf 36 = .ok (.irem, 1) := by decide +kernel
theorem dX12_wayOf_37 : decode cX12_wayOf 37 = .ok (.ireturn, 1) := by decide +kernel
theorem dX12_wayOf_23 : decode cX12_wayOf 23 = .ok (.iload_n 0, 1) := by decide +kernel
theorem dX12_wayOf_24 : decode cX12_wayOf 24 = .ok (.bipush 8, 2) := by decide +kernel
theorem dX12_wayOf_26 : decode cX12_wayOf 26 = .ok (.idiv, 1) := by decide +kernel
theorem dX12_wayOf_27 : decode cX12_wayOf 27 = .ok (.bipush 8, 2) := by decide +kernel
theorem dX12_wayOf_29 : decode cX12_wayOf 29 = .ok (.irem, 1) := by decide +kernel
theorem dX12_wayOf_30 : decode cX12_wayOf 30 = .ok (.goto 7, 3) := by decide +kernel
theorem dX12_wayOf_11 : decode cX12_wayOf 11 = .ok (.iload_n 0, 1) := by decide +kernel
theorem dX12_wayOf_12 : decode cX12_wayOf 12 = .ok (.bipush 64, 2) := by decide +kernel
theorem dX12_wayOf_14 : decode cX12_wayOf 14 = .ok (.idiv, 1) := by decide +kernel
theorem dX12_wayOf_15 : decode cX12_wayOf 15 = .ok (.goto 22, 3) := by decide +kernel
theorem dX12_clauseHere_0 : decode cX12_clauseHere 0 = .ok (.aload_n 0, 1) := by decide +kernel
set_option maxRecDepth 20000 in
theorem ggX12_clauseHere_X12_here : GoodIn wsX12_clauseHere wsX12_here := goodIn_r _ [6, 7, 8, 9, 104, 105, 106, 107, 108, 109, 110, 111, 112, 113, 114, 115, 116, 117, 118, 119, 120, 121, 122, 123, 124, 125, 126] (by decide +kernel) (by decide +kernel)
set_option maxRecDepth 20000 in
theorem gX12_clauseHere_X12_here : GoodIn wsX12_clauseHere (wsV RX12 69 RX12 yX12_here wsX12_here) := goodIn_app (goodIn_of _ (by decide +kernel)) ggX12_clauseHere_X12_here
theorem dX12_clauseHere_1 : decode cX12_clauseHere 1 = .ok (.invokevirtual 69, 3) := by decide +kernel
theorem dX12_clauseHere_4 : decode cX12_clauseHere 4 = .ok (.lookupswitch 67 #[(100, 55), (104, 43), (115, 36)], 36) := by decide +kernel
theorem dX12_clauseHere_71 : decode cX12_clauseHere 71 = .ok (.aload_n 0, 1) := by decide +kernel
theorem dX12_clauseHere_72 : decode cX12_clauseHere 72 = .ok (.iconst 1, 1) := by decide +kernel
theorem dX12_clauseHere_73 : decode cX12_clauseHere 73 = .ok (.putfield 65, 3) := by decide +kernel
theorem dX12_clauseHere_76 : decode cX12_clauseHere 76 = .ok (.return_, 1) := by decide +kernel
theorem dX12_hill_0 : decode cX12_hill 0 = .ok (.aload_n 0, 1) := by decide +kernel
theorem dX12_hill_1 : decode cX12_hill 1 = .ok (.getfield 9, 3) := by decide +kernel
theorem dX12_hill_4 : decode cX12_hill 4 = .ok (.iconst 1, 1) := by decide +kernel
theorem dX12_hill_5 : decode cX12_hill 5 = .ok (.iaload, 1) := by decide +kernel
theorem dX12_hill_6 : decode cX12_hill 6 = .ok (.iconst 5, 1) := by decide +kernel
theorem dX12_hill_7 : decode cX12_hill 7 = .ok (.if_icmp .ne 6, 3) := by decide +kernel
theorem dX12_hill_13 : decode cX12_hill 13 = .ok (.aload_n 0, 1) := by decide +kernel
theorem dX12_hill_14 : decode cX12_hill 14 = .ok (.aload_n 0, 1) := by decide +kernel
theorem dX12_hill_15 : decode cX12_hill 15 = .ok (.getfield 9, 3) := by decide +kernel
theorem dX12_hill_18 : decode cX12_hill 18 = .ok (.iconst 1, 1) := by decide +kernel
theorem dX12_hill_19 : decode cX12_hill 19 = .ok (.iaload, 1) := by decide +kernel
theorem dX12_hill_20 : decode cX12_hill 20 = .ok (.putfield 86, 3) := by decide +kernel
theorem dX12_hill_23 : decode cX12_hill 23 = .ok (.aload_n 0, 1) := by decide +kernel
theorem dX12_hill_24 : decode cX12_hill 24 = .ok (.aload_n 0, 1) := by decide +kernel
theorem dX12_hill_25 : decode cX12_hill 25 = .ok (.getfield 9, 3) := by decide +kernel
theorem dX12_hill_28 : decode cX12_hill 28 = .ok (.iconst 4, 1) := by decide +kernel
theorem dX12_hill_29 : decode cX12_hill 29 = .ok (.iaload, 1) := by decide +kernel
theorem dX12_hill_30 : decode cX12_hill 30 = .ok (.putfield 62, 3) := by decide +kernel
theorem dX12_hill_33 : decode cX12_hill 33 = .ok (.aload_n 0, 1) := by decide +kernel
theorem dX12_hill_34 : decode cX12_hill 34 = .ok (.getfield 9, 3) := by decide +kernel
theorem dX12_hill_37 : decode cX12_hill 37 = .ok (.iconst 4, 1) := by decide +kernel
theorem dX12_hill_38 : decode cX12_hill 38 = .ok (.iconst 0, 1) := by decide +kernel
theorem dX12_hill_39 : decode cX12_hill 39 = .ok (.iastore, 1) := by decide +kernel
theorem dX12_hill_40 : decode cX12_hill 40 = .ok (.aload_n 0, 1) := by decide +kernel
theorem dX12_hill_41 : decode cX12_hill 41 = .ok (.getfield 9, 3) := by decide +kernel
theorem dX12_hill_44 : decode cX12_hill 44 = .ok (.sipush 191, 3) := by decide +kernel
theorem dX12_hill_47 : decode cX12_hill 47 = .ok (.aload_n 0, 1) := by decide +kernel
theorem dX12_hill_48 : decode cX12_hill 48 = .ok (.getfield 86, 3) := by decide +kernel
theorem dX12_hill_51 : decode cX12_hill 51 = .ok (.iadd, 1) := by decide +kernel
theorem dX12_hill_52 : decode cX12_hill 52 = .ok (.iconst 3, 1) := by decide +kernel
theorem dX12_hill_53 : decode cX12_hill 53 = .ok (.iastore, 1) := by decide +kernel
theorem dX12_hill_54 : decode cX12_hill 54 = .ok (.aload_n 0, 1) := by decide +kernel
theorem dX12_hill_55 : decode cX12_hill 55 = .ok (.getfield 9, 3) := by decide +kernel
theorem dX12_hill_58 : decode cX12_hill 58 = .ok (.sipush 196, 3) := by decide +kernel
theorem dX12_hill_61 : decode cX12_hill 61 = .ok (.aload_n 0, 1) := by decide +kernel
theorem dX12_hill_62 : decode cX12_hill 62 = .ok (.getfield 86, 3) := by decide +kernel
theorem dX12_hill_65 : decode cX12_hill 65 = .ok (.iadd, 1) := by decide +kernel
theorem dX12_hill_66 : decode cX12_hill 66 = .ok (.iconst 0, 1) := by decide +kernel
theorem dX12_hill_67 : decode cX12_hill 67 = .ok (.iastore, 1) := by decide +kernel
theorem dX12_hill_68 : decode cX12_hill 68 = .ok (.aload_n 0, 1) := by decide +kernel
theorem dX12_hill_69 : decode cX12_hill 69 = .ok (.iconst 0, 1) := by decide +kernel
theorem dX12_hill_70 : decode cX12_hill 70 = .ok (.putfield 59, 3) := by decide +kernel
theorem dX12_hill_73 : decode cX12_hill 73 = .ok (.aload_n 0, 1) := by decide +kernel
theorem dX12_hill_74 : decode cX12_hill 74 = .ok (.iconst 0, 1) := by decide +kernel
theorem dX12_hill_75 : decode cX12_hill 75 = .ok (.putfield 65, 3) := by decide +kernel
theorem dX12_hill_78 : decode cX12_hill 78 = .ok (.aload_n 0, 1) := by decide +kernel
theorem dX12_hill_79 : decode cX12_hill 79 = .ok (.iconst 0, 1) := by decide +kernel
theorem dX12_hill_80 : decode cX12_hill 80 = .ok (.putfield 89, 3) := by decide +kernel
theorem dX12_hill_83 : decode cX12_hill 83 = .ok (.iconst 1, 1) := by decide +kernel
theorem dX12_hill_84 : decode cX12_hill 84 = .ok (.istore_n 1, 1) := by decide +kernel
theorem dX12_hill_85 : decode cX12_hill 85 = .ok (.aload_n 0, 1) := by decide +kernel
set_option maxRecDepth 20000 in
theorem ggX12_hill_X12_clauseHere : GoodIn wsX12_hill wsX12_clauseHere := goodIn_r _ [11, 5, 12, 13, 14, 10, 15, 4, 3, 1, 16, 17, 18, 19, 2, 20, 21, 22, 23, 24, 25, 26, 27, 28, 29, 30, 31, 32, 33, 34, 35, 36, 37, 38, 39, 40, 41, 42, 43, 44, 45, 46, 47, 48, 49, 50, 51, 52, 53, 54, 55, 56, 57, 58, 59, 60, 61, 62, 63, 64, 65, 66, 67, 68, 69, 70, 71, 72, 73, 74, 75, 76, 77, 78, 79, 80, 81, 82, 83, 84, 85, 86, 87, 88, 89, 90, 91, 92, 93, 94, 95, 96, 97, 98, 99, 100, 101, 102, 103, 6, 104, 105, 106, 107, 108, 109, 110, 111, 112, 113, 114, 115, 116, 117, 118, 119, 120, 121, 122, 123, 124, 125, 126, 127, 128, 129, 130] (by decide +kernel) (by decide +kernel)
set_option maxRecDepth 20000 in
theorem gX12_hill_X12_clauseHere : GoodIn wsX12_hill (wsV RX12 134 RX12 yX12_clauseHere wsX12_clauseHere) := goodIn_app (goodIn_of _ (by decide +kernel)) ggX12_hill_X12_clauseHere
theorem dX12_hill_86 : decode cX12_hill 86 = .ok (.invokevirtual 134, 3) := by decide +kernel
theorem dX12_hill_89 : decode cX12_hill 89 = .ok (.aload_n 0, 1) := by decide +kernel
theorem dX12_hill_90 : decode cX12_hill 90 = .ok (.getfield 65, 3) := by decide +kernel
theorem dX12_hill_93 : decode cX12_hill 93 = .ok (.ifCond .ne 38, 3) := by decide +kernel
theorem dX12_hill_131 : decode cX12_hill 131 = .ok (.aload_n 0, 1) := by decide +kernel
theorem dX12_hill_132 : decode cX12_hill 132 = .ok (.getfield 65, 3) := by decide +kernel
theorem dX12_hill_135 : decode cX12_hill 135 = .ok (.ifCond .ne 14, 3) := by decide +kernel
theorem dX12_hill_149 : decode cX12_hill 149 = .ok (.bipush (-10), 2) := by decide +kernel
theorem dX12_hill_151 : decode cX12_hill 151 = .ok (.aload_n 0, 1) := by decide +kernel
theorem dX12_hill_152 : decode cX12_hill 152 = .ok (.getfield 59, 3) := by decide +kernel
theorem dX12_hill_155 : decode cX12_hill 155 = .ok (.isub, 1) := by decide +kernel
theorem dX12_hill_156 : decode cX12_hill 156 = .ok (.ireturn, 1) := by decide +kernel
theorem tA1 : ((1 : Int32) < 1) = False := eq_false (by decide)
theorem tA2 : ((2 : Int32) < 1) = False := eq_false (by decide)
theorem tA3 : ((3 : Int32) < 1) = False := eq_false (by decide)
theorem tB1 : ((3 : Int32) < 1) = False := eq_false (by decide)
theorem tB2 : ((3 : Int32) < 2) = False := eq_false (by decide)
theorem tB3 : ((3 : Int32) < 3) = False := eq_false (by decide)
theorem tc1 : (1 : Int32).toNatClampNeg = 1 := by decide
theorem tc2 : (2 : Int32).toNatClampNeg = 2 := by decide
theorem tc3 : (3 : Int32).toNatClampNeg = 3 := by decide
theorem bw1 (j o k : Nat) : nI (wy (GG (fun q => ind (pth 1 j q) 1 o) 8).2 1 k) = bwI j o 1 k := by unfold bwI; rw [show 8 ^ 1 = 8 from rfl]
theorem bw2 (j o k : Nat) : nI (wy (GG (fun q => ind (pth 2 j q) 2 o) 64).2 2 k) = bwI j o 2 k := by unfold bwI; rw [show 8 ^ 2 = 64 from rfl]
theorem bw3 (j o k : Nat) : nI (wy (GG (fun q => ind (pth 3 j q) 3 o) 512).2 3 k) = bwI j o 3 k := by unfold bwI; rw [show 8 ^ 3 = 512 from rfl]
theorem sw1 (k : Nat) : nI (wy (GG (fun _ => 0) 8).2 1 k) = swI 1 k := by unfold swI; rw [show 8 ^ 1 = 8 from rfl]
theorem sw2 (k : Nat) : nI (wy (GG (fun _ => 0) 64).2 2 k) = swI 2 k := by unfold swI; rw [show 8 ^ 2 = 64 from rfl]
theorem sw3 (k : Nat) : nI (wy (GG (fun _ => 0) 512).2 3 k) = swI 3 k := by unfold swI; rw [show 8 ^ 3 = 512 from rfl]
theorem bo1 (j o : Nat) : (if (GG (fun q => ind (pth 1 j q) 1 o) 8).1 = 0 then (0 : Int64) else 1) = if (GG (fun q => ind (pth 1 j q) 1 o) (8 ^ 1)).1 = 0 then 0 else 1 := by rw [show 8 ^ 1 = 8 from rfl]
theorem bo2 (j o : Nat) : (if (GG (fun q => ind (pth 2 j q) 2 o) 64).1 = 0 then (0 : Int64) else 1) = if (GG (fun q => ind (pth 2 j q) 2 o) (8 ^ 2)).1 = 0 then 0 else 1 := by rw [show 8 ^ 2 = 64 from rfl]
theorem bo3 (j o : Nat) : (if (GG (fun q => ind (pth 3 j q) 3 o) 512).1 = 0 then (0 : Int64) else 1) = if (GG (fun q => ind (pth 3 j q) 3 o) (8 ^ 3)).1 = 0 then 0 else 1 := by rw [show 8 ^ 3 = 512 from rfl]

set_option maxHeartbeats 4000000 in
set_option maxRecDepth 100000 in
theorem c_wayOf (l : Launch) (dC : Nat → ClassId) (dI : Nat → Nat → Nat) (b n k : Nat) (zb : b < 512) (zk : k < n) (zn : n ≤ 3) : Met l yX12_wayOf wsX12_wayOf ({ frames := 0, cells := 0, slots := 0, locals := 0 } : Room) (va_Pc [.int (nI b), .int (nI n), .int (nI k)] (fun U => True)) (vp_Si (fun r => r = nI (wy b n k))) 0 0 (fun _ => False) := by
  refine met_ofQ (cc := cX12_wayOf) (maxL := 4) (ret := (some .int)) (by decide) rfl ?_
  intro p e s m args below meth c s₁ Q B hml hv hQ
  obtain ⟨rfl, -⟩ := hv
  have hx := B.exec
  have hb := B.bytes
  have hr := B.returns
  have hts := atoms_spec (ws := wsX12_wayOf) B.pre
  have hown : s.vm.findClass RX12 = some m.cls := findClass_of_methodNamed B.named
  have hlocks := B.notSynchronized
  obtain ⟨A, hAe⟩ : ∃ A : Nat → Prop, A = fun _ => False := ⟨_, rfl⟩
  rw [← hAe] at hQ
  have hS : va_S A s.heap s.heap [] := va_S.rf
  have hl := lv_entry [.int (nI b), .int (nI n), .int (nI k)] (n := 4) (Nat.le_of_ble_eq_true rfl)
  rw [lg_entry_eq]
  generalize (lg_sl [.int (nI b), .int (nI n), .int (nI k)] ++ List.replicate (4 - (lg_sl [.int (nI b), .int (nI n), .int (nI k)]).length) Slot.unset).toArray = ls at hl ⊢
  generalize hag : ([.int (nI b), .int (nI n), .int (nI k)] : List Value).toArray = args at hts hQ ⊢
  have hl : lv_has ls 4 [(0, .int (nI b)), (1, .int (nI n)), (2, .int (nI k))] := hl
  refine lv_iload_n hx hb dX12_wayOf_0 rfl (lv_at hl 1 rfl) ?_
  refine lv_iconst (v := 1) hx hb dX12_wayOf_1 (by decide) ?_
  refine lv_isub hx hb dX12_wayOf_2 ?_
  refine qi_as (y := nI (n - 1)) (pk_sub (a := n) (b := 1) (by omega)) ?_
  refine lv_iload_n hx hb dX12_wayOf_3 rfl (lv_at hl 2 rfl) ?_
  refine lv_isub hx hb dX12_wayOf_4 ?_
  refine qi_as (y := nI ((n - 1) - k)) (pk_sub (a := n - 1) (b := k) (by omega)) ?_
  refine lv_istore_n (lv' := [(3, .int (nI ((n - 1) - k))), (0, .int (nI b)), (1, .int (nI n)), (2, .int (nI k))]) hx hb dX12_wayOf_5 rfl hl (by decide) rfl (fun ls hl => ?_)
  refine lv_iload_n hx hb dX12_wayOf_6 rfl (lv_at hl 0 rfl) ?_
  refine lv_iconst (v := 2) hx hb dX12_wayOf_7 (by decide) ?_
  refine lv_icmp_ne (tgt := 18) hx hb dX12_wayOf_8 (by decide) (fun c_1 => ?_) (fun c_1 => ?_)
  · skip
    have c_1 : ¬ ((n - 1) - k) = 2 := fun q => c_1 ((nI_eq (a := ((n - 1) - k)) (b := 2) (by omega) (by omega)).mpr q)
    refine lv_iload_n hx hb dX12_wayOf_18 rfl (lv_at hl 0 rfl) ?_
    refine lv_iconst (v := 1) hx hb dX12_wayOf_19 (by decide) ?_
    refine lv_icmp_ne (tgt := 33) hx hb dX12_wayOf_20 (by decide) (fun c_2 => ?_) (fun c_2 => ?_)
    · skip
      have c_2 : ¬ ((n - 1) - k) = 1 := fun q => c_2 ((nI_eq (a := ((n - 1) - k)) (b := 1) (by omega) (by omega)).mpr q)
      refine lv_iload_n hx hb dX12_wayOf_33 rfl (lv_at hl 1 rfl) ?_
      refine lv_bipush (v := 8) hx hb dX12_wayOf_34 (by decide) ?_
      refine lv_irem hx hb dX12_wayOf_36 (by decide) ?_
      refine qi_as (y := nI (b % 8)) (pk_rem (a := b) (d := 8) (by omega) (by omega) (by omega)) ?_
      rw [hQ]
      exact W.iret (v := nI (b % 8)) hx hb hr (fun tQ htQ hWQ => ⟨nI (b % 8), rfl, by simp only [wy]; simp_all, by rw [htQ]⟩) (fun q hq => absurd hq List.not_mem_nil) dX12_wayOf_37
    · skip
      have c_2 : ((n - 1) - k) = 1 := (nI_eq (a := ((n - 1) - k)) (b := 1) (by omega) (by omega)).mp c_2
      refine lv_iload_n hx hb dX12_wayOf_23 rfl (lv_at hl 1 rfl) ?_
      refine lv_bipush (v := 8) hx hb dX12_wayOf_24 (by decide) ?_
      refine lv_idiv hx hb dX12_wayOf_26 (by decide) ?_
      refine qi_as (y := nI (b / 8)) (pk_div (a := b) (d := 8) (by omega) (by omega) (by omega)) ?_
      refine lv_bipush (v := 8) hx hb dX12_wayOf_27 (by decide) ?_
      refine lv_irem hx hb dX12_wayOf_29 (by decide) ?_
      refine qi_as (y := nI ((b / 8) % 8)) (pk_rem (a := b / 8) (d := 8) (by omega) (by omega) (by omega)) ?_
      refine lv_goto (tgt := 37) hx hb dX12_wayOf_30 (by decide) ?_
      rw [hQ]
      exact W.iret (v := nI ((b / 8) % 8)) hx hb hr (fun tQ htQ hWQ => ⟨nI ((b / 8) % 8), rfl, by simp only [wy]; simp_all, by rw [htQ]⟩) (fun q hq => absurd hq List.not_mem_nil) dX12_wayOf_37
  · skip
    have c_1 : ((n - 1) - k) = 2 := (nI_eq (a := ((n - 1) - k)) (b := 2) (by omega) (by omega)).mp c_1
    refine lv_iload_n hx hb dX12_wayOf_11 rfl (lv_at hl 1 rfl) ?_
    refine lv_bipush (v := 64) hx hb dX12_wayOf_12 (by decide) ?_
    refine lv_idiv hx hb dX12_wayOf_14 (by decide) ?_
    refine qi_as (y := nI (b / 64)) (pk_div (a := b) (d := 64) (by omega) (by omega) (by omega)) ?_
    refine lv_goto (tgt := 37) hx hb dX12_wayOf_15 (by decide) ?_
    rw [hQ]
    exact W.iret (v := nI (b / 64)) hx hb hr (fun tQ htQ hWQ => ⟨nI (b / 64), rfl, by simp only [wy]; simp_all, by rw [htQ]⟩) (fun q hq => absurd hq List.not_mem_nil) dX12_wayOf_37

theorem kc_here0_0 : ∀ w ∈ wsX120, w ∈ wsX12_here := by decide +kernel
theorem kc_here0_1 : (.fieldLink RX12 59 "MistHeapsModel" "spot" "I" : Cond) ∈ wsX12_here := by decide +kernel
theorem kc_here0_2 : (.fieldLink RX12 62 "MistHeapsModel" "end" "I" : Cond) ∈ wsX12_here := by decide +kernel
set_option maxHeartbeats 4000000 in
set_option maxRecDepth 100000 in
theorem c_here0 (l : Launch) (dC : Nat → ClassId) (dI : Nat → Nat → Nat) (m0 aS aI aB aT aG aO aN aD aY : Nat) (bv : Int64) : Met l yX12_here wsX12_here ({ frames := 0, cells := 0, slots := 0, locals := 0 } : Room) (va_Pc [.ref m0] (fun U => va_P (dC, dI) vwCl [(m0, .inr (14, [.int 0, .ref aS, .ref aI, .int 0, .int 0, .int 0, .int 0, .int 0, .int 0, .ref aB, .ref aT, .int 0, .int 0, .ref aG, .ref aO, .ref aN, .ref aD, .long bv, .ref aY, .int 0, .int 0, .int 0, .int 0]))] U.heap ∧ va_K (dC, dI) vwCl [] U)) (vp_Si (fun r => r = -1)) 0 0 (fun _ => False) := by
  refine met_ofQ (cc := cX12_here) (maxL := 1) (ret := (some .int)) (by decide) rfl ?_
  intro p e s m args below meth c s₁ Q B hml hv hQ
  obtain ⟨rfl, hP, hK⟩ := hv
  have hx := B.exec
  have hb := B.bytes
  have hr := B.returns
  have hts := atoms_spec (ws := wsX12_here) B.pre
  have hown : s.vm.findClass RX12 = some m.cls := findClass_of_methodNamed B.named
  have hlocks := B.notSynchronized
  obtain ⟨A, hAe⟩ : ∃ A : Nat → Prop, A = fun _ => False := ⟨_, rfl⟩
  rw [← hAe] at hQ
  have hS : va_S A s.heap s.heap [] := va_S.rf
  have hl := lv_entry [.ref m0] (n := 1) (Nat.le_of_ble_eq_true rfl)
  rw [lg_entry_eq]
  generalize (lg_sl [.ref m0] ++ List.replicate (1 - (lg_sl [.ref m0]).length) Slot.unset).toArray = ls at hl ⊢
  generalize hag : ([.ref m0] : List Value).toArray = args at hts hQ ⊢
  have hl : lv_has ls 1 [(0, .ref m0)] := hl
  refine lv_aload_n hx hb dX12_here_0 rfl (lv_at hl 0 rfl) ?_
  refine va_get (D := (dC, dI)) (ci := 14) (v := .int 0) (C := RX12) (T := TX12) (N := 23) hx hb hts kc_here0_0 hown hK hP 0 rfl rfl 5 (by decide) (hts (.fieldLink RX12 59 "MistHeapsModel" "spot" "I") kc_here0_1) (fun _ h9 => h9) rfl dX12_here_1 ?_
  refine lv_aload_n hx hb dX12_here_4 rfl (lv_at hl 0 rfl) ?_
  refine va_get (D := (dC, dI)) (ci := 14) (v := .int 0) (C := RX12) (T := TX12) (N := 23) hx hb hts kc_here0_0 hown hK hP 0 rfl rfl 6 (by decide) (hts (.fieldLink RX12 62 "MistHeapsModel" "end" "I") kc_here0_2) (fun _ h9 => h9) rfl dX12_here_5 ?_
  refine lv_icmp_ge (tgt := 26) hx hb dX12_here_8 (by decide) (fun _ => ?_) (fun c_1 => absurd c_1 (by decide))
  refine lv_iconst (v := (-1)) hx hb dX12_here_26 (by decide) ?_
  rw [hQ]
  exact W.iret (v := (-1)) hx hb hr (fun tQ htQ hWQ => ⟨(-1), rfl, rfl, by rw [htQ]⟩) (fun q hq => absurd hq List.not_mem_nil) dX12_here_27

theorem kc_clause0_0 : ∀ w ∈ wsX120, w ∈ wsX12_clauseHere := by decide +kernel
theorem kc_clause0_1 : (.fieldLink RX12 65 "MistHeapsModel" "isWrong" "Z" : Cond) ∈ wsX12_clauseHere := by decide +kernel
set_option maxHeartbeats 4000000 in
set_option maxRecDepth 100000 in
theorem c_clause0 (l : Launch) (dC : Nat → ClassId) (dI : Nat → Nat → Nat) (m0 aS aI aB aT aG aO aN aD aY : Nat) (bv : Int64) (sz : Nat) : Met l yX12_clauseHere wsX12_clauseHere ({ frames := 1, cells := 0, slots := 0, locals := 20 } : Room) (va_Pc [.ref m0] (fun U => U.heap.size = sz ∧ va_P (dC, dI) vwCl [(m0, .inr (14, [.int 0, .ref aS, .ref aI, .int 0, .int 0, .int 0, .int 0, .int 0, .int 0, .ref aB, .ref aT, .int 0, .int 0, .ref aG, .ref aO, .ref aN, .ref aD, .long bv, .ref aY, .int 0, .int 0, .int 0, .int 0]))] U.heap ∧ va_K (dC, dI) vwCl [] U ∧ va_D (fun _ => True) [(m0, .inr (14, [.int 0, .ref aS, .ref aI, .int 0, .int 0, .int 0, .int 0, .int 0, .int 0, .ref aB, .ref aT, .int 0, .int 0, .ref aG, .ref aO, .ref aN, .ref aD, .long bv, .ref aY, .int 0, .int 0, .int 0, .int 0]))])) (va_Qv (fun (u : Unit) => match u with | () => True) (fun (u : Unit) (t : State) => match u with | () => va_P (dC, dI) vwCl [(m0, .inr (14, [.int 0, .ref aS, .ref aI, .int 0, .int 0, .int 0, .int 0, .int 1, .int 0, .ref aB, .ref aT, .int 0, .int 0, .ref aG, .ref aO, .ref aN, .ref aD, .long bv, .ref aY, .int 0, .int 0, .int 0, .int 0]))] t.heap ∧ va_K (dC, dI) vwCl [] t ∧ va_D (va_A [(m0, .inr (14, [.int 0, .ref aS, .ref aI, .int 0, .int 0, .int 0, .int 0, .int 0, .int 0, .ref aB, .ref aT, .int 0, .int 0, .ref aG, .ref aO, .ref aN, .ref aD, .long bv, .ref aY, .int 0, .int 0, .int 0, .int 0]))] sz) [(m0, .inr (14, [.int 0, .ref aS, .ref aI, .int 0, .int 0, .int 0, .int 0, .int 1, .int 0, .ref aB, .ref aT, .int 0, .int 0, .ref aG, .ref aO, .ref aN, .ref aD, .long bv, .ref aY, .int 0, .int 0, .int 0, .int 0]))]) (va_A [(m0, .inr (14, [.int 0, .ref aS, .ref aI, .int 0, .int 0, .int 0, .int 0, .int 0, .int 0, .ref aB, .ref aT, .int 0, .int 0, .ref aG, .ref aO, .ref aN, .ref aD, .long bv, .ref aY, .int 0, .int 0, .int 0, .int 0]))] sz)) 0 0 (va_A [(m0, .inr (14, [.int 0, .ref aS, .ref aI, .int 0, .int 0, .int 0, .int 0, .int 0, .int 0, .ref aB, .ref aT, .int 0, .int 0, .ref aG, .ref aO, .ref aN, .ref aD, .long bv, .ref aY, .int 0, .int 0, .int 0, .int 0]))] sz) := by
  refine met_ofQ (cc := cX12_clauseHere) (maxL := 1) (ret := none) (by decide) rfl ?_
  intro p e s m args below meth c s₁ Q B hml hv hQ
  obtain ⟨rfl, hsz, hP, hK, hD0⟩ := hv
  have hx := B.exec
  have hb := B.bytes
  have hr := B.returns
  have hts := atoms_spec (ws := wsX12_clauseHere) B.pre
  have hown : s.vm.findClass RX12 = some m.cls := findClass_of_methodNamed B.named
  have hlocks := B.notSynchronized
  subst hsz
  have hD := hD0.self (sz := s.heap.size)
  generalize hAe : va_A [(m0, .inr (14, [.int 0, .ref aS, .ref aI, .int 0, .int 0, .int 0, .int 0, .int 0, .int 0, .ref aB, .ref aT, .int 0, .int 0, .ref aG, .ref aO, .ref aN, .ref aD, .long bv, .ref aY, .int 0, .int 0, .int 0, .int 0]))] s.heap.size = A at hD hQ ⊢
  have hA : ∀ q : Nat, s.heap.size ≤ q → A q := fun q h => by rw [← hAe]; exact Or.inr h
  have hS : va_S A s.heap s.heap [] := va_S.rf
  have hl := lv_entry [.ref m0] (n := 1) (Nat.le_of_ble_eq_true rfl)
  rw [lg_entry_eq]
  generalize (lg_sl [.ref m0] ++ List.replicate (1 - (lg_sl [.ref m0]).length) Slot.unset).toArray = ls at hl ⊢
  generalize hag : ([.ref m0] : List Value).toArray = args at hts hQ ⊢
  have hl : lv_has ls 1 [(0, .ref m0)] := hl
  obtain ⟨H, hH⟩ : ∃ H : Heap, H = s.heap := ⟨_, rfl⟩
  rw [← hH] at hP
  rw [← hH]
  have hS : va_S A s.heap H [] := by rw [hH]; exact hS
  obtain ⟨locs, hlo⟩ : ∃ L : List Loc, L = [] := ⟨_, rfl⟩
  rw [← hlo] at hS
  rw [← hlo]
  clear hH hlo
  refine lv_aload_n hx hb dX12_clauseHere_0 rfl (lv_at hl 0 rfl) ?_
  have hPc := hP.sub (ws' := [(m0, .inr (14, [.int 0, .ref aS, .ref aI, .int 0, .int 0, .int 0, .int 0, .int 0, .int 0, .ref aB, .ref aT, .int 0, .int 0, .ref aG, .ref aO, .ref aN, .ref aD, .long bv, .ref aY, .int 0, .int 0, .int 0, .int 0]))]) [0] rfl
  have hKc := hK.sub (tys' := []) [] rfl
  refine vp_callSi (va_runV (As := []) (rest := []) ⟨hx, hb, hml, hown, hts⟩ (c_here0 l dC dI m0 aS aI aB aT aG aO aN aD aY bv) (cwV 0 hts gX12_clauseHere_X12_here rfl rfl rfl (by decide +kernel) ⟨Nat.le_of_ble_eq_true rfl, Nat.le_of_ble_eq_true rfl⟩) ⟨fun a U g mk q => by obtain ⟨q0, qP, qK⟩ := q; exact ⟨q0, qP, va_K.moved (u := U) (U := U.calling g mk a) (Vm.Alike.refl U.vm) qK⟩, va_recv hK hP (ci := 14) (q0 := 0) rfl rfl, fun U hU hW => ⟨rfl, by rw [hU]; exact hPc, va_K.moved hW.alike hKc⟩⟩ rfl rfl hl.1 rfl (lv_room (Nat.le_of_ble_eq_true rfl)) dX12_clauseHere_1 ⟨Nat.le_of_ble_eq_true rfl, Nat.le_of_ble_eq_true rfl⟩).run (fun r_1 hw_2 => ?_)
  refine qi_as (y := (-1)) (hw_2) ?_
  refine lv_lookup (tgt := 71) hx hb dX12_clauseHere_4 (by decide) rfl (by decide) ?_
  refine lv_aload_n hx hb dX12_clauseHere_71 rfl (lv_at hl 0 rfl) ?_
  refine lv_iconst (v := 1) hx hb dX12_clauseHere_72 (by decide) ?_
  refine va_put (D := (dC, dI)) (ci := 14) (v := .int 1) (ty := .boolean) (C := RX12) (T := TX12) (N := 23) hx hb hts kc_clause0_0 tyX12 tyX12_ok nmX12 hown hK hP hD hS 0 rfl rfl 7 (by decide) (hts (.fieldLink RX12 65 "MistHeapsModel" "isWrong" "Z") kc_clause0_1) (fun _ h9 => h9) rfl (by decide +kernel) rfl rfl (Nat.le_of_ble_eq_true rfl) dX12_clauseHere_73 (fun H locs hP hD hS => ?_)
  have hP : va_P (dC, dI) vwCl [(m0, .inr (14, [.int 0, .ref aS, .ref aI, .int 0, .int 0, .int 0, .int 0, .int 1, .int 0, .ref aB, .ref aT, .int 0, .int 0, .ref aG, .ref aO, .ref aN, .ref aD, .long bv, .ref aY, .int 0, .int 0, .int 0, .int 0]))] H := hP
  have hD : va_D A [(m0, .inr (14, [.int 0, .ref aS, .ref aI, .int 0, .int 0, .int 0, .int 0, .int 1, .int 0, .ref aB, .ref aT, .int 0, .int 0, .ref aG, .ref aO, .ref aN, .ref aD, .long bv, .ref aY, .int 0, .int 0, .int 0, .int 0]))] := hD
  rw [hQ]
  have hP9 := hP.sub (ws' := [(m0, .inr (14, [.int 0, .ref aS, .ref aI, .int 0, .int 0, .int 0, .int 0, .int 1, .int 0, .ref aB, .ref aT, .int 0, .int 0, .ref aG, .ref aO, .ref aN, .ref aD, .long bv, .ref aY, .int 0, .int 0, .int 0, .int 0]))]) [0] rfl
  have hD9 := hD.sub (ws' := [(m0, .inr (14, [.int 0, .ref aS, .ref aI, .int 0, .int 0, .int 0, .int 0, .int 1, .int 0, .ref aB, .ref aT, .int 0, .int 0, .ref aG, .ref aO, .ref aN, .ref aD, .long bv, .ref aY, .int 0, .int 0, .int 0, .int 0]))]) [0] (by decide) rfl
  have hK9 := hK.sub (tys' := []) [] rfl
  exact W.vret hx hb hr (fun tQ htQ hWQ => ⟨⟨(), rfl, trivial, by rw [htQ]; exact hP9, va_K.moved hWQ.alike hK9, hD9⟩, hS.F htQ⟩) hS.2.2 dX12_clauseHere_76

theorem kc_mHill_0 : ∀ w ∈ wsX120, w ∈ wsX12_hill := by decide +kernel
theorem kc_mHill_1 : (.fieldLink RX12 9 "MistHeapsModel" "s" "[I" : Cond) ∈ wsX12_hill := by decide +kernel
theorem kc_mHill_2 : (.fieldLink RX12 86 "MistHeapsModel" "act" "I" : Cond) ∈ wsX12_hill := by decide +kernel
theorem kc_mHill_3 : (.fieldLink RX12 62 "MistHeapsModel" "end" "I" : Cond) ∈ wsX12_hill := by decide +kernel
theorem kc_mHill_4 : (.fieldLink RX12 59 "MistHeapsModel" "spot" "I" : Cond) ∈ wsX12_hill := by decide +kernel
theorem kc_mHill_5 : (.fieldLink RX12 65 "MistHeapsModel" "isWrong" "Z" : Cond) ∈ wsX12_hill := by decide +kernel
theorem kc_mHill_6 : (.fieldLink RX12 89 "MistHeapsModel" "open" "I" : Cond) ∈ wsX12_hill := by decide +kernel
set_option maxHeartbeats 4000000 in
set_option maxRecDepth 100000 in
theorem c_mHill (l : Launch) (dC : Nat → ClassId) (dI : Nat → Nat → Nat) (m0 aS aI aB aT aG aO aN aD aY : Nat) (bv : Int64) (cS : ClassId) (sz : Nat) : Met l yX12_hill wsX12_hill ({ frames := 2, cells := 0, slots := 0, locals := 40 } : Room) (va_Pc [.ref m0] (fun U => U.heap.size = sz ∧ va_P (dC, dI) vwCl [(m0, .inr (14, [.int 0, .ref aS, .ref aI, .int 0, .int 0, .int 0, .int 0, .int 0, .int 0, .ref aB, .ref aT, .int 0, .int 0, .ref aG, .ref aO, .ref aN, .ref aD, .long bv, .ref aY, .int 0, .int 0, .int 0, .int 0])), (aS, .inl (cS, 901, .inl s0))] U.heap ∧ va_K (dC, dI) vwCl [(cS, .int)] U ∧ va_D (fun _ => True) [(m0, .inr (14, [.int 0, .ref aS, .ref aI, .int 0, .int 0, .int 0, .int 0, .int 0, .int 0, .ref aB, .ref aT, .int 0, .int 0, .ref aG, .ref aO, .ref aN, .ref aD, .long bv, .ref aY, .int 0, .int 0, .int 0, .int 0])), (aS, .inl (cS, 901, .inl s0))])) (va_Qi (fun (r : Int32) (u : Unit) => match u with | () => r = -10) (fun (u : Unit) (t : State) => match u with | () => True) (va_A [(m0, .inr (14, [.int 0, .ref aS, .ref aI, .int 0, .int 0, .int 0, .int 0, .int 0, .int 0, .ref aB, .ref aT, .int 0, .int 0, .ref aG, .ref aO, .ref aN, .ref aD, .long bv, .ref aY, .int 0, .int 0, .int 0, .int 0])), (aS, .inl (cS, 901, .inl s0))] sz)) 0 0 (va_A [(m0, .inr (14, [.int 0, .ref aS, .ref aI, .int 0, .int 0, .int 0, .int 0, .int 0, .int 0, .ref aB, .ref aT, .int 0, .int 0, .ref aG, .ref aO, .ref aN, .ref aD, .long bv, .ref aY, .int 0, .int 0, .int 0, .int 0])), (aS, .inl (cS, 901, .inl s0))] sz) := by
  refine met_ofQ (cc := cX12_hill) (maxL := 2) (ret := (some .int)) (by decide) rfl ?_
  intro p e s m args below meth c s₁ Q B hml hv hQ
  obtain ⟨rfl, hsz, hP, hK, hD0⟩ := hv
  have hx := B.exec
  have hb := B.bytes
  have hr := B.returns
  have hts := atoms_spec (ws := wsX12_hill) B.pre
  have hown : s.vm.findClass RX12 = some m.cls := findClass_of_methodNamed B.named
  have hlocks := B.notSynchronized
  subst hsz
  have hD := hD0.self (sz := s.heap.size)
  generalize hAe : va_A [(m0, .inr (14, [.int 0, .ref aS, .ref aI, .int 0, .int 0, .int 0, .int 0, .int 0, .int 0, .ref aB, .ref aT, .int 0, .int 0, .ref aG, .ref aO, .ref aN, .ref aD, .long bv, .ref aY, .int 0, .int 0, .int 0, .int 0])), (aS, .inl (cS, 901, .inl s0))] s.heap.size = A at hD hQ ⊢
  have hA : ∀ q : Nat, s.heap.size ≤ q → A q := fun q h => by rw [← hAe]; exact Or.inr h
  have hS : va_S A s.heap s.heap [] := va_S.rf
  have hl := lv_entry [.ref m0] (n := 2) (Nat.le_of_ble_eq_true rfl)
  rw [lg_entry_eq]
  generalize (lg_sl [.ref m0] ++ List.replicate (2 - (lg_sl [.ref m0]).length) Slot.unset).toArray = ls at hl ⊢
  generalize hag : ([.ref m0] : List Value).toArray = args at hts hQ ⊢
  have hl : lv_has ls 2 [(0, .ref m0)] := hl
  obtain ⟨H, hH⟩ : ∃ H : Heap, H = s.heap := ⟨_, rfl⟩
  rw [← hH] at hP
  rw [← hH]
  have hS : va_S A s.heap H [] := by rw [hH]; exact hS
  obtain ⟨locs, hlo⟩ : ∃ L : List Loc, L = [] := ⟨_, rfl⟩
  rw [← hlo] at hS
  rw [← hlo]
  clear hH hlo
  refine lv_aload_n hx hb dX12_hill_0 rfl (lv_at hl 0 rfl) ?_
  refine va_get (D := (dC, dI)) (ci := 14) (v := .ref aS) (C := RX12) (T := TX12) (N := 23) hx hb hts kc_mHill_0 hown hK hP 0 rfl rfl 1 (by decide) (hts (.fieldLink RX12 9 "MistHeapsModel" "s" "[I") kc_mHill_1) (fun _ h9 => h9) rfl dX12_hill_1 ?_
  refine lv_iconst (v := 1) hx hb dX12_hill_4 (by decide) ?_
  refine va_iald hx hb hK hP 1 0 rfl rfl (vp_in_nI (n := 1) (N := 901) (by omega) (by omega)) dX12_hill_5 ?_
  refine qi_as (y := 0) (rfl) ?_
  refine lv_iconst (v := 5) hx hb dX12_hill_6 (by decide) ?_
  refine lv_icmp_ne (tgt := 13) hx hb dX12_hill_7 (by decide) (fun _ => ?_) (fun c_1 => absurd c_1 (by decide))
  refine lv_aload_n hx hb dX12_hill_13 rfl (lv_at hl 0 rfl) ?_
  refine lv_aload_n hx hb dX12_hill_14 rfl (lv_at hl 0 rfl) ?_
  refine va_get (D := (dC, dI)) (ci := 14) (v := .ref aS) (C := RX12) (T := TX12) (N := 23) hx hb hts kc_mHill_0 hown hK hP 0 rfl rfl 1 (by decide) (hts (.fieldLink RX12 9 "MistHeapsModel" "s" "[I") kc_mHill_1) (fun _ h9 => h9) rfl dX12_hill_15 ?_
  refine lv_iconst (v := 1) hx hb dX12_hill_18 (by decide) ?_
  refine va_iald hx hb hK hP 1 0 rfl rfl (vp_in_nI (n := 1) (N := 901) (by omega) (by omega)) dX12_hill_19 ?_
  refine qi_as (y := 0) (rfl) ?_
  refine va_put (D := (dC, dI)) (ci := 14) (v := .int 0) (ty := .int) (C := RX12) (T := TX12) (N := 23) hx hb hts kc_mHill_0 tyX12 tyX12_ok nmX12 hown hK hP hD hS 0 rfl rfl 4 (by decide) (hts (.fieldLink RX12 86 "MistHeapsModel" "act" "I") kc_mHill_2) (fun _ h9 => h9) rfl (by decide +kernel) rfl rfl (Nat.le_of_ble_eq_true rfl) dX12_hill_20 (fun H locs hP hD hS => ?_)
  have hP : va_P (dC, dI) vwCl [(m0, .inr (14, [.int 0, .ref aS, .ref aI, .int 0, .int 0, .int 0, .int 0, .int 0, .int 0, .ref aB, .ref aT, .int 0, .int 0, .ref aG, .ref aO, .ref aN, .ref aD, .long bv, .ref aY, .int 0, .int 0, .int 0, .int 0])), (aS, .inl (cS, 901, .inl s0))] H := hP
  have hD : va_D A [(m0, .inr (14, [.int 0, .ref aS, .ref aI, .int 0, .int 0, .int 0, .int 0, .int 0, .int 0, .ref aB, .ref aT, .int 0, .int 0, .ref aG, .ref aO, .ref aN, .ref aD, .long bv, .ref aY, .int 0, .int 0, .int 0, .int 0])), (aS, .inl (cS, 901, .inl s0))] := hD
  refine lv_aload_n hx hb dX12_hill_23 rfl (lv_at hl 0 rfl) ?_
  refine lv_aload_n hx hb dX12_hill_24 rfl (lv_at hl 0 rfl) ?_
  refine va_get (D := (dC, dI)) (ci := 14) (v := .ref aS) (C := RX12) (T := TX12) (N := 23) hx hb hts kc_mHill_0 hown hK hP 0 rfl rfl 1 (by decide) (hts (.fieldLink RX12 9 "MistHeapsModel" "s" "[I") kc_mHill_1) (fun _ h9 => h9) rfl dX12_hill_25 ?_
  refine lv_iconst (v := 4) hx hb dX12_hill_28 (by decide) ?_
  refine va_iald hx hb hK hP 1 0 rfl rfl (vp_in_nI (n := 4) (N := 901) (by omega) (by omega)) dX12_hill_29 ?_
  refine qi_as (y := 0) (rfl) ?_
  refine va_put (D := (dC, dI)) (ci := 14) (v := .int 0) (ty := .int) (C := RX12) (T := TX12) (N := 23) hx hb hts kc_mHill_0 tyX12 tyX12_ok nmX12 hown hK hP hD hS 0 rfl rfl 6 (by decide) (hts (.fieldLink RX12 62 "MistHeapsModel" "end" "I") kc_mHill_3) (fun _ h9 => h9) rfl (by decide +kernel) rfl rfl (Nat.le_of_ble_eq_true rfl) dX12_hill_30 (fun H locs hP hD hS => ?_)
  have hP : va_P (dC, dI) vwCl [(m0, .inr (14, [.int 0, .ref aS, .ref aI, .int 0, .int 0, .int 0, .int 0, .int 0, .int 0, .ref aB, .ref aT, .int 0, .int 0, .ref aG, .ref aO, .ref aN, .ref aD, .long bv, .ref aY, .int 0, .int 0, .int 0, .int 0])), (aS, .inl (cS, 901, .inl s0))] H := hP
  have hD : va_D A [(m0, .inr (14, [.int 0, .ref aS, .ref aI, .int 0, .int 0, .int 0, .int 0, .int 0, .int 0, .ref aB, .ref aT, .int 0, .int 0, .ref aG, .ref aO, .ref aN, .ref aD, .long bv, .ref aY, .int 0, .int 0, .int 0, .int 0])), (aS, .inl (cS, 901, .inl s0))] := hD
  refine lv_aload_n hx hb dX12_hill_33 rfl (lv_at hl 0 rfl) ?_
  refine va_get (D := (dC, dI)) (ci := 14) (v := .ref aS) (C := RX12) (T := TX12) (N := 23) hx hb hts kc_mHill_0 hown hK hP 0 rfl rfl 1 (by decide) (hts (.fieldLink RX12 9 "MistHeapsModel" "s" "[I") kc_mHill_1) (fun _ h9 => h9) rfl dX12_hill_34 ?_
  refine lv_iconst (v := 4) hx hb dX12_hill_37 (by decide) ?_
  refine lv_iconst (v := 0) hx hb dX12_hill_38 (by decide) ?_
  refine va_iast hx hb hK hP hD hS 1 0 rfl rfl (vp_in_nI (n := 4) (N := 901) (by omega) (by omega)) dX12_hill_39 (fun H locs hP hD hS => ?_)
  have hP : va_P (dC, dI) vwCl [(m0, .inr (14, [.int 0, .ref aS, .ref aI, .int 0, .int 0, .int 0, .int 0, .int 0, .int 0, .ref aB, .ref aT, .int 0, .int 0, .ref aG, .ref aO, .ref aN, .ref aD, .long bv, .ref aY, .int 0, .int 0, .int 0, .int 0])), (aS, .inl (cS, 901, .inl (upd s0 4 0)))] H := hP
  have hD : va_D A [(m0, .inr (14, [.int 0, .ref aS, .ref aI, .int 0, .int 0, .int 0, .int 0, .int 0, .int 0, .ref aB, .ref aT, .int 0, .int 0, .ref aG, .ref aO, .ref aN, .ref aD, .long bv, .ref aY, .int 0, .int 0, .int 0, .int 0])), (aS, .inl (cS, 901, .inl (upd s0 4 0)))] := hD
  refine lv_aload_n hx hb dX12_hill_40 rfl (lv_at hl 0 rfl) ?_
  refine va_get (D := (dC, dI)) (ci := 14) (v := .ref aS) (C := RX12) (T := TX12) (N := 23) hx hb hts kc_mHill_0 hown hK hP 0 rfl rfl 1 (by decide) (hts (.fieldLink RX12 9 "MistHeapsModel" "s" "[I") kc_mHill_1) (fun _ h9 => h9) rfl dX12_hill_41 ?_
  refine lv_sipush (v := 191) hx hb dX12_hill_44 (by decide) ?_
  refine lv_aload_n hx hb dX12_hill_47 rfl (lv_at hl 0 rfl) ?_
  refine va_get (D := (dC, dI)) (ci := 14) (v := .int 0) (C := RX12) (T := TX12) (N := 23) hx hb hts kc_mHill_0 hown hK hP 0 rfl rfl 4 (by decide) (hts (.fieldLink RX12 86 "MistHeapsModel" "act" "I") kc_mHill_2) (fun _ h9 => h9) rfl dX12_hill_48 ?_
  refine lv_iadd hx hb dX12_hill_51 ?_
  refine qi_as (y := 191) (by decide) ?_
  refine lv_iconst (v := 3) hx hb dX12_hill_52 (by decide) ?_
  refine va_iast hx hb hK hP hD hS 1 0 rfl rfl (vp_in_nI (n := 191) (N := 901) (by omega) (by omega)) dX12_hill_53 (fun H locs hP hD hS => ?_)
  have hP : va_P (dC, dI) vwCl [(m0, .inr (14, [.int 0, .ref aS, .ref aI, .int 0, .int 0, .int 0, .int 0, .int 0, .int 0, .ref aB, .ref aT, .int 0, .int 0, .ref aG, .ref aO, .ref aN, .ref aD, .long bv, .ref aY, .int 0, .int 0, .int 0, .int 0])), (aS, .inl (cS, 901, .inl (upd (upd s0 4 0) 191 3)))] H := hP
  have hD : va_D A [(m0, .inr (14, [.int 0, .ref aS, .ref aI, .int 0, .int 0, .int 0, .int 0, .int 0, .int 0, .ref aB, .ref aT, .int 0, .int 0, .ref aG, .ref aO, .ref aN, .ref aD, .long bv, .ref aY, .int 0, .int 0, .int 0, .int 0])), (aS, .inl (cS, 901, .inl (upd (upd s0 4 0) 191 3)))] := hD
  refine lv_aload_n hx hb dX12_hill_54 rfl (lv_at hl 0 rfl) ?_
  refine va_get (D := (dC, dI)) (ci := 14) (v := .ref aS) (C := RX12) (T := TX12) (N := 23) hx hb hts kc_mHill_0 hown hK hP 0 rfl rfl 1 (by decide) (hts (.fieldLink RX12 9 "MistHeapsModel" "s" "[I") kc_mHill_1) (fun _ h9 => h9) rfl dX12_hill_55 ?_
  refine lv_sipush (v := 196) hx hb dX12_hill_58 (by decide) ?_
  refine lv_aload_n hx hb dX12_hill_61 rfl (lv_at hl 0 rfl) ?_
  refine va_get (D := (dC, dI)) (ci := 14) (v := .int 0) (C := RX12) (T := TX12) (N := 23) hx hb hts kc_mHill_0 hown hK hP 0 rfl rfl 4 (by decide) (hts (.fieldLink RX12 86 "MistHeapsModel" "act" "I") kc_mHill_2) (fun _ h9 => h9) rfl dX12_hill_62 ?_
  refine lv_iadd hx hb dX12_hill_65 ?_
  refine qi_as (y := 196) (by decide) ?_
  refine lv_iconst (v := 0) hx hb dX12_hill_66 (by decide) ?_
  refine va_iast hx hb hK hP hD hS 1 0 rfl rfl (vp_in_nI (n := 196) (N := 901) (by omega) (by omega)) dX12_hill_67 (fun H locs hP hD hS => ?_)
  have hP : va_P (dC, dI) vwCl [(m0, .inr (14, [.int 0, .ref aS, .ref aI, .int 0, .int 0, .int 0, .int 0, .int 0, .int 0, .ref aB, .ref aT, .int 0, .int 0, .ref aG, .ref aO, .ref aN, .ref aD, .long bv, .ref aY, .int 0, .int 0, .int 0, .int 0])), (aS, .inl (cS, 901, .inl (upd (upd (upd s0 4 0) 191 3) 196 0)))] H := hP
  have hD : va_D A [(m0, .inr (14, [.int 0, .ref aS, .ref aI, .int 0, .int 0, .int 0, .int 0, .int 0, .int 0, .ref aB, .ref aT, .int 0, .int 0, .ref aG, .ref aO, .ref aN, .ref aD, .long bv, .ref aY, .int 0, .int 0, .int 0, .int 0])), (aS, .inl (cS, 901, .inl (upd (upd (upd s0 4 0) 191 3) 196 0)))] := hD
  refine lv_aload_n hx hb dX12_hill_68 rfl (lv_at hl 0 rfl) ?_
  refine lv_iconst (v := 0) hx hb dX12_hill_69 (by decide) ?_
  refine va_put (D := (dC, dI)) (ci := 14) (v := .int 0) (ty := .int) (C := RX12) (T := TX12) (N := 23) hx hb hts kc_mHill_0 tyX12 tyX12_ok nmX12 hown hK hP hD hS 0 rfl rfl 5 (by decide) (hts (.fieldLink RX12 59 "MistHeapsModel" "spot" "I") kc_mHill_4) (fun _ h9 => h9) rfl (by decide +kernel) rfl rfl (Nat.le_of_ble_eq_true rfl) dX12_hill_70 (fun H locs hP hD hS => ?_)
  have hP : va_P (dC, dI) vwCl [(m0, .inr (14, [.int 0, .ref aS, .ref aI, .int 0, .int 0, .int 0, .int 0, .int 0, .int 0, .ref aB, .ref aT, .int 0, .int 0, .ref aG, .ref aO, .ref aN, .ref aD, .long bv, .ref aY, .int 0, .int 0, .int 0, .int 0])), (aS, .inl (cS, 901, .inl (upd (upd (upd s0 4 0) 191 3) 196 0)))] H := hP
  have hD : va_D A [(m0, .inr (14, [.int 0, .ref aS, .ref aI, .int 0, .int 0, .int 0, .int 0, .int 0, .int 0, .ref aB, .ref aT, .int 0, .int 0, .ref aG, .ref aO, .ref aN, .ref aD, .long bv, .ref aY, .int 0, .int 0, .int 0, .int 0])), (aS, .inl (cS, 901, .inl (upd (upd (upd s0 4 0) 191 3) 196 0)))] := hD
  refine lv_aload_n hx hb dX12_hill_73 rfl (lv_at hl 0 rfl) ?_
  refine lv_iconst (v := 0) hx hb dX12_hill_74 (by decide) ?_
  refine va_put (D := (dC, dI)) (ci := 14) (v := .int 0) (ty := .boolean) (C := RX12) (T := TX12) (N := 23) hx hb hts kc_mHill_0 tyX12 tyX12_ok nmX12 hown hK hP hD hS 0 rfl rfl 7 (by decide) (hts (.fieldLink RX12 65 "MistHeapsModel" "isWrong" "Z") kc_mHill_5) (fun _ h9 => h9) rfl (by decide +kernel) rfl rfl (Nat.le_of_ble_eq_true rfl) dX12_hill_75 (fun H locs hP hD hS => ?_)
  have hP : va_P (dC, dI) vwCl [(m0, .inr (14, [.int 0, .ref aS, .ref aI, .int 0, .int 0, .int 0, .int 0, .int 0, .int 0, .ref aB, .ref aT, .int 0, .int 0, .ref aG, .ref aO, .ref aN, .ref aD, .long bv, .ref aY, .int 0, .int 0, .int 0, .int 0])), (aS, .inl (cS, 901, .inl (upd (upd (upd s0 4 0) 191 3) 196 0)))] H := hP
  have hD : va_D A [(m0, .inr (14, [.int 0, .ref aS, .ref aI, .int 0, .int 0, .int 0, .int 0, .int 0, .int 0, .ref aB, .ref aT, .int 0, .int 0, .ref aG, .ref aO, .ref aN, .ref aD, .long bv, .ref aY, .int 0, .int 0, .int 0, .int 0])), (aS, .inl (cS, 901, .inl (upd (upd (upd s0 4 0) 191 3) 196 0)))] := hD
  refine lv_aload_n hx hb dX12_hill_78 rfl (lv_at hl 0 rfl) ?_
  refine lv_iconst (v := 0) hx hb dX12_hill_79 (by decide) ?_
  refine va_put (D := (dC, dI)) (ci := 14) (v := .int 0) (ty := .int) (C := RX12) (T := TX12) (N := 23) hx hb hts kc_mHill_0 tyX12 tyX12_ok nmX12 hown hK hP hD hS 0 rfl rfl 8 (by decide) (hts (.fieldLink RX12 89 "MistHeapsModel" "open" "I") kc_mHill_6) (fun _ h9 => h9) rfl (by decide +kernel) rfl rfl (Nat.le_of_ble_eq_true rfl) dX12_hill_80 (fun H locs hP hD hS => ?_)
  have hP : va_P (dC, dI) vwCl [(m0, .inr (14, [.int 0, .ref aS, .ref aI, .int 0, .int 0, .int 0, .int 0, .int 0, .int 0, .ref aB, .ref aT, .int 0, .int 0, .ref aG, .ref aO, .ref aN, .ref aD, .long bv, .ref aY, .int 0, .int 0, .int 0, .int 0])), (aS, .inl (cS, 901, .inl (upd (upd (upd s0 4 0) 191 3) 196 0)))] H := hP
  have hD : va_D A [(m0, .inr (14, [.int 0, .ref aS, .ref aI, .int 0, .int 0, .int 0, .int 0, .int 0, .int 0, .ref aB, .ref aT, .int 0, .int 0, .ref aG, .ref aO, .ref aN, .ref aD, .long bv, .ref aY, .int 0, .int 0, .int 0, .int 0])), (aS, .inl (cS, 901, .inl (upd (upd (upd s0 4 0) 191 3) 196 0)))] := hD
  refine lv_iconst (v := 1) hx hb dX12_hill_83 (by decide) ?_
  refine lv_istore_n (lv' := [(1, .int 1), (0, .ref m0)]) hx hb dX12_hill_84 rfl hl (by decide) rfl (fun ls hl => ?_)
  refine lv_aload_n hx hb dX12_hill_85 rfl (lv_at hl 1 rfl) ?_
  have hPc := hP.sub (ws' := [(m0, .inr (14, [.int 0, .ref aS, .ref aI, .int 0, .int 0, .int 0, .int 0, .int 0, .int 0, .ref aB, .ref aT, .int 0, .int 0, .ref aG, .ref aO, .ref aN, .ref aD, .long bv, .ref aY, .int 0, .int 0, .int 0, .int 0]))]) [0] rfl
  have hDc := hD.sub (ws' := [(m0, .inr (14, [.int 0, .ref aS, .ref aI, .int 0, .int 0, .int 0, .int 0, .int 0, .int 0, .ref aB, .ref aT, .int 0, .int 0, .ref aG, .ref aO, .ref aN, .ref aD, .long bv, .ref aY, .int 0, .int 0, .int 0, .int 0]))]) [0] (by decide) rfl
  have hKc := hK.sub (tys' := []) [] rfl
  have hFc := va_free (wc := [(m0, .inr (14, [.int 0, .ref aS, .ref aI, .int 0, .int 0, .int 0, .int 0, .int 0, .int 0, .ref aB, .ref aT, .int 0, .int 0, .ref aG, .ref aO, .ref aN, .ref aD, .long bv, .ref aY, .int 0, .int 0, .int 0, .int 0]))]) hD hS hA [0] rfl
  refine va_callv (va_runV (As := []) (rest := []) ⟨hx, hb, hml, hown, hts⟩ (c_clause0 l dC dI m0 aS aI aB aT aG aO aN aD aY bv H.size) (cwV 0 hts gX12_hill_X12_clauseHere rfl rfl rfl (by decide +kernel) ⟨Nat.le_of_ble_eq_true rfl, Nat.le_of_ble_eq_true rfl⟩) ⟨fun a U g mk q => by obtain ⟨q0, q1, qP, qK, qD⟩ := q; exact ⟨q0, q1, qP, va_K.moved (u := U) (U := U.calling g mk a) (Vm.Alike.refl U.vm) qK, qD⟩, va_recv hK hP (ci := 14) (q0 := 0) rfl rfl, fun U hU hW => ⟨rfl, by rw [hU], by rw [hU]; exact hPc, va_K.moved hW.alike hKc, hDc.weaken (fun _ _ _ _ => trivial)⟩⟩ rfl rfl hl.1 rfl (lv_room (Nat.le_of_ble_eq_true rfl)) dX12_hill_86 ⟨Nat.le_of_ble_eq_true rfl, Nat.le_of_ble_eq_true rfl⟩) hS (fun q _ h => hFc q h) hFc (fun u tC H1 locs htC hvm hw_3 hB hz1 hk1 hS => ?_)
  obtain ⟨⟩ := u
  try dsimp only at hw_3 hB
  obtain ⟨hP1, hK1, hD1⟩ := hB
  rw [htC] at hP1
  have hK1 := va_K.moved hvm.symm hK1
  obtain ⟨hP, hD⟩ := va_join (wr := [(aS, .inl (cS, 901, .inl (upd (upd (upd s0 4 0) 191 3) 196 0)))]) (w1 := [(m0, .inr (14, [.int 0, .ref aS, .ref aI, .int 0, .int 0, .int 0, .int 0, .int 1, .int 0, .ref aB, .ref aT, .int 0, .int 0, .ref aG, .ref aO, .ref aN, .ref aD, .long bv, .ref aY, .int 0, .int 0, .int 0, .int 0]))]) hP hD [0] [1] rfl rfl (by decide) (by decide) hk1 hFc hP1 hD1
  have hK := (hK.sub (tys' := [(cS, .int)]) [0] rfl).app hK1
  generalize H1 = H at hP hS ⊢
  have hP : va_P (dC, dI) vwCl [(aS, .inl (cS, 901, .inl (upd (upd (upd s0 4 0) 191 3) 196 0))), (m0, .inr (14, [.int 0, .ref aS, .ref aI, .int 0, .int 0, .int 0, .int 0, .int 1, .int 0, .ref aB, .ref aT, .int 0, .int 0, .ref aG, .ref aO, .ref aN, .ref aD, .long bv, .ref aY, .int 0, .int 0, .int 0, .int 0]))] H := hP
  have hD : va_D A [(aS, .inl (cS, 901, .inl (upd (upd (upd s0 4 0) 191 3) 196 0))), (m0, .inr (14, [.int 0, .ref aS, .ref aI, .int 0, .int 0, .int 0, .int 0, .int 1, .int 0, .ref aB, .ref aT, .int 0, .int 0, .ref aG, .ref aO, .ref aN, .ref aD, .long bv, .ref aY, .int 0, .int 0, .int 0, .int 0]))] := hD
  have hK : va_K (dC, dI) vwCl [(cS, .int)] s := hK
  refine lv_aload_n hx hb dX12_hill_89 rfl (lv_at hl 1 rfl) ?_
  refine va_get (D := (dC, dI)) (ci := 14) (v := .int 1) (C := RX12) (T := TX12) (N := 23) hx hb hts kc_mHill_0 hown hK hP 1 rfl rfl 7 (by decide) (hts (.fieldLink RX12 65 "MistHeapsModel" "isWrong" "Z") kc_mHill_5) (fun _ h9 => h9) rfl dX12_hill_90 ?_
  refine lv_if_ne (tgt := 131) hx hb dX12_hill_93 (by decide) (fun _ => ?_) (fun c_4 => absurd c_4 (by decide))
  refine lv_aload_n hx hb dX12_hill_131 rfl (lv_at hl 1 rfl) ?_
  refine va_get (D := (dC, dI)) (ci := 14) (v := .int 1) (C := RX12) (T := TX12) (N := 23) hx hb hts kc_mHill_0 hown hK hP 1 rfl rfl 7 (by decide) (hts (.fieldLink RX12 65 "MistHeapsModel" "isWrong" "Z") kc_mHill_5) (fun _ h9 => h9) rfl dX12_hill_132 ?_
  refine lv_if_ne (tgt := 149) hx hb dX12_hill_135 (by decide) (fun _ => ?_) (fun c_5 => absurd c_5 (by decide))
  refine lv_bipush (v := (-10)) hx hb dX12_hill_149 (by decide) ?_
  refine lv_aload_n hx hb dX12_hill_151 rfl (lv_at hl 1 rfl) ?_
  refine va_get (D := (dC, dI)) (ci := 14) (v := .int 0) (C := RX12) (T := TX12) (N := 23) hx hb hts kc_mHill_0 hown hK hP 1 rfl rfl 5 (by decide) (hts (.fieldLink RX12 59 "MistHeapsModel" "spot" "I") kc_mHill_4) (fun _ h9 => h9) rfl dX12_hill_152 ?_
  refine lv_isub hx hb dX12_hill_155 ?_
  refine qi_as (y := (-10)) (by decide) ?_
  rw [hQ]
  exact W.iret (v := (-10)) hx hb hr (fun tQ htQ hWQ => ⟨⟨(-10), (), rfl, rfl, trivial⟩, hS.F htQ⟩) hS.2.2 dX12_hill_156
