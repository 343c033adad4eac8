theorem dX0_tryLast_0 : decode cX0_tryLast 0 = .ok (.iconst 0, 1) := by decide +kernel
theorem dX0_tryLast_1 : decode cX0_tryLast 1 = .ok (.istore_n 3, 1) := by decide +kernel
theorem dX0_tryLast_2 : decode cX0_tryLast 2 = .ok (.iload_n 3, 1) := by decide +kernel
theorem dX0_tryLast_3 : decode cX0_tryLast 3 = .ok (.bipush 8, 2) := by decide +kernel
theorem dX0_tryLast_5 : decode cX0_tryLast 5 = .ok (.if_icmp .ge 74, 3) := by decide +kernel
theorem dX0_tryLast_79 : decode cX0_tryLast 79 = .ok (.return_, 1) := by decide +kernel
theorem dX0_tryLast_8 : decode cX0_tryLast 8 = .ok (.lconst 0, 1) := by decide +kernel
theorem dX0_tryLast_9 : decode cX0_tryLast 9 = .ok (.lstore 4, 2) := by decide +kernel
theorem dX0_tryLast_11 : decode cX0_tryLast 11 = .ok (.iconst 0, 1) := by decide +kernel
theorem dX0_tryLast_12 : decode cX0_tryLast 12 = .ok (.istore 6, 2) := by decide +kernel
theorem dX0_tryLast_14 : decode cX0_tryLast 14 = .ok (.iload 6, 2) := by decide +kernel
theorem dX0_tryLast_16 : decode cX0_tryLast 16 = .ok (.bipush 36, 2) := by decide +kernel
theorem dX0_tryLast_18 : decode cX0_tryLast 18 = .ok (.if_icmp .ge 29, 3) := by decide +kernel
theorem dX0_tryLast_47 : decode cX0_tryLast 47 = .ok (.lload 4, 2) := by decide +kernel
theorem dX0_tryLast_49 : decode cX0_tryLast 49 = .ok (.aload_n 0, 1) := by decide +kernel
theorem dX0_tryLast_50 : decode cX0_tryLast 50 = .ok (.getfield 66, 3) := by decide +kernel
theorem dX0_tryLast_53 : decode cX0_tryLast 53 = .ok (.lcmp, 1) := by decide +kernel
theorem dX0_tryLast_54 : decode cX0_tryLast 54 = .ok (.ifCond .le 19, 3) := by decide +kernel
theorem dX0_tryLast_73 : decode cX0_tryLast 73 = .ok (.iinc 3 1, 3) := by decide +kernel
theorem dX0_tryLast_76 : decode cX0_tryLast 76 = .ok (.goto (-74), 3) := by decide +kernel
theorem dX0_tryLast_57 : decode cX0_tryLast 57 = .ok (.aload_n 0, 1) := by decide +kernel
theorem dX0_tryLast_58 : decode cX0_tryLast 58 = .ok (.lload 4, 2) := by decide +kernel
theorem dX0_tryLast_60 : decode cX0_tryLast 60 = .ok (.putfield 66, 3) := by decide +kernel
theorem dX0_tryLast_63 : decode cX0_tryLast 63 = .ok (.aload_n 0, 1) := by decide +kernel
theorem dX0_tryLast_64 : decode cX0_tryLast 64 = .ok (.iload_n 2, 1) := by decide +kernel
theorem dX0_tryLast_65 : decode cX0_tryLast 65 = .ok (.bipush 8, 2) := by decide +kernel
theorem dX0_tryLast_67 : decode cX0_tryLast 67 = .ok (.imul, 1) := by decide +kernel
theorem dX0_tryLast_68 : decode cX0_tryLast 68 = .ok (.iload_n 3, 1) := by decide +kernel
theorem dX0_tryLast_69 : decode cX0_tryLast 69 = .ok (.iadd, 1) := by decide +kernel
theorem dX0_tryLast_70 : decode cX0_tryLast 70 = .ok (.putfield 77, 3) := by decide +kernel
theorem dX0_tryLast_21 : decode cX0_tryLast 21 = .ok (.lload 4, 2) := by decide +kernel
theorem dX0_tryLast_23 : decode cX0_tryLast 23 = .ok (.aload_n 1, 1) := by decide +kernel
theorem dX0_tryLast_24 : decode cX0_tryLast 24 = .ok (.iload 6, 2) := by decide +kernel
theorem dX0_tryLast_26 : decode cX0_tryLast 26 = .ok (.laload, 1) := by decide +kernel
theorem dX0_tryLast_27 : decode cX0_tryLast 27 = .ok (.aload_n 0, 1) := by decide +kernel
theorem dX0_tryLast_28 : decode cX0_tryLast 28 = .ok (.getfield 22, 3) := by decide +kernel
theorem dX0_tryLast_31 : decode cX0_tryLast 31 = .ok (.iload_n 3, 1) := by decide +kernel
theorem dX0_tryLast_32 : decode cX0_tryLast 32 = .ok (.aaload, 1) := by decide +kernel
theorem dX0_tryLast_33 : decode cX0_tryLast 33 = .ok (.iload 6, 2) := by decide +kernel
theorem dX0_tryLast_35 : decode cX0_tryLast 35 = .ok (.iaload, 1) := by decide +kernel
theorem dX0_tryLast_36 : decode cX0_tryLast 36 = .ok (.i2l, 1) := by decide +kernel
theorem dX0_tryLast_37 : decode cX0_tryLast 37 = .ok (.lmul, 1) := by decide +kernel
theorem dX0_tryLast_38 : decode cX0_tryLast 38 = .ok (.ladd, 1) := by decide +kernel
theorem dX0_tryLast_39 : decode cX0_tryLast 39 = .ok (.lstore 4, 2) := by decide +kernel
theorem dX0_tryLast_41 : decode cX0_tryLast 41 = .ok (.iinc 6 1, 3) := by decide +kernel
theorem dX0_tryLast_44 : decode cX0_tryLast 44 = .ok (.goto (-30), 3) := by decide +kernel
theorem dX0_foundWay_0 : decode cX0_foundWay 0 = .ok (.aload_n 0, 1) := by decide +kernel
theorem dX0_foundWay_1 : decode cX0_foundWay 1 = .ok (.getfield 77, 3) := by decide +kernel
theorem dX0_foundWay_4 : decode cX0_foundWay 4 = .ok (.iconst 3, 1) := by decide +kernel
theorem dX0_foundWay_5 : decode cX0_foundWay 5 = .ok (.iload_n 1, 1) := by decide +kernel
theorem dX0_foundWay_6 : decode cX0_foundWay 6 = .ok (.iconst 1, 1) := by decide +kernel
theorem dX0_foundWay_7 : decode cX0_foundWay 7 = .ok (.isub, 1) := by decide +kernel
theorem dX0_foundWay_8 : decode cX0_foundWay 8 = .ok (.iload_n 2, 1) := by decide +kernel
theorem dX0_foundWay_9 : decode cX0_foundWay 9 = .ok (.isub, 1) := by decide +kernel
theorem dX0_foundWay_10 : decode cX0_foundWay 10 = .ok (.imul, 1) := by decide +kernel
theorem dX0_foundWay_11 : decode cX0_foundWay 11 = .ok (.ishr, 1) := by decide +kernel
theorem dX0_foundWay_12 : decode cX0_foundWay 12 = .ok (.bipush 7, 2) := by decide +kernel
theorem dX0_foundWay_14 : decode cX0_foundWay 14 = .ok (.iand, 1) := by decide +kernel
theorem dX0_foundWay_15 : decode cX0_foundWay 15 = .ok (.ireturn, 1) := by decide +kernel
theorem kc_tryLast_0 : ∀ w ∈ wsX00, w ∈ wsX0_tryLast := by decide +kernel
theorem kc_tryLast_1 : (.fieldLink RX0 66 "MistHeaps$Chances" "foundTimes" "J" : Cond) ∈ wsX0_tryLast := by decide +kernel
theorem kc_tryLast_2 : (.fieldLink RX0 77 "MistHeaps$Chances" "foundRow" "I" : Cond) ∈ wsX0_tryLast := by decide +kernel
theorem kc_tryLast_3 : (.fieldLink RX0 22 "MistHeaps$Chances" "hits" "[[I" : Cond) ∈ wsX0_tryLast := by decide +kernel
set_option maxHeartbeats 4000000 in
set_option maxRecDepth 100000 in
theorem c_tryLast (l : Launch) (dC : Nat → ClassId) (dI : Nat → Nat → Nat) (ch dr tO hO : Nat) (ft : Int64) (fr : Int32) (rh : Nat → Nat) (cHO cH : ClassId) (fa : Nat) (cA1 : ClassId) (ff : Nat → Int64) (g0 g1 g2 g3 g4 g5 g6 g7 : Nat → Int32) (mk : Int64) (v : Nat → Int64) (pj k r0 : Nat) (sz : Nat) (zr : r0 < 64) (zp : pj < 36) (zk : k ≤ 2) (zO : ∀ x, x < 36 → ff x = ind pj k x) (zh0 : ∀ x, x < 36 → g0 x = hv mk 0 x) (zh1 : ∀ x, x < 36 → g1 x = hv mk 1 x) (zh2 : ∀ x, x < 36 → g2 x = hv mk 2 x) (zh3 : ∀ x, x < 36 → g3 x = hv mk 3 x) (zh4 : ∀ x, x < 36 → g4 x = hv mk 4 x) (zh5 : ∀ x, x < 36 → g5 x = hv mk 5 x) (zh6 : ∀ x, x < 36 → g6 x = hv mk 6 x) (zh7 : ∀ x, x < 36 → g7 x = hv mk 7 x) (zv : ∀ w, w < 8 → v (r0 * 8 + w) = tv k mk pj w) (zg : GJ v (r0 * 8) ft fr) : Met l yX0_tryLast wsX0_tryLast ({ frames := 0, cells := 0, slots := 0, locals := 0 } : Room) (va_Pc [.ref ch, .ref fa, .int (nI r0)] (fun U => U.heap.size = sz ∧ va_P (dC, dI) vwCl [(ch, .inr (2, [.long ft, .int fr, .ref dr, .ref tO, .ref hO])), (fa, .inl (cA1, 36, .inr (.inl ff))), (hO, .inl (cHO, 8, .inr (.inr (.inr (.inr (fun i => if i < 8 then some (rh i) else none)))))), ((rh 0), .inl (cH, 36, .inl g0)), ((rh 1), .inl (cH, 36, .inl g1)), ((rh 2), .inl (cH, 36, .inl g2)), ((rh 3), .inl (cH, 36, .inl g3)), ((rh 4), .inl (cH, 36, .inl g4)), ((rh 5), .inl (cH, 36, .inl g5)), ((rh 6), .inl (cH, 36, .inl g6)), ((rh 7), .inl (cH, 36, .inl g7))] U.heap ∧ va_K (dC, dI) vwCl [(cA1, .long), (cHO, .array .int), (cH, .int), (cH, .int), (cH, .int), (cH, .int), (cH, .int), (cH, .int), (cH, .int), (cH, .int)] U ∧ va_D (fun _ => True) [(ch, .inr (2, [.long ft, .int fr, .ref dr, .ref tO, .ref hO])), (fa, .inl (cA1, 36, .inr (.inl ff))), (hO, .inl (cHO, 8, .inr (.inr (.inr (.inr (fun i => if i < 8 then some (rh i) else none)))))), ((rh 0), .inl (cH, 36, .inl g0)), ((rh 1), .inl (cH, 36, .inl g1)), ((rh 2), .inl (cH, 36, .inl g2)), ((rh 3), .inl (cH, 36, .inl g3)), ((rh 4), .inl (cH, 36, .inl g4)), ((rh 5), .inl (cH, 36, .inl g5)), ((rh 6), .inl (cH, 36, .inl g6)), ((rh 7), .inl (cH, 36, .inl g7))])) (va_Qv (fun (u : (Int64) × (Int32)) => match u with | (ft2, fr2) => GJ v (r0 * 8 + 8) ft2 fr2) (fun (u : (Int64) × (Int32)) (t : State) => match u with | (ft2, fr2) => va_P (dC, dI) vwCl [(ch, .inr (2, [.long ft2, .int fr2, .ref dr, .ref tO, .ref hO])), (fa, .inl (cA1, 36, .inr (.inl ff))), (hO, .inl (cHO, 8, .inr (.inr (.inr (.inr (fun i => if i < 8 then some (rh i) else none)))))), ((rh 0), .inl (cH, 36, .inl g0)), ((rh 1), .inl (cH, 36, .inl g1)), ((rh 2), .inl (cH, 36, .inl g2)), ((rh 3), .inl (cH, 36, .inl g3)), ((rh 4), .inl (cH, 36, .inl g4)), ((rh 5), .inl (cH, 36, .inl g5)), ((rh 6), .inl (cH, 36, .inl g6)), ((rh 7), .inl (cH, 36, .inl g7))] t.heap ∧ va_K (dC, dI) vwCl [(cA1, .long), (cHO, .array .int), (cH, .int), (cH, .int), (cH, .int), (cH, .int), (cH, .int), (cH, .int), (cH, .int), (cH, .int)] t ∧ va_D (va_A [(ch, .inr (2, [.long ft, .int fr, .ref dr, .ref tO, .ref hO])), (fa, .inl (cA1, 36, .inr (.inl ff))), (hO, .inl (cHO, 8, .inr (.inr (.inr (.inr (fun i => if i < 8 then some (rh i) else none)))))), ((rh 0), .inl (cH, 36, .inl g0)), ((rh 1), .inl (cH, 36, .inl g1)), ((rh 2), .inl (cH, 36, .inl g2)), ((rh 3), .inl (cH, 36, .inl g3)), ((rh 4), .inl (cH, 36, .inl g4)), ((rh 5), .inl (cH, 36, .inl g5)), ((rh 6), .inl (cH, 36, .inl g6)), ((rh 7), .inl (cH, 36, .inl g7))] sz) [(ch, .inr (2, [.long ft2, .int fr2, .ref dr, .ref tO, .ref hO])), (fa, .inl (cA1, 36, .inr (.inl ff))), (hO, .inl (cHO, 8, .inr (.inr (.inr (.inr (fun i => if i < 8 then some (rh i) else none)))))), ((rh 0), .inl (cH, 36, .inl g0)), ((rh 1), .inl (cH, 36, .inl g1)), ((rh 2), .inl (cH, 36, .inl g2)), ((rh 3), .inl (cH, 36, .inl g3)), ((rh 4), .inl (cH, 36, .inl g4)), ((rh 5), .inl (cH, 36, .inl g5)), ((rh 6), .inl (cH, 36, .inl g6)), ((rh 7), .inl (cH, 36, .inl g7))]) (va_A [(ch, .inr (2, [.long ft, .int fr, .ref dr, .ref tO, .ref hO])), (fa, .inl (cA1, 36, .inr (.inl ff))), (hO, .inl (cHO, 8, .inr (.inr (.inr (.inr (fun i => if i < 8 then some (rh i) else none)))))), ((rh 0), .inl (cH, 36, .inl g0)), ((rh 1), .inl (cH, 36, .inl g1)), ((rh 2), .inl (cH, 36, .inl g2)), ((rh 3), .inl (cH, 36, .inl g3)), ((rh 4), .inl (cH, 36, .inl g4)), ((rh 5), .inl (cH, 36, .inl g5)), ((rh 6), .inl (cH, 36, .inl g6)), ((rh 7), .inl (cH, 36, .inl g7))] sz)) 0 0 (va_A [(ch, .inr (2, [.long ft, .int fr, .ref dr, .ref tO, .ref hO])), (fa, .inl (cA1, 36, .inr (.inl ff))), (hO, .inl (cHO, 8, .inr (.inr (.inr (.inr (fun i => if i < 8 then some (rh i) else none)))))), ((rh 0), .inl (cH, 36, .inl g0)), ((rh 1), .inl (cH, 36, .inl g1)), ((rh 2), .inl (cH, 36, .inl g2)), ((rh 3), .inl (cH, 36, .inl g3)), ((rh 4), .inl (cH, 36, .inl g4)), ((rh 5), .inl (cH, 36, .inl g5)), ((rh 6), .inl (cH, 36, .inl g6)), ((rh 7), .inl (cH, 36, .inl g7))] sz) := by
  refine met_ofQ (cc := cX0_tryLast) (maxL := 7) (ret := none) (by decide) rfl ?_
  intro p e s m args below meth c s₁ Q B hml hv hQ
  obtain ⟨rfl, hsz, hP, hK, hD0⟩ := hv
  have hx := B.exec
  have hb := B.bytes
  have hr := B.returns
  have hts := atoms_spec (ws := wsX0_tryLast) B.pre
  have hown : s.vm.findClass RX0 = some m.cls := findClass_of_methodNamed B.named
  have hlocks := B.notSynchronized
  subst hsz
  have hD := hD0.self (sz := s.heap.size)
  generalize hAe : va_A [(ch, .inr (2, [.long ft, .int fr, .ref dr, .ref tO, .ref hO])), (fa, .inl (cA1, 36, .inr (.inl ff))), (hO, .inl (cHO, 8, .inr (.inr (.inr (.inr (fun i => if i < 8 then some (rh i) else none)))))), ((rh 0), .inl (cH, 36, .inl g0)), ((rh 1), .inl (cH, 36, .inl g1)), ((rh 2), .inl (cH, 36, .inl g2)), ((rh 3), .inl (cH, 36, .inl g3)), ((rh 4), .inl (cH, 36, .inl g4)), ((rh 5), .inl (cH, 36, .inl g5)), ((rh 6), .inl (cH, 36, .inl g6)), ((rh 7), .inl (cH, 36, .inl g7))] s.heap.size = A at hD hQ ⊢
  have hA : ∀ q : Nat, s.heap.size ≤ q → A q := fun q h => by rw [← hAe]; exact Or.inr h
  have hS : va_S A s.heap s.heap [] := va_S.rf
  have hl := lv_entry [.ref ch, .ref fa, .int (nI r0)] (n := 7) (Nat.le_of_ble_eq_true rfl)
  rw [lg_entry_eq]
  generalize (lg_sl [.ref ch, .ref fa, .int (nI r0)] ++ List.replicate (7 - (lg_sl [.ref ch, .ref fa, .int (nI r0)]).length) Slot.unset).toArray = ls at hl ⊢
  generalize hag : ([.ref ch, .ref fa, .int (nI r0)] : List Value).toArray = args at hts hQ ⊢
  have hl : lv_has ls 7 [(0, .ref ch), (1, .ref fa), (2, .int (nI r0))] := hl
  obtain ⟨H, hH⟩ : ∃ H : Heap, H = s.heap := ⟨_, rfl⟩
  rw [← hH] at hP
  rw [← hH]
  have hS : va_S A s.heap H [] := by rw [hH]; exact hS
  obtain ⟨locs, hlo⟩ : ∃ L : List Loc, L = [] := ⟨_, rfl⟩
  rw [← hlo] at hS
  rw [← hlo]
  clear hH hlo
  refine lv_iconst (v := 0) hx hb dX0_tryLast_0 (by decide) ?_
  refine lv_istore_n (lv' := [(3, .int 0), (0, .ref ch), (1, .ref fa), (2, .int (nI r0))]) hx hb dX0_tryLast_1 rfl hl (by decide) rfl (fun ls hl => ?_)
  have L2 : ∀ (nF : Nat) (w : Nat) (aa : Int64) (bb : Int32), 8 - w < nF → (w ≤ 8) → (GJ v (r0 * 8 + w) aa bb) → ∀ (H : Heap) (locs : List Loc), va_K (dC, dI) vwCl [(cA1, .long), (cHO, .array .int), (cH, .int), (cH, .int), (cH, .int), (cH, .int), (cH, .int), (cH, .int), (cH, .int), (cH, .int)] s → va_P (dC, dI) vwCl [(ch, .inr (2, [.long aa, .int bb, .ref dr, .ref tO, .ref hO])), (fa, .inl (cA1, 36, .inr (.inl ff))), (hO, .inl (cHO, 8, .inr (.inr (.inr (.inr (fun i => if i < 8 then some (rh i) else none)))))), ((rh 0), .inl (cH, 36, .inl g0)), ((rh 1), .inl (cH, 36, .inl g1)), ((rh 2), .inl (cH, 36, .inl g2)), ((rh 3), .inl (cH, 36, .inl g3)), ((rh 4), .inl (cH, 36, .inl g4)), ((rh 5), .inl (cH, 36, .inl g5)), ((rh 6), .inl (cH, 36, .inl g6)), ((rh 7), .inl (cH, 36, .inl g7))] H → va_D A [(ch, .inr (2, [.long aa, .int bb, .ref dr, .ref tO, .ref hO])), (fa, .inl (cA1, 36, .inr (.inl ff))), (hO, .inl (cHO, 8, .inr (.inr (.inr (.inr (fun i => if i < 8 then some (rh i) else none)))))), ((rh 0), .inl (cH, 36, .inl g0)), ((rh 1), .inl (cH, 36, .inl g1)), ((rh 2), .inl (cH, 36, .inl g2)), ((rh 3), .inl (cH, 36, .inl g3)), ((rh 4), .inl (cH, 36, .inl g4)), ((rh 5), .inl (cH, 36, .inl g5)), ((rh 6), .inl (cH, 36, .inl g6)), ((rh 7), .inl (cH, 36, .inl g7))] → va_S A s.heap H locs → ∀ (ls : Array Slot), lv_has ls 7 [(0, .ref ch), (1, .ref fa), (2, .int (nI r0)), (3, .int (nI w))] → W p l e ({ frames := 0, cells := 0, slots := 0, locals := 0 } : Room) s m args below meth c H locs 0 0 Q (F0 m 2 ls []) := by
    intro nF
    induction nF with
    | zero => intro w aa bb hm; exact absurd hm (Nat.not_lt_zero _)
    | succ nF ih2 =>
      intro w aa bb hm hi hj H locs hK hP hD hS ls hl
      refine lv_iload_n hx hb dX0_tryLast_2 rfl (lv_at hl 3 rfl) ?_
      refine lv_bipush (v := 8) hx hb dX0_tryLast_3 (by decide) ?_
      refine lv_icmp_ge (tgt := 79) hx hb dX0_tryLast_5 (by decide) (fun c_1 => ?_) (fun c_1 => ?_)
      · skip
        have c_1 : 8 ≤ w := (nI_leI (a := 8) (b := w) (by omega) (by omega)).mp c_1
        rw [hQ]
        have hP9 := hP.sub (ws' := [(ch, .inr (2, [.long aa, .int bb, .ref dr, .ref tO, .ref hO])), (fa, .inl (cA1, 36, .inr (.inl ff))), (hO, .inl (cHO, 8, .inr (.inr (.inr (.inr (fun i => if i < 8 then some (rh i) else none)))))), ((rh 0), .inl (cH, 36, .inl g0)), ((rh 1), .inl (cH, 36, .inl g1)), ((rh 2), .inl (cH, 36, .inl g2)), ((rh 3), .inl (cH, 36, .inl g3)), ((rh 4), .inl (cH, 36, .inl g4)), ((rh 5), .inl (cH, 36, .inl g5)), ((rh 6), .inl (cH, 36, .inl g6)), ((rh 7), .inl (cH, 36, .inl g7))]) [0, 1, 2, 3, 4, 5, 6, 7, 8, 9, 10] rfl
        have hD9 := hD.sub (ws' := [(ch, .inr (2, [.long aa, .int bb, .ref dr, .ref tO, .ref hO])), (fa, .inl (cA1, 36, .inr (.inl ff))), (hO, .inl (cHO, 8, .inr (.inr (.inr (.inr (fun i => if i < 8 then some (rh i) else none)))))), ((rh 0), .inl (cH, 36, .inl g0)), ((rh 1), .inl (cH, 36, .inl g1)), ((rh 2), .inl (cH, 36, .inl g2)), ((rh 3), .inl (cH, 36, .inl g3)), ((rh 4), .inl (cH, 36, .inl g4)), ((rh 5), .inl (cH, 36, .inl g5)), ((rh 6), .inl (cH, 36, .inl g6)), ((rh 7), .inl (cH, 36, .inl g7))]) [0, 1, 2, 3, 4, 5, 6, 7, 8, 9, 10] (by decide) rfl
        have hK9 := hK.sub (tys' := [(cA1, .long), (cHO, .array .int), (cH, .int), (cH, .int), (cH, .int), (cH, .int), (cH, .int), (cH, .int), (cH, .int), (cH, .int)]) [0, 1, 2, 3, 4, 5, 6, 7, 8, 9] rfl
        exact W.vret hx hb hr (fun tQ htQ hWQ => ⟨⟨(aa, bb), rfl, (by have e : w = 8 := (by omega); rw [e] at hj; exact hj), by rw [htQ]; exact hP9, va_K.moved hWQ.alike hK9, hD9⟩, hS.F htQ⟩) hS.2.2 dX0_tryLast_79
      · skip
        have c_1 : ¬ 8 ≤ w := fun q => c_1 ((nI_leI (a := 8) (b := w) (by omega) (by omega)).mpr q)
        rcases lt8 (w := w) (by omega) with rfl | rfl | rfl | rfl | rfl | rfl | rfl | rfl
        · skip
          refine lv_lconst (v := 0) hx hb dX0_tryLast_8 (by decide) ?_
          refine lv_lstore (lv' := [(4, .long 0), (0, .ref ch), (1, .ref fa), (2, .int (nI r0)), (3, .int 0)]) hx hb dX0_tryLast_9 hl (by decide) rfl (fun ls hl => ?_)
          refine lv_iconst (v := 0) hx hb dX0_tryLast_11 (by decide) ?_
          refine lv_istore (lv' := [(6, .int 0), (4, .long 0), (0, .ref ch), (1, .ref fa), (2, .int (nI r0)), (3, .int 0)]) hx hb dX0_tryLast_12 hl (by decide) rfl (fun ls hl => ?_)
          have L14 : ∀ (nF : Nat) (i : Nat) (S : Int64), 36 - i < nF → (i ≤ 36) → (S = if pj < i then tv k mk pj 0 else 0) → ∀ (H : Heap) (locs : List Loc), va_K (dC, dI) vwCl [(cA1, .long), (cHO, .array .int), (cH, .int), (cH, .int), (cH, .int), (cH, .int), (cH, .int), (cH, .int), (cH, .int), (cH, .int)] s → va_P (dC, dI) vwCl [(ch, .inr (2, [.long aa, .int bb, .ref dr, .ref tO, .ref hO])), (fa, .inl (cA1, 36, .inr (.inl ff))), (hO, .inl (cHO, 8, .inr (.inr (.inr (.inr (fun i => if i < 8 then some (rh i) else none)))))), ((rh 0), .inl (cH, 36, .inl g0)), ((rh 1), .inl (cH, 36, .inl g1)), ((rh 2), .inl (cH, 36, .inl g2)), ((rh 3), .inl (cH, 36, .inl g3)), ((rh 4), .inl (cH, 36, .inl g4)), ((rh 5), .inl (cH, 36, .inl g5)), ((rh 6), .inl (cH, 36, .inl g6)), ((rh 7), .inl (cH, 36, .inl g7))] H → va_D A [(ch, .inr (2, [.long aa, .int bb, .ref dr, .ref tO, .ref hO])), (fa, .inl (cA1, 36, .inr (.inl ff))), (hO, .inl (cHO, 8, .inr (.inr (.inr (.inr (fun i => if i < 8 then some (rh i) else none)))))), ((rh 0), .inl (cH, 36, .inl g0)), ((rh 1), .inl (cH, 36, .inl g1)), ((rh 2), .inl (cH, 36, .inl g2)), ((rh 3), .inl (cH, 36, .inl g3)), ((rh 4), .inl (cH, 36, .inl g4)), ((rh 5), .inl (cH, 36, .inl g5)), ((rh 6), .inl (cH, 36, .inl g6)), ((rh 7), .inl (cH, 36, .inl g7))] → va_S A s.heap H locs → ∀ (ls : Array Slot), lv_has ls 7 [(0, .ref ch), (1, .ref fa), (2, .int (nI r0)), (3, .int 0), (4, .long S), (6, .int (nI i))] → W p l e ({ frames := 0, cells := 0, slots := 0, locals := 0 } : Room) s m args below meth c H locs 0 0 Q (F0 m 14 ls []) := by
            intro nF
            induction nF with
            | zero => intro i S hm; exact absurd hm (Nat.not_lt_zero _)
            | succ nF ih14 =>
              intro i S hm hi2 hs H locs hK hP hD hS ls hl
              refine lv_iload hx hb dX0_tryLast_14 (lv_at hl 5 rfl) ?_
              refine lv_bipush (v := 36) hx hb dX0_tryLast_16 (by decide) ?_
              refine lv_icmp_ge (tgt := 47) hx hb dX0_tryLast_18 (by decide) (fun c_2 => ?_) (fun c_2 => ?_)
              · skip
                have c_2 : 36 ≤ i := (nI_leI (a := 36) (b := i) (by omega) (by omega)).mp c_2
                have hsv : v (r0 * 8 + 0) = S := by rw [zv 0 (by omega), hs, if_pos (by omega)]
                refine lv_lload hx hb dX0_tryLast_47 (lv_at hl 4 rfl) ?_
                refine lv_aload_n hx hb dX0_tryLast_49 rfl (lv_at hl 0 rfl) ?_
                refine va_get (D := (dC, dI)) (ci := 2) (v := .long aa) (C := RX0) (T := TX0) (N := 5) hx hb hts kc_tryLast_0 hown hK hP 0 rfl rfl 0 (by decide) (hts (.fieldLink RX0 66 "MistHeaps$Chances" "foundTimes" "J") kc_tryLast_1) (fun _ h9 => h9) rfl dX0_tryLast_50 ?_
                refine W.lcmp hx hb dX0_tryLast_53 ?_
                refine lv_if_le (tgt := 73) hx hb dX0_tryLast_54 (by decide) (fun c_3 => ?_) (fun c_3 => ?_)
                · skip
                  rw [lg_cmp_le] at c_3
                  refine lv_iinc (v := 1) (lv' := [(3, .int 1), (0, .ref ch), (1, .ref fa), (2, .int (nI r0)), (4, .long S), (6, .int (nI i))]) hx hb dX0_tryLast_73 hl (k := 3) rfl (by decide) (by decide) rfl (fun ls hl => ?_)
                  refine lv_goto (tgt := 2) hx hb dX0_tryLast_76 (by decide) ?_
                  exact ih2 (1) _ _ (by omega) (by omega) (GJ_keep hj hsv c_3) _ _ (hK.sub [0, 1, 2, 3, 4, 5, 6, 7, 8, 9] rfl) (hP.sub [0, 1, 2, 3, 4, 5, 6, 7, 8, 9, 10] rfl) (hD.sub [0, 1, 2, 3, 4, 5, 6, 7, 8, 9, 10] (by decide) rfl) hS ls (lv_sub hl [1, 2, 3, 0] rfl)
                · skip
                  rw [lg_cmp_le] at c_3
                  refine lv_aload_n hx hb dX0_tryLast_57 rfl (lv_at hl 0 rfl) ?_
                  refine lv_lload hx hb dX0_tryLast_58 (lv_at hl 4 rfl) ?_
                  refine va_put (D := (dC, dI)) (ci := 2) (v := .long S) (ty := .long) (C := RX0) (T := TX0) (N := 5) hx hb hts kc_tryLast_0 tyX0 tyX0_ok nmX0 hown hK hP hD hS 0 rfl rfl 0 (by decide) (hts (.fieldLink RX0 66 "MistHeaps$Chances" "foundTimes" "J") kc_tryLast_1) (fun _ h9 => h9) rfl (by decide +kernel) rfl rfl (Nat.le_of_ble_eq_true rfl) dX0_tryLast_60 (fun H locs hP hD hS => ?_)
                  have hP : va_P (dC, dI) vwCl [(ch, .inr (2, [.long S, .int bb, .ref dr, .ref tO, .ref hO])), (fa, .inl (cA1, 36, .inr (.inl ff))), (hO, .inl (cHO, 8, .inr (.inr (.inr (.inr (fun i => if i < 8 then some (rh i) else none)))))), ((rh 0), .inl (cH, 36, .inl g0)), ((rh 1), .inl (cH, 36, .inl g1)), ((rh 2), .inl (cH, 36, .inl g2)), ((rh 3), .inl (cH, 36, .inl g3)), ((rh 4), .inl (cH, 36, .inl g4)), ((rh 5), .inl (cH, 36, .inl g5)), ((rh 6), .inl (cH, 36, .inl g6)), ((rh 7), .inl (cH, 36, .inl g7))] H := hP
                  have hD : va_D A [(ch, .inr (2, [.long S, .int bb, .ref dr, .ref tO, .ref hO])), (fa, .inl (cA1, 36, .inr (.inl ff))), (hO, .inl (cHO, 8, .inr (.inr (.inr (.inr (fun i => if i < 8 then some (rh i) else none)))))), ((rh 0), .inl (cH, 36, .inl g0)), ((rh 1), .inl (cH, 36, .inl g1)), ((rh 2), .inl (cH, 36, .inl g2)), ((rh 3), .inl (cH, 36, .inl g3)), ((rh 4), .inl (cH, 36, .inl g4)), ((rh 5), .inl (cH, 36, .inl g5)), ((rh 6), .inl (cH, 36, .inl g6)), ((rh 7), .inl (cH, 36, .inl g7))] := hD
                  refine lv_aload_n hx hb dX0_tryLast_63 rfl (lv_at hl 0 rfl) ?_
                  refine lv_iload_n hx hb dX0_tryLast_64 rfl (lv_at hl 2 rfl) ?_
                  refine lv_bipush (v := 8) hx hb dX0_tryLast_65 (by decide) ?_
                  refine lv_imul hx hb dX0_tryLast_67 ?_
                  refine qi_as (y := nI (r0 * 8)) (pk_mul r0 8) ?_
                  refine lv_iload_n hx hb dX0_tryLast_68 rfl (lv_at hl 3 rfl) ?_
                  refine lv_iadd hx hb dX0_tryLast_69 ?_
                  refine qi_as (y := nI ((r0 * 8) + 0)) (nI_add (r0 * 8) 0) ?_
                  refine va_put (D := (dC, dI)) (ci := 2) (v := .int (nI ((r0 * 8) + 0))) (ty := .int) (C := RX0) (T := TX0) (N := 5) hx hb hts kc_tryLast_0 tyX0 tyX0_ok nmX0 hown hK hP hD hS 0 rfl rfl 1 (by decide) (hts (.fieldLink RX0 77 "MistHeaps$Chances" "foundRow" "I") kc_tryLast_2) (fun _ h9 => h9) rfl (by decide +kernel) rfl rfl (Nat.le_of_ble_eq_true rfl) dX0_tryLast_70 (fun H locs hP hD hS => ?_)
                  have hP : va_P (dC, dI) vwCl [(ch, .inr (2, [.long S, .int (nI ((r0 * 8) + 0)), .ref dr, .ref tO, .ref hO])), (fa, .inl (cA1, 36, .inr (.inl ff))), (hO, .inl (cHO, 8, .inr (.inr (.inr (.inr (fun i => if i < 8 then some (rh i) else none)))))), ((rh 0), .inl (cH, 36, .inl g0)), ((rh 1), .inl (cH, 36, .inl g1)), ((rh 2), .inl (cH, 36, .inl g2)), ((rh 3), .inl (cH, 36, .inl g3)), ((rh 4), .inl (cH, 36, .inl g4)), ((rh 5), .inl (cH, 36, .inl g5)), ((rh 6), .inl (cH, 36, .inl g6)), ((rh 7), .inl (cH, 36, .inl g7))] H := hP
                  have hD : va_D A [(ch, .inr (2, [.long S, .int (nI ((r0 * 8) + 0)), .ref dr, .ref tO, .ref hO])), (fa, .inl (cA1, 36, .inr (.inl ff))), (hO, .inl (cHO, 8, .inr (.inr (.inr (.inr (fun i => if i < 8 then some (rh i) else none)))))), ((rh 0), .inl (cH, 36, .inl g0)), ((rh 1), .inl (cH, 36, .inl g1)), ((rh 2), .inl (cH, 36, .inl g2)), ((rh 3), .inl (cH, 36, .inl g3)), ((rh 4), .inl (cH, 36, .inl g4)), ((rh 5), .inl (cH, 36, .inl g5)), ((rh 6), .inl (cH, 36, .inl g6)), ((rh 7), .inl (cH, 36, .inl g7))] := hD
                  refine lv_iinc (v := 1) (lv' := [(3, .int 1), (0, .ref ch), (1, .ref fa), (2, .int (nI r0)), (4, .long S), (6, .int (nI i))]) hx hb dX0_tryLast_73 hl (k := 3) rfl (by decide) (by decide) rfl (fun ls hl => ?_)
                  refine lv_goto (tgt := 2) hx hb dX0_tryLast_76 (by decide) ?_
                  exact ih2 (1) _ _ (by omega) (by omega) (GJ_up hj hsv c_3) _ _ (hK.sub [0, 1, 2, 3, 4, 5, 6, 7, 8, 9] rfl) (hP.sub [0, 1, 2, 3, 4, 5, 6, 7, 8, 9, 10] rfl) (hD.sub [0, 1, 2, 3, 4, 5, 6, 7, 8, 9, 10] (by decide) rfl) hS ls (lv_sub hl [1, 2, 3, 0] rfl)
              · skip
                have c_2 : ¬ 36 ≤ i := fun q => c_2 ((nI_leI (a := 36) (b := i) (by omega) (by omega)).mpr q)
                by_cases hip : i = pj
                · skip
                  refine lv_lload hx hb dX0_tryLast_21 (lv_at hl 4 rfl) ?_
                  refine lv_aload_n hx hb dX0_tryLast_23 rfl (lv_at hl 1 rfl) ?_
                  refine lv_iload hx hb dX0_tryLast_24 (lv_at hl 5 rfl) ?_
                  refine va_lald hx hb hK hP 1 0 rfl rfl (vp_in_nI (n := i) (N := 36) (by omega) (by omega)) dX0_tryLast_26 ?_
                  refine ql_as (y := lN (20 ^ k)) ((show ff (nI i).toNatClampNeg = ff i from by rw [nI_clamp (by omega)]).trans (by rw [zO i (by omega), ind, if_pos hip])) ?_
                  refine lv_aload_n hx hb dX0_tryLast_27 rfl (lv_at hl 0 rfl) ?_
                  refine va_get (D := (dC, dI)) (ci := 2) (v := .ref hO) (C := RX0) (T := TX0) (N := 5) hx hb hts kc_tryLast_0 hown hK hP 0 rfl rfl 4 (by decide) (hts (.fieldLink RX0 22 "MistHeaps$Chances" "hits" "[[I") kc_tryLast_3) (fun _ h9 => h9) rfl dX0_tryLast_28 ?_
                  refine lv_iload_n hx hb dX0_tryLast_31 rfl (lv_at hl 3 rfl) ?_
                  refine va_alda hx hb hK hP 2 1 rfl rfl (vp_in_nI (n := 0) (N := 8) (by omega) (by omega)) dX0_tryLast_32 ?_
                  refine qq_as (v := .ref (rh 0)) (rfl) ?_
                  refine lv_iload hx hb dX0_tryLast_33 (lv_at hl 5 rfl) ?_
                  refine va_iald hx hb hK hP 3 2 rfl rfl (vp_in_nI (n := i) (N := 36) (by omega) (by omega)) dX0_tryLast_35 ?_
                  refine qi_as (y := hv mk 0 i) ((show g0 (nI i).toNatClampNeg = g0 i from by rw [nI_clamp (by omega)]).trans (zh0 i (by omega))) ?_
                  refine lv_i2l (v := (hv mk 0 i).toInt64) hx hb dX0_tryLast_36 (rfl) ?_
                  refine lv_lmul hx hb dX0_tryLast_37 ?_
                  refine lv_ladd hx hb dX0_tryLast_38 ?_
                  refine lv_lstore (lv' := [(4, .long (S + ((lN (20 ^ k)) * ((hv mk 0 i).toInt64)))), (0, .ref ch), (1, .ref fa), (2, .int (nI r0)), (3, .int 0), (6, .int (nI i))]) hx hb dX0_tryLast_39 hl (by decide) rfl (fun ls hl => ?_)
                  refine lv_iinc (v := nI (i + 1)) (lv' := [(6, .int (nI (i + 1))), (4, .long (S + ((lN (20 ^ k)) * ((hv mk 0 i).toInt64)))), (0, .ref ch), (1, .ref fa), (2, .int (nI r0)), (3, .int 0)]) hx hb dX0_tryLast_41 hl (k := 5) rfl (nI_add i 1) (by decide) rfl (fun ls hl => ?_)
                  refine lv_goto (tgt := 14) hx hb dX0_tryLast_44 (by decide) ?_
                  exact ih14 _ _ (by omega) (by omega) (sum_put hip hs) _ _ (hK.sub [0, 1, 2, 3, 4, 5, 6, 7, 8, 9] rfl) (hP.sub [0, 1, 2, 3, 4, 5, 6, 7, 8, 9, 10] rfl) (hD.sub [0, 1, 2, 3, 4, 5, 6, 7, 8, 9, 10] (by decide) rfl) hS ls (lv_sub hl [2, 3, 4, 5, 1, 0] rfl)
                · skip
                  refine lv_lload hx hb dX0_tryLast_21 (lv_at hl 4 rfl) ?_
                  refine lv_aload_n hx hb dX0_tryLast_23 rfl (lv_at hl 1 rfl) ?_
                  refine lv_iload hx hb dX0_tryLast_24 (lv_at hl 5 rfl) ?_
                  refine va_lald hx hb hK hP 1 0 rfl rfl (vp_in_nI (n := i) (N := 36) (by omega) (by omega)) dX0_tryLast_26 ?_
                  refine ql_as (y := 0) ((show ff (nI i).toNatClampNeg = ff i from by rw [nI_clamp (by omega)]).trans (by rw [zO i (by omega), ind, if_neg hip])) ?_
                  refine lv_aload_n hx hb dX0_tryLast_27 rfl (lv_at hl 0 rfl) ?_
                  refine va_get (D := (dC, dI)) (ci := 2) (v := .ref hO) (C := RX0) (T := TX0) (N := 5) hx hb hts kc_tryLast_0 hown hK hP 0 rfl rfl 4 (by decide) (hts (.fieldLink RX0 22 "MistHeaps$Chances" "hits" "[[I") kc_tryLast_3) (fun _ h9 => h9) rfl dX0_tryLast_28 ?_
                  refine lv_iload_n hx hb dX0_tryLast_31 rfl (lv_at hl 3 rfl) ?_
                  refine va_alda hx hb hK hP 2 1 rfl rfl (vp_in_nI (n := 0) (N := 8) (by omega) (by omega)) dX0_tryLast_32 ?_
                  refine qq_as (v := .ref (rh 0)) (rfl) ?_
                  refine lv_iload hx hb dX0_tryLast_33 (lv_at hl 5 rfl) ?_
                  refine va_iald hx hb hK hP 3 2 rfl rfl (vp_in_nI (n := i) (N := 36) (by omega) (by omega)) dX0_tryLast_35 ?_
                  refine qi_as (y := hv mk 0 i) ((show g0 (nI i).toNatClampNeg = g0 i from by rw [nI_clamp (by omega)]).trans (zh0 i (by omega))) ?_
                  refine lv_i2l (v := (hv mk 0 i).toInt64) hx hb dX0_tryLast_36 (rfl) ?_
                  refine lv_lmul hx hb dX0_tryLast_37 ?_
                  refine ql_as (y := 0) (Int64.zero_mul) ?_
                  refine lv_ladd hx hb dX0_tryLast_38 ?_
                  refine ql_as (y := S) (Int64.add_zero _) ?_
                  refine lv_lstore (lv' := [(4, .long S), (0, .ref ch), (1, .ref fa), (2, .int (nI r0)), (3, .int 0), (6, .int (nI i))]) hx hb dX0_tryLast_39 hl (by decide) rfl (fun ls hl => ?_)
                  refine lv_iinc (v := nI (i + 1)) (lv' := [(6, .int (nI (i + 1))), (4, .long S), (0, .ref ch), (1, .ref fa), (2, .int (nI r0)), (3, .int 0)]) hx hb dX0_tryLast_41 hl (k := 5) rfl (nI_add i 1) (by decide) rfl (fun ls hl => ?_)
                  refine lv_goto (tgt := 14) hx hb dX0_tryLast_44 (by decide) ?_
                  exact ih14 _ _ (by omega) (by omega) (sum_skip hip hs) _ _ (hK.sub [0, 1, 2, 3, 4, 5, 6, 7, 8, 9] rfl) (hP.sub [0, 1, 2, 3, 4, 5, 6, 7, 8, 9, 10] rfl) (hD.sub [0, 1, 2, 3, 4, 5, 6, 7, 8, 9, 10] (by decide) rfl) hS ls (lv_sub hl [2, 3, 4, 5, 1, 0] rfl)
          exact L14 _ (0) _ (Nat.lt_succ_self _) (by omega) (by rw [if_neg (Nat.not_lt_zero _)]) _ _ (hK.sub [0, 1, 2, 3, 4, 5, 6, 7, 8, 9] rfl) (hP.sub [0, 1, 2, 3, 4, 5, 6, 7, 8, 9, 10] rfl) (hD.sub [0, 1, 2, 3, 4, 5, 6, 7, 8, 9, 10] (by decide) rfl) hS ls (lv_sub hl [2, 3, 4, 5, 1, 0] rfl)
        · skip
          refine lv_lconst (v := 0) hx hb dX0_tryLast_8 (by decide) ?_
          refine lv_lstore (lv' := [(4, .long 0), (0, .ref ch), (1, .ref fa), (2, .int (nI r0)), (3, .int 1)]) hx hb dX0_tryLast_9 hl (by decide) rfl (fun ls hl => ?_)
          refine lv_iconst (v := 0) hx hb dX0_tryLast_11 (by decide) ?_
          refine lv_istore (lv' := [(6, .int 0), (4, .long 0), (0, .ref ch), (1, .ref fa), (2, .int (nI r0)), (3, .int 1)]) hx hb dX0_tryLast_12 hl (by decide) rfl (fun ls hl => ?_)
          have L14 : ∀ (nF : Nat) (i : Nat) (S : Int64), 36 - i < nF → (i ≤ 36) → (S = if pj < i then tv k mk pj 1 else 0) → ∀ (H : Heap) (locs : List Loc), va_K (dC, dI) vwCl [(cA1, .long), (cHO, .array .int), (cH, .int), (cH, .int), (cH, .int), (cH, .int), (cH, .int), (cH, .int), (cH, .int), (cH, .int)] s → va_P (dC, dI) vwCl [(ch, .inr (2, [.long aa, .int bb, .ref dr, .ref tO, .ref hO])), (fa, .inl (cA1, 36, .inr (.inl ff))), (hO, .inl (cHO, 8, .inr (.inr (.inr (.inr (fun i => if i < 8 then some (rh i) else none)))))), ((rh 0), .inl (cH, 36, .inl g0)), ((rh 1), .inl (cH, 36, .inl g1)), ((rh 2), .inl (cH, 36, .inl g2)), ((rh 3), .inl (cH, 36, .inl g3)), ((rh 4), .inl (cH, 36, .inl g4)), ((rh 5), .inl (cH, 36, .inl g5)), ((rh 6), .inl (cH, 36, .inl g6)), ((rh 7), .inl (cH, 36, .inl g7))] H → va_D A [(ch, .inr (2, [.long aa, .int bb, .ref dr, .ref tO, .ref hO])), (fa, .inl (cA1, 36, .inr (.inl ff))), (hO, .inl (cHO, 8, .inr (.inr (.inr (.inr (fun i => if i < 8 then some (rh i) else none)))))), ((rh 0), .inl (cH, 36, .inl g0)), ((rh 1), .inl (cH, 36, .inl g1)), ((rh 2), .inl (cH, 36, .inl g2)), ((rh 3), .inl (cH, 36, .inl g3)), ((rh 4), .inl (cH, 36, .inl g4)), ((rh 5), .inl (cH, 36, .inl g5)), ((rh 6), .inl (cH, 36, .inl g6)), ((rh 7), .inl (cH, 36, .inl g7))] → va_S A s.heap H locs → ∀ (ls : Array Slot), lv_has ls 7 [(0, .ref ch), (1, .ref fa), (2, .int (nI r0)), (3, .int 1), (4, .long S), (6, .int (nI i))] → W p l e ({ frames := 0, cells := 0, slots := 0, locals := 0 } : Room) s m args below meth c H locs 0 0 Q (F0 m 14 ls []) := by
            intro nF
            induction nF with
            | zero => intro i S hm; exact absurd hm (Nat.not_lt_zero _)
            | succ nF ih14 =>
              intro i S hm hi2 hs H locs hK hP hD hS ls hl
              refine lv_iload hx hb dX0_tryLast_14 (lv_at hl 5 rfl) ?_
              refine lv_bipush (v := 36) hx hb dX0_tryLast_16 (by decide) ?_
              refine lv_icmp_ge (tgt := 47) hx hb dX0_tryLast_18 (by decide) (fun c_4 => ?_) (fun c_4 => ?_)
              · skip
                have c_4 : 36 ≤ i := (nI_leI (a := 36) (b := i) (by omega) (by omega)).mp c_4
                have hsv : v (r0 * 8 + 1) = S := by rw [zv 1 (by omega), hs, if_pos (by omega)]
                refine lv_lload hx hb dX0_tryLast_47 (lv_at hl 4 rfl) ?_
                refine lv_aload_n hx hb dX0_tryLast_49 rfl (lv_at hl 0 rfl) ?_
                refine va_get (D := (dC, dI)) (ci := 2) (v := .long aa) (C := RX0) (T := TX0) (N := 5) hx hb hts kc_tryLast_0 hown hK hP 0 rfl rfl 0 (by decide) (hts (.fieldLink RX0 66 "MistHeaps$Chances" "foundTimes" "J") kc_tryLast_1) (fun _ h9 => h9) rfl dX0_tryLast_50 ?_
                refine W.lcmp hx hb dX0_tryLast_53 ?_
                refine lv_if_le (tgt := 73) hx hb dX0_tryLast_54 (by decide) (fun c_5 => ?_) (fun c_5 => ?_)
                · skip
                  rw [lg_cmp_le] at c_5
                  refine lv_iinc (v := 2) (lv' := [(3, .int 2), (0, .ref ch), (1, .ref fa), (2, .int (nI r0)), (4, .long S), (6, .int (nI i))]) hx hb dX0_tryLast_73 hl (k := 3) rfl (by decide) (by decide) rfl (fun ls hl => ?_)
                  refine lv_goto (tgt := 2) hx hb dX0_tryLast_76 (by decide) ?_
                  exact ih2 (2) _ _ (by omega) (by omega) (GJ_keep hj hsv c_5) _ _ (hK.sub [0, 1, 2, 3, 4, 5, 6, 7, 8, 9] rfl) (hP.sub [0, 1, 2, 3, 4, 5, 6, 7, 8, 9, 10] rfl) (hD.sub [0, 1, 2, 3, 4, 5, 6, 7, 8, 9, 10] (by decide) rfl) hS ls (lv_sub hl [1, 2, 3, 0] rfl)
                · skip
                  rw [lg_cmp_le] at c_5
                  refine lv_aload_n hx hb dX0_tryLast_57 rfl (lv_at hl 0 rfl) ?_
                  refine lv_lload hx hb dX0_tryLast_58 (lv_at hl 4 rfl) ?_
                  refine va_put (D := (dC, dI)) (ci := 2) (v := .long S) (ty := .long) (C := RX0) (T := TX0) (N := 5) hx hb hts kc_tryLast_0 tyX0 tyX0_ok nmX0 hown hK hP hD hS 0 rfl rfl 0 (by decide) (hts (.fieldLink RX0 66 "MistHeaps$Chances" "foundTimes" "J") kc_tryLast_1) (fun _ h9 => h9) rfl (by decide +kernel) rfl rfl (Nat.le_of_ble_eq_true rfl) dX0_tryLast_60 (fun H locs hP hD hS => ?_)
                  have hP : va_P (dC, dI) vwCl [(ch, .inr (2, [.long S, .int bb, .ref dr, .ref tO, .ref hO])), (fa, .inl (cA1, 36, .inr (.inl ff))), (hO, .inl (cHO, 8, .inr (.inr (.inr (.inr (fun i => if i < 8 then some (rh i) else none)))))), ((rh 0), .inl (cH, 36, .inl g0)), ((rh 1), .inl (cH, 36, .inl g1)), ((rh 2), .inl (cH, 36, .inl g2)), ((rh 3), .inl (cH, 36, .inl g3)), ((rh 4), .inl (cH, 36, .inl g4)), ((rh 5), .inl (cH, 36, .inl g5)), ((rh 6), .inl (cH, 36, .inl g6)), ((rh 7), .inl (cH, 36, .inl g7))] H := hP
                  have hD : va_D A [(ch, .inr (2, [.long S, .int bb, .ref dr, .ref tO, .ref hO])), (fa, .inl (cA1, 36, .inr (.inl ff))), (hO, .inl (cHO, 8, .inr (.inr (.inr (.inr (fun i => if i < 8 then some (rh i) else none)))))), ((rh 0), .inl (cH, 36, .inl g0)), ((rh 1), .inl (cH, 36, .inl g1)), ((rh 2), .inl (cH, 36, .inl g2)), ((rh 3), .inl (cH, 36, .inl g3)), ((rh 4), .inl (cH, 36, .inl g4)), ((rh 5), .inl (cH, 36, .inl g5)), ((rh 6), .inl (cH, 36, .inl g6)), ((rh 7), .inl (cH, 36, .inl g7))] := hD
                  refine lv_aload_n hx hb dX0_tryLast_63 rfl (lv_at hl 0 rfl) ?_
                  refine lv_iload_n hx hb dX0_tryLast_64 rfl (lv_at hl 2 rfl) ?_
                  refine lv_bipush (v := 8) hx hb dX0_tryLast_65 (by decide) ?_
                  refine lv_imul hx hb dX0_tryLast_67 ?_
                  refine qi_as (y := nI (r0 * 8)) (pk_mul r0 8) ?_
                  refine lv_iload_n hx hb dX0_tryLast_68 rfl (lv_at hl 3 rfl) ?_
                  refine lv_iadd hx hb dX0_tryLast_69 ?_
                  refine qi_as (y := nI ((r0 * 8) + 1)) (nI_add (r0 * 8) 1) ?_
                  refine va_put (D := (dC, dI)) (ci := 2) (v := .int (nI ((r0 * 8) + 1))) (ty := .int) (C := RX0) (T := TX0) (N := 5) hx hb hts kc_tryLast_0 tyX0 tyX0_ok nmX0 hown hK hP hD hS 0 rfl rfl 1 (by decide) (hts (.fieldLink RX0 77 "MistHeaps$Chances" "foundRow" "I") kc_tryLast_2) (fun _ h9 => h9) rfl (by decide +kernel) rfl rfl (Nat.le_of_ble_eq_true rfl) dX0_tryLast_70 (fun H locs hP hD hS => ?_)
                  have hP : va_P (dC, dI) vwCl [(ch, .inr (2, [.long S, .int (nI ((r0 * 8) + 1)), .ref dr, .ref tO, .ref hO])), (fa, .inl (cA1, 36, .inr (.inl ff))), (hO, .inl (cHO, 8, .inr (.inr (.inr (.inr (fun i => if i < 8 then some (rh i) else none)))))), ((rh 0), .inl (cH, 36, .inl g0)), ((rh 1), .inl (cH, 36, .inl g1)), ((rh 2), .inl (cH, 36, .inl g2)), ((rh 3), .inl (cH, 36, .inl g3)), ((rh 4), .inl (cH, 36, .inl g4)), ((rh 5), .inl (cH, 36, .inl g5)), ((rh 6), .inl (cH, 36, .inl g6)), ((rh 7), .inl (cH, 36, .inl g7))] H := hP
                  have hD : va_D A [(ch, .inr (2, [.long S, .int (nI ((r0 * 8) + 1)), .ref dr, .ref tO, .ref hO])), (fa, .inl (cA1, 36, .inr (.inl ff))), (hO, .inl (cHO, 8, .inr (.inr (.inr (.inr (fun i => if i < 8 then some (rh i) else none)))))), ((rh 0), .inl (cH, 36, .inl g0)), ((rh 1), .inl (cH, 36, .inl g1)), ((rh 2), .inl (cH, 36, .inl g2)), ((rh 3), .inl (cH, 36, .inl g3)), ((rh 4), .inl (cH, 36, .inl g4)), ((rh 5), .inl (cH, 36, .inl g5)), ((rh 6), .inl (cH, 36, .inl g6)), ((rh 7), .inl (cH, 36, .inl g7))] := hD
                  refine lv_iinc (v := 2) (lv' := [(3, .int 2), (0, .ref ch), (1, .ref fa), (2, .int (nI r0)), (4, .long S), (6, .int (nI i))]) hx hb dX0_tryLast_73 hl (k := 3) rfl (by decide) (by decide) rfl (fun ls hl => ?_)
                  refine lv_goto (tgt := 2) hx hb dX0_tryLast_76 (by decide) ?_
                  exact ih2 (2) _ _ (by omega) (by omega) (GJ_up hj hsv c_5) _ _ (hK.sub [0, 1, 2, 3, 4, 5, 6, 7, 8, 9] rfl) (hP.sub [0, 1, 2, 3, 4, 5, 6, 7, 8, 9, 10] rfl) (hD.sub [0, 1, 2, 3, 4, 5, 6, 7, 8, 9, 10] (by decide) rfl) hS ls (lv_sub hl [1, 2, 3, 0] rfl)
              · skip
                have c_4 : ¬ 36 ≤ i := fun q => c_4 ((nI_leI (a := 36) (b := i) (by omega) (by omega)).mpr q)
                by_cases hip : i = pj
                · skip
                  refine lv_lload hx hb dX0_tryLast_21 (lv_at hl 4 rfl) ?_
                  refine lv_aload_n hx hb dX0_tryLast_23 rfl (lv_at hl 1 rfl) ?_
                  refine lv_iload hx hb dX0_tryLast_24 (lv_at hl 5 rfl) ?_
                  refine va_lald hx hb hK hP 1 0 rfl rfl (vp_in_nI (n := i) (N := 36) (by omega) (by omega)) dX0_tryLast_26 ?_
                  refine ql_as (y := lN (20 ^ k)) ((show ff (nI i).toNatClampNeg = ff i from by rw [nI_clamp (by omega)]).trans (by rw [zO i (by omega), ind, if_pos hip])) ?_
                  refine lv_aload_n hx hb dX0_tryLast_27 rfl (lv_at hl 0 rfl) ?_
                  refine va_get (D := (dC, dI)) (ci := 2) (v := .ref hO) (C := RX0) (T := TX0) (N := 5) hx hb hts kc_tryLast_0 hown hK hP 0 rfl rfl 4 (by decide) (hts (.fieldLink RX0 22 "MistHeaps$Chances" "hits" "[[I") kc_tryLast_3) (fun _ h9 => h9) rfl dX0_tryLast_28 ?_
                  refine lv_iload_n hx hb dX0_tryLast_31 rfl (lv_at hl 3 rfl) ?_
                  refine va_alda hx hb hK hP 2 1 rfl rfl (vp_in_nI (n := 1) (N := 8) (by omega) (by omega)) dX0_tryLast_32 ?_
                  refine qq_as (v := .ref (rh 1)) (rfl) ?_
                  refine lv_iload hx hb dX0_tryLast_33 (lv_at hl 5 rfl) ?_
                  refine va_iald hx hb hK hP 4 3 rfl rfl (vp_in_nI (n := i) (N := 36) (by omega) (by omega)) dX0_tryLast_35 ?_
                  refine qi_as (y := hv mk 1 i) ((show g1 (nI i).toNatClampNeg = g1 i from by rw [nI_clamp (by omega)]).trans (zh1 i (by omega))) ?_
                  refine lv_i2l (v := (hv mk 1 i).toInt64) hx hb dX0_tryLast_36 (rfl) ?_
                  refine lv_lmul hx hb dX0_tryLast_37 ?_
                  refine lv_ladd hx hb dX0_tryLast_38 ?_
                  refine lv_lstore (lv' := [(4, .long (S + ((lN (20 ^ k)) * ((hv mk 1 i).toInt64)))), (0, .ref ch), (1, .ref fa), (2, .int (nI r0)), (3, .int 1), (6, .int (nI i))]) hx hb dX0_tryLast_39 hl (by decide) rfl (fun ls hl => ?_)
                  refine lv_iinc (v := nI (i + 1)) (lv' := [(6, .int (nI (i + 1))), (4, .long (S + ((lN (20 ^ k)) * ((hv mk 1 i).toInt64)))), (0, .ref ch), (1, .ref fa), (2, .int (nI r0)), (3, .int 1)]) hx hb dX0_tryLast_41 hl (k := 5) rfl (nI_add i 1) (by decide) rfl (fun ls hl => ?_)
                  refine lv_goto (tgt := 14) hx hb dX0_tryLast_44 (by decide) ?_
                  exact ih14 _ _ (by omega) (by omega) (sum_put hip hs) _ _ (hK.sub [0, 1, 2, 3, 4, 5, 6, 7, 8, 9] rfl) (hP.sub [0, 1, 2, 3, 4, 5, 6, 7, 8, 9, 10] rfl) (hD.sub [0, 1, 2, 3, 4, 5, 6, 7, 8, 9, 10] (by decide) rfl) hS ls (lv_sub hl [2, 3, 4, 5, 1, 0] rfl)
                · skip
                  refine lv_lload hx hb dX0_tryLast_21 (lv_at hl 4 rfl) ?_
                  refine lv_aload_n hx hb dX0_tryLast_23 rfl (lv_at hl 1 rfl) ?_
                  refine lv_iload hx hb dX0_tryLast_24 (lv_at hl 5 rfl) ?_
                  refine va_lald hx hb hK hP 1 0 rfl rfl (vp_in_nI (n := i) (N := 36) (by omega) (by omega)) dX0_tryLast_26 ?_
                  refine ql_as (y := 0) ((show ff (nI i).toNatClampNeg = ff i from by rw [nI_clamp (by omega)]).trans (by rw [zO i (by omega), ind, if_neg hip])) ?_
                  refine lv_aload_n hx hb dX0_tryLast_27 rfl (lv_at hl 0 rfl) ?_
                  refine va_get (D := (dC, dI)) (ci := 2) (v := .ref hO) (C := RX0) (T := TX0) (N := 5) hx hb hts kc_tryLast_0 hown hK hP 0 rfl rfl 4 (by decide) (hts (.fieldLink RX0 22 "MistHeaps$Chances" "hits" "[[I") kc_tryLast_3) (fun _ h9 => h9) rfl dX0_tryLast_28 ?_
                  refine lv_iload_n hx hb dX0_tryLast_31 rfl (lv_at hl 3 rfl) ?_
                  refine va_alda hx hb hK hP 2 1 rfl rfl (vp_in_nI (n := 1) (N := 8) (by omega) (by omega)) dX0_tryLast_32 ?_
                  refine qq_as (v := .ref (rh 1)) (rfl) ?_
                  refine lv_iload hx hb dX0_tryLast_33 (lv_at hl 5 rfl) ?_
                  refine va_iald hx hb hK hP 4 3 rfl rfl (vp_in_nI (n := i) (N := 36) (by omega) (by omega)) dX0_tryLast_35 ?_
                  refine qi_as (y := hv mk 1 i) ((show g1 (nI i).toNatClampNeg = g1 i from by rw [nI_clamp (by omega)]).trans (zh1 i (by omega))) ?_
                  refine lv_i2l (v := (hv mk 1 i).toInt64) hx hb dX0_tryLast_36 (rfl) ?_
                  refine lv_lmul hx hb dX0_tryLast_37 ?_
                  refine ql_as (y := 0) (Int64.zero_mul) ?_
                  refine lv_ladd hx hb dX0_tryLast_38 ?_
                  refine ql_as (y := S) (Int64.add_zero _) ?_
                  refine lv_lstore (lv' := [(4, .long S), (0, .ref ch), (1, .ref fa), (2, .int (nI r0)), (3, .int 1), (6, .int (nI i))]) hx hb dX0_tryLast_39 hl (by decide) rfl (fun ls hl => ?_)
                  refine lv_iinc (v := nI (i + 1)) (lv' := [(6, .int (nI (i + 1))), (4, .long S), (0, .ref ch), (1, .ref fa), (2, .int (nI r0)), (3, .int 1)]) hx hb dX0_tryLast_41 hl (k := 5) rfl (nI_add i 1) (by decide) rfl (fun ls hl => ?_)
                  refine lv_goto (tgt := 14) hx hb dX0_tryLast_44 (by decide) ?_
                  exact ih14 _ _ (by omega) (by omega) (sum_skip hip hs) _ _ (hK.sub [0, 1, 2, 3, 4, 5, 6, 7, 8, 9] rfl) (hP.sub [0, 1, 2, 3, 4, 5, 6, 7, 8, 9, 10] rfl) (hD.sub [0, 1, 2, 3, 4, 5, 6, 7, 8, 9, 10] (by decide) rfl) hS ls (lv_sub hl [2, 3, 4, 5, 1, 0] rfl)
          exact L14 _ (0) _ (Nat.lt_succ_self _) (by omega) (by rw [if_neg (Nat.not_lt_zero _)]) _ _ (hK.sub [0, 1, 2, 3, 4, 5, 6, 7, 8, 9] rfl) (hP.sub [0, 1, 2, 3, 4, 5, 6, 7, 8, 9, 10] rfl) (hD.sub [0, 1, 2, 3, 4, 5, 6, 7, 8, 9, 10] (by decide) rfl) hS ls (lv_sub hl [2, 3, 4, 5, 1, 0] rfl)
        · skip
          refine lv_lconst (v := 0) hx hb dX0_tryLast_8 (by decide) ?_
          refine lv_lstore (lv' := [(4, .long 0), (0, .ref ch), (1, .ref fa), (2, .int (nI r0)), (3, .int 2)]) hx hb dX0_tryLast_9 hl (by decide) rfl (fun ls hl => ?_)
          refine lv_iconst (v := 0) hx hb dX0_tryLast_11 (by decide) ?_
          refine lv_istore (lv' := [(6, .int 0), (4, .long 0), (0, .ref ch), (1, .ref fa), (2, .int (nI r0)), (3, .int 2)]) hx hb dX0_tryLast_12 hl (by decide) rfl (fun ls hl => ?_)
          have L14 : ∀ (nF : Nat) (i : Nat) (S : Int64), 36 - i < nF → (i ≤ 36) → (S = if pj < i then tv k mk pj 2 else 0) → ∀ (H : Heap) (locs : List Loc), va_K (dC, dI) vwCl [(cA1, .long), (cHO, .array .int), (cH, .int), (cH, .int), (cH, .int), (cH, .int), (cH, .int), (cH, .int), (cH, .int), (cH, .int)] s → va_P (dC, dI) vwCl [(ch, .inr (2, [.long aa, .int bb, .ref dr, .ref tO, .ref hO])), (fa, .inl (cA1, 36, .inr (.inl ff))), (hO, .inl (cHO, 8, .inr (.inr (.inr (.inr (fun i => if i < 8 then some (rh i) else none)))))), ((rh 0), .inl (cH, 36, .inl g0)), ((rh 1), .inl (cH, 36, .inl g1)), ((rh 2), .inl (cH, 36, .inl g2)), ((rh 3), .inl (cH, 36, .inl g3)), ((rh 4), .inl (cH, 36, .inl g4)), ((rh 5), .inl (cH, 36, .inl g5)), ((rh 6), .inl (cH, 36, .inl g6)), ((rh 7), .inl (cH, 36, .inl g7))] H → va_D A [(ch, .inr (2, [.long aa, .int bb, .ref dr, .ref tO, .ref hO])), (fa, .inl (cA1, 36, .inr (.inl ff))), (hO, .inl (cHO, 8, .inr (.inr (.inr (.inr (fun i => if i < 8 then some (rh i) else none)))))), ((rh 0), .inl (cH, 36, .inl g0)), ((rh 1), .inl (cH, 36, .inl g1)), ((rh 2), .inl (cH, 36, .inl g2)), ((rh 3), .inl (cH, 36, .inl g3)), ((rh 4), .inl (cH, 36, .inl g4)), ((rh 5), .inl (cH, 36, .inl g5)), ((rh 6), .inl (cH, 36, .inl g6)), ((rh 7), .inl (cH, 36, .inl g7))] → va_S A s.heap H locs → ∀ (ls : Array Slot), lv_has ls 7 [(0, .ref ch), (1, .ref fa), (2, .int (nI r0)), (3, .int 2), (4, .long S), (6, .int (nI i))] → W p l e ({ frames := 0, cells := 0, slots := 0, locals := 0 } : Room) s m args below meth c H locs 0 0 Q (F0 m 14 ls []) := by
            intro nF
            induction nF with
            | zero => intro i S hm; exact absurd hm (Nat.not_lt_zero _)
            | succ nF ih14 =>
              intro i S hm hi2 hs H locs hK hP hD hS ls hl
              refine lv_iload hx hb dX0_tryLast_14 (lv_at hl 5 rfl) ?_
              refine lv_bipush (v := 36) hx hb dX0_tryLast_16 (by decide) ?_
              refine lv_icmp_ge (tgt := 47) hx hb dX0_tryLast_18 (by decide) (fun c_6 => ?_) (fun c_6 => ?_)
              · skip
                have c_6 : 36 ≤ i := (nI_leI (a := 36) (b := i) (by omega) (by omega)).mp c_6
                have hsv : v (r0 * 8 + 2) = S := by rw [zv 2 (by omega), hs, if_pos (by omega)]
                refine lv_lload hx hb dX0_tryLast_47 (lv_at hl 4 rfl) ?_
                refine lv_aload_n hx hb dX0_tryLast_49 rfl (lv_at hl 0 rfl) ?_
                refine va_get (D := (dC, dI)) (ci := 2) (v := .long aa) (C := RX0) (T := TX0) (N := 5) hx hb hts kc_tryLast_0 hown hK hP 0 rfl rfl 0 (by decide) (hts (.fieldLink RX0 66 "MistHeaps$Chances" "foundTimes" "J") kc_tryLast_1) (fun _ h9 => h9) rfl dX0_tryLast_50 ?_
                refine W.lcmp hx hb dX0_tryLast_53 ?_
                refine lv_if_le (tgt := 73) hx hb dX0_tryLast_54 (by decide) (fun c_7 => ?_) (fun c_7 => ?_)
                · skip
                  rw [lg_cmp_le] at c_7
                  refine lv_iinc (v := 3) (lv' := [(3, .int 3), (0, .ref ch), (1, .ref fa), (2, .int (nI r0)), (4, .long S), (6, .int (nI i))]) hx hb dX0_tryLast_73 hl (k := 3) rfl (by decide) (by decide) rfl (fun ls hl => ?_)
                  refine lv_goto (tgt := 2) hx hb dX0_tryLast_76 (by decide) ?_
                  exact ih2 (3) _ _ (by omega) (by omega) (GJ_keep hj hsv c_7) _ _ (hK.sub [0, 1, 2, 3, 4, 5, 6, 7, 8, 9] rfl) (hP.sub [0, 1, 2, 3, 4, 5, 6, 7, 8, 9, 10] rfl) (hD.sub [0, 1, 2, 3, 4, 5, 6, 7, 8, 9, 10] (by decide) rfl) hS ls (lv_sub hl [1, 2, 3, 0] rfl)
                · skip
                  rw [lg_cmp_le] at c_7
                  refine lv_aload_n hx hb dX0_tryLast_57 rfl (lv_at hl 0 rfl) ?_
                  refine lv_lload hx hb dX0_tryLast_58 (lv_at hl 4 rfl) ?_
                  refine va_put (D := (dC, dI)) (ci := 2) (v := .long S) (ty := .long) (C := RX0) (T := TX0) (N := 5) hx hb hts kc_tryLast_0 tyX0 tyX0_ok nmX0 hown hK hP hD hS 0 rfl rfl 0 (by decide) (hts (.fieldLink RX0 66 "MistHeaps$Chances" "foundTimes" "J") kc_tryLast_1) (fun _ h9 => h9) rfl (by decide +kernel) rfl rfl (Nat.le_of_ble_eq_true rfl) dX0_tryLast_60 (fun H locs hP hD hS => ?_)
                  have hP : va_P (dC, dI) vwCl [(ch, .inr (2, [.long S, .int bb, .ref dr, .ref tO, .ref hO])), (fa, .inl (cA1, 36, .inr (.inl ff))), (hO, .inl (cHO, 8, .inr (.inr (.inr (.inr (fun i => if i < 8 then some (rh i) else none)))))), ((rh 0), .inl (cH, 36, .inl g0)), ((rh 1), .inl (cH, 36, .inl g1)), ((rh 2), .inl (cH, 36, .inl g2)), ((rh 3), .inl (cH, 36, .inl g3)), ((rh 4), .inl (cH, 36, .inl g4)), ((rh 5), .inl (cH, 36, .inl g5)), ((rh 6), .inl (cH, 36, .inl g6)), ((rh 7), .inl (cH, 36, .inl g7))] H := hP
                  have hD : va_D A [(ch, .inr (2, [.long S, .int bb, .ref dr, .ref tO, .ref hO])), (fa, .inl (cA1, 36, .inr (.inl ff))), (hO, .inl (cHO, 8, .inr (.inr (.inr (.inr (fun i => if i < 8 then some (rh i) else none)))))), ((rh 0), .inl (cH, 36, .inl g0)), ((rh 1), .inl (cH, 36, .inl g1)), ((rh 2), .inl (cH, 36, .inl g2)), ((rh 3), .inl (cH, 36, .inl g3)), ((rh 4), .inl (cH, 36, .inl g4)), ((rh 5), .inl (cH, 36, .inl g5)), ((rh 6), .inl (cH, 36, .inl g6)), ((rh 7), .inl (cH, 36, .inl g7))] := hD
                  refine lv_aload_n hx hb dX0_tryLast_63 rfl (lv_at hl 0 rfl) ?_
                  refine lv_iload_n hx hb dX0_tryLast_64 rfl (lv_at hl 2 rfl) ?_
                  refine lv_bipush (v := 8) hx hb dX0_tryLast_65 (by decide) ?_
                  refine lv_imul hx hb dX0_tryLast_67 ?_
                  refine qi_as (y := nI (r0 * 8)) (pk_mul r0 8) ?_
                  refine lv_iload_n hx hb dX0_tryLast_68 rfl (lv_at hl 3 rfl) ?_
                  refine lv_iadd hx hb dX0_tryLast_69 ?_
                  refine qi_as (y := nI ((r0 * 8) + 2)) (nI_add (r0 * 8) 2) ?_
                  refine va_put (D := (dC, dI)) (ci := 2) (v := .int (nI ((r0 * 8) + 2))) (ty := .int) (C := RX0) (T := TX0) (N := 5) hx hb hts kc_tryLast_0 tyX0 tyX0_ok nmX0 hown hK hP hD hS 0 rfl rfl 1 (by decide) (hts (.fieldLink RX0 77 "MistHeaps$Chances" "foundRow" "I") kc_tryLast_2) (fun _ h9 => h9) rfl (by decide +kernel) rfl rfl (Nat.le_of_ble_eq_true rfl) dX0_tryLast_70 (fun H locs hP hD hS => ?_)
                  have hP : va_P (dC, dI) vwCl [(ch, .inr (2, [.long S, .int (nI ((r0 * 8) + 2)), .ref dr, .ref tO, .ref hO])), (fa, .inl (cA1, 36, .inr (.inl ff))), (hO, .inl (cHO, 8, .inr (.inr (.inr (.inr (fun i => if i < 8 then some (rh i) else none)))))), ((rh 0), .inl (cH, 36, .inl g0)), ((rh 1), .inl (cH, 36, .inl g1)), ((rh 2), .inl (cH, 36, .inl g2)), ((rh 3), .inl (cH, 36, .inl g3)), ((rh 4), .inl (cH, 36, .inl g4)), ((rh 5), .inl (cH, 36, .inl g5)), ((rh 6), .inl (cH, 36, .inl g6)), ((rh 7), .inl (cH, 36, .inl g7))] H := hP
                  have hD : va_D A [(ch, .inr (2, [.long S, .int (nI ((r0 * 8) + 2)), .ref dr, .ref tO, .ref hO])), (fa, .inl (cA1, 36, .inr (.inl ff))), (hO, .inl (cHO, 8, .inr (.inr (.inr (.inr (fun i => if i < 8 then some (rh i) else none)))))), ((rh 0), .inl (cH, 36, .inl g0)), ((rh 1), .inl (cH, 36, .inl g1)), ((rh 2), .inl (cH, 36, .inl g2)), ((rh 3), .inl (cH, 36, .inl g3)), ((rh 4), .inl (cH, 36, .inl g4)), ((rh 5), .inl (cH, 36, .inl g5)), ((rh 6), .inl (cH, 36, .inl g6)), ((rh 7), .inl (cH, 36, .inl g7))] := hD
                  refine lv_iinc (v := 3) (lv' := [(3, .int 3), (0, .ref ch), (1, .ref fa), (2, .int (nI r0)), (4, .long S), (6, .int (nI i))]) hx hb dX0_tryLast_73 hl (k := 3) rfl (by decide) (by decide) rfl (fun ls hl => ?_)
                  refine lv_goto (tgt := 2) hx hb dX0_tryLast_76 (by decide) ?_
                  exact ih2 (3) _ _ (by omega) (by omega) (GJ_up hj hsv c_7) _ _ (hK.sub [0, 1, 2, 3, 4, 5, 6, 7, 8, 9] rfl) (hP.sub [0, 1, 2, 3, 4, 5, 6, 7, 8, 9, 10] rfl) (hD.sub [0, 1, 2, 3, 4, 5, 6, 7, 8, 9, 10] (by decide) rfl) hS ls (lv_sub hl [1, 2, 3, 0] rfl)
              · skip
                have c_6 : ¬ 36 ≤ i := fun q => c_6 ((nI_leI (a := 36) (b := i) (by omega) (by omega)).mpr q)
                by_cases hip : i = pj
                · skip
                  refine lv_lload hx hb dX0_tryLast_21 (lv_at hl 4 rfl) ?_
                  refine lv_aload_n hx hb dX0_tryLast_23 rfl (lv_at hl 1 rfl) ?_
                  refine lv_iload hx hb dX0_tryLast_24 (lv_at hl 5 rfl) ?_
                  refine va_lald hx hb hK hP 1 0 rfl rfl (vp_in_nI (n := i) (N := 36) (by omega) (by omega)) dX0_tryLast_26 ?_
                  refine ql_as (y := lN (20 ^ k)) ((show ff (nI i).toNatClampNeg = ff i from by rw [nI_clamp (by omega)]).trans (by rw [zO i (by omega), ind, if_pos hip])) ?_
                  refine lv_aload_n hx hb dX0_tryLast_27 rfl (lv_at hl 0 rfl) ?_
                  refine va_get (D := (dC, dI)) (ci := 2) (v := .ref hO) (C := RX0) (T := TX0) (N := 5) hx hb hts kc_tryLast_0 hown hK hP 0 rfl rfl 4 (by decide) (hts (.fieldLink RX0 22 "MistHeaps$Chances" "hits" "[[I") kc_tryLast_3) (fun _ h9 => h9) rfl dX0_tryLast_28 ?_
                  refine lv_iload_n hx hb dX0_tryLast_31 rfl (lv_at hl 3 rfl) ?_
                  refine va_alda hx hb hK hP 2 1 rfl rfl (vp_in_nI (n := 2) (N := 8) (by omega) (by omega)) dX0_tryLast_32 ?_
                  refine qq_as (v := .ref (rh 2)) (rfl) ?_
                  refine lv_iload hx hb dX0_tryLast_33 (lv_at hl 5 rfl) ?_
                  refine va_iald hx hb hK hP 5 4 rfl rfl (vp_in_nI (n := i) (N := 36) (by omega) (by omega)) dX0_tryLast_35 ?_
                  refine qi_as (y := hv mk 2 i) ((show g2 (nI i).toNatClampNeg = g2 i from by rw [nI_clamp (by omega)]).trans (zh2 i (by omega))) ?_
                  refine lv_i2l (v := (hv mk 2 i).toInt64) hx hb dX0_tryLast_36 (rfl) ?_
                  refine lv_lmul hx hb dX0_tryLast_37 ?_
                  refine lv_ladd hx hb dX0_tryLast_38 ?_
                  refine lv_lstore (lv' := [(4, .long (S + ((lN (20 ^ k)) * ((hv mk 2 i).toInt64)))), (0, .ref ch), (1, .ref fa), (2, .int (nI r0)), (3, .int 2), (6, .int (nI i))]) hx hb dX0_tryLast_39 hl (by decide) rfl (fun ls hl => ?_)
                  refine lv_iinc (v := nI (i + 1)) (lv' := [(6, .int (nI (i + 1))), (4, .long (S + ((lN (20 ^ k)) * ((hv mk 2 i).toInt64)))), (0, .ref ch), (1, .ref fa), (2, .int (nI r0)), (3, .int 2)]) hx hb dX0_tryLast_41 hl (k := 5) rfl (nI_add i 1) (by decide) rfl (fun ls hl => ?_)
                  refine lv_goto (tgt := 14) hx hb dX0_tryLast_44 (by decide) ?_
                  exact ih14 _ _ (by omega) (by omega) (sum_put hip hs) _ _ (hK.sub [0, 1, 2, 3, 4, 5, 6, 7, 8, 9] rfl) (hP.sub [0, 1, 2, 3, 4, 5, 6, 7, 8, 9, 10] rfl) (hD.sub [0, 1, 2, 3, 4, 5, 6, 7, 8, 9, 10] (by decide) rfl) hS ls (lv_sub hl [2, 3, 4, 5, 1, 0] rfl)
                · skip
                  refine lv_lload hx hb dX0_tryLast_21 (lv_at hl 4 rfl) ?_
                  refine lv_aload_n hx hb dX0_tryLast_23 rfl (lv_at hl 1 rfl) ?_
                  refine lv_iload hx hb dX0_tryLast_24 (lv_at hl 5 rfl) ?_
                  refine va_lald hx hb hK hP 1 0 rfl rfl (vp_in_nI (n := i) (N := 36) (by omega) (by omega)) dX0_tryLast_26 ?_
                  refine ql_as (y := 0) ((show ff (nI i).toNatClampNeg = ff i from by rw [nI_clamp (by omega)]).trans (by rw [zO i (by omega), ind, if_neg hip])) ?_
                  refine lv_aload_n hx hb dX0_tryLast_27 rfl (lv_at hl 0 rfl) ?_
                  refine va_get (D := (dC, dI)) (ci := 2) (v := .ref hO) (C := RX0) (T := TX0) (N := 5) hx hb hts kc_tryLast_0 hown hK hP 0 rfl rfl 4 (by decide) (hts (.fieldLink RX0 22 "MistHeaps$Chances" "hits" "[[I") kc_tryLast_3) (fun _ h9 => h9) rfl dX0_tryLast_28 ?_
                  refine lv_iload_n hx hb dX0_tryLast_31 rfl (lv_at hl 3 rfl) ?_
                  refine va_alda hx hb hK hP 2 1 rfl rfl (vp_in_nI (n := 2) (N := 8) (by omega) (by omega)) dX0_tryLast_32 ?_
                  refine qq_as (v := .ref (rh 2)) (rfl) ?_
                  refine lv_iload hx hb dX0_tryLast_33 (lv_at hl 5 rfl) ?_
                  refine va_iald hx hb hK hP 5 4 rfl rfl (vp_in_nI (n := i) (N := 36) (by omega) (by omega)) dX0_tryLast_35 ?_
                  refine qi_as (y := hv mk 2 i) ((show g2 (nI i).toNatClampNeg = g2 i from by rw [nI_clamp (by omega)]).trans (zh2 i (by omega))) ?_
                  refine lv_i2l (v := (hv mk 2 i).toInt64) hx hb dX0_tryLast_36 (rfl) ?_
                  refine lv_lmul hx hb dX0_tryLast_37 ?_
                  refine ql_as (y := 0) (Int64.zero_mul) ?_
                  refine lv_ladd hx hb dX0_tryLast_38 ?_
                  refine ql_as (y := S) (Int64.add_zero _) ?_
                  refine lv_lstore (lv' := [(4, .long S), (0, .ref ch), (1, .ref fa), (2, .int (nI r0)), (3, .int 2), (6, .int (nI i))]) hx hb dX0_tryLast_39 hl (by decide) rfl (fun ls hl => ?_)
                  refine lv_iinc (v := nI (i + 1)) (lv' := [(6, .int (nI (i + 1))), (4, .long S), (0, .ref ch), (1, .ref fa), (2, .int (nI r0)), (3, .int 2)]) hx hb dX0_tryLast_41 hl (k := 5) rfl (nI_add i 1) (by decide) rfl (fun ls hl => ?_)
                  refine lv_goto (tgt := 14) hx hb dX0_tryLast_44 (by decide) ?_
                  exact ih14 _ _ (by omega) (by omega) (sum_skip hip hs) _ _ (hK.sub [0, 1, 2, 3, 4, 5, 6, 7, 8, 9] rfl) (hP.sub [0, 1, 2, 3, 4, 5, 6, 7, 8, 9, 10] rfl) (hD.sub [0, 1, 2, 3, 4, 5, 6, 7, 8, 9, 10] (by decide) rfl) hS ls (lv_sub hl [2, 3, 4, 5, 1, 0] rfl)
          exact L14 _ (0) _ (Nat.lt_succ_self _) (by omega) (by rw [if_neg (Nat.not_lt_zero _)]) _ _ (hK.sub [0, 1, 2, 3, 4, 5, 6, 7, 8, 9] rfl) (hP.sub [0, 1, 2, 3, 4, 5, 6, 7, 8, 9, 10] rfl) (hD.sub [0, 1, 2, 3, 4, 5, 6, 7, 8, 9, 10] (by decide) rfl) hS ls (lv_sub hl [2, 3, 4, 5, 1, 0] rfl)
        · skip
          refine lv_lconst (v := 0) hx hb dX0_tryLast_8 (by decide) ?_
          refine lv_lstore (lv' := [(4, .long 0), (0, .ref ch), (1, .ref fa), (2, .int (nI r0)), (3, .int 3)]) hx hb dX0_tryLast_9 hl (by decide) rfl (fun ls hl => ?_)
          refine lv_iconst (v := 0) hx hb dX0_tryLast_11 (by decide) ?_
          refine lv_istore (lv' := [(6, .int 0), (4, .long 0), (0, .ref ch), (1, .ref fa), (2, .int (nI r0)), (3, .int 3)]) hx hb dX0_tryLast_12 hl (by decide) rfl (fun ls hl => ?_)
          have L14 : ∀ (nF : Nat) (i : Nat) (S : Int64), 36 - i < nF → (i ≤ 36) → (S = if pj < i then tv k mk pj 3 else 0) → ∀ (H : Heap) (locs : List Loc), va_K (dC, dI) vwCl [(cA1, .long), (cHO, .array .int), (cH, .int), (cH, .int), (cH, .int), (cH, .int), (cH, .int), (cH, .int), (cH, .int), (cH, .int)] s → va_P (dC, dI) vwCl [(ch, .inr (2, [.long aa, .int bb, .ref dr, .ref tO, .ref hO])), (fa, .inl (cA1, 36, .inr (.inl ff))), (hO, .inl (cHO, 8, .inr (.inr (.inr (.inr (fun i => if i < 8 then some (rh i) else none)))))), ((rh 0), .inl (cH, 36, .inl g0)), ((rh 1), .inl (cH, 36, .inl g1)), ((rh 2), .inl (cH, 36, .inl g2)), ((rh 3), .inl (cH, 36, .inl g3)), ((rh 4), .inl (cH, 36, .inl g4)), ((rh 5), .inl (cH, 36, .inl g5)), ((rh 6), .inl (cH, 36, .inl g6)), ((rh 7), .inl (cH, 36, .inl g7))] H → va_D A [(ch, .inr (2, [.long aa, .int bb, .ref dr, .ref tO, .ref hO])), (fa, .inl (cA1, 36, .inr (.inl ff))), (hO, .inl (cHO, 8, .inr (.inr (.inr (.inr (fun i => if i < 8 then some (rh i) else none)))))), ((rh 0), .inl (cH, 36, .inl g0)), ((rh 1), .inl (cH, 36, .inl g1)), ((rh 2), .inl (cH, 36, .inl g2)), ((rh 3), .inl (cH, 36, .inl g3)), ((rh 4), .inl (cH, 36, .inl g4)), ((rh 5), .inl (cH, 36, .inl g5)), ((rh 6), .inl (cH, 36, .inl g6)), ((rh 7), .inl (cH, 36, .inl g7))] → va_S A s.heap H locs → ∀ (ls : Array Slot), lv_has ls 7 [(0, .ref ch), (1, .ref fa), (2, .int (nI r0)), (3, .int 3), (4, .long S), (6, .int (nI i))] → W p l e ({ frames := 0, cells := 0, slots := 0, locals := 0 } : Room) s m args below meth c H locs 0 0 Q (F0 m 14 ls []) := by
            intro nF
            induction nF with
            | zero => intro i S hm; exact absurd hm (Nat.not_lt_zero _)
            | succ nF ih14 =>
              intro i S hm hi2 hs H locs hK hP hD hS ls hl
              refine lv_iload hx hb dX0_tryLast_14 (lv_at hl 5 rfl) ?_
              refine lv_bipush (v := 36) hx hb dX0_tryLast_16 (by decide) ?_
              refine lv_icmp_ge (tgt := 47) hx hb dX0_tryLast_18 (by decide) (fun c_8 => ?_) (fun c_8 => ?_)
              · skip
                have c_8 : 36 ≤ i := (nI_leI (a := 36) (b := i) (by omega) (by omega)).mp c_8
                have hsv : v (r0 * 8 + 3) = S := by rw [zv 3 (by omega), hs, if_pos (by omega)]
                refine lv_lload hx hb dX0_tryLast_47 (lv_at hl 4 rfl) ?_
                refine lv_aload_n hx hb dX0_tryLast_49 rfl (lv_at hl 0 rfl) ?_
                refine va_get (D := (dC, dI)) (ci := 2) (v := .long aa) (C := RX0) (T := TX0) (N := 5) hx hb hts kc_tryLast_0 hown hK hP 0 rfl rfl 0 (by decide) (hts (.fieldLink RX0 66 "MistHeaps$Chances" "foundTimes" "J") kc_tryLast_1) (fun _ h9 => h9) rfl dX0_tryLast_50 ?_
                refine W.lcmp hx hb dX0_tryLast_53 ?_
                refine lv_if_le (tgt := 73) hx hb dX0_tryLast_54 (by decide) (fun c_9 => ?_) (fun c_9 => ?_)
                · skip
                  rw [lg_cmp_le] at c_9
                  refine lv_iinc (v := 4) (lv' := [(3, .int 4), (0, .ref ch), (1, .ref fa), (2, .int (nI r0)), (4, .long S), (6, .int (nI i))]) hx hb dX0_tryLast_73 hl (k := 3) rfl (by decide) (by decide) rfl (fun ls hl => ?_)
                  refine lv_goto (tgt := 2) hx hb dX0_tryLast_76 (by decide) ?_
                  exact ih2 (4) _ _ (by omega) (by omega) (GJ_keep hj hsv c_9) _ _ (hK.sub [0, 1, 2, 3, 4, 5, 6, 7, 8, 9] rfl) (hP.sub [0, 1, 2, 3, 4, 5, 6, 7, 8, 9, 10] rfl) (hD.sub [0, 1, 2, 3, 4, 5, 6, 7, 8, 9, 10] (by decide) rfl) hS ls (lv_sub hl [1, 2, 3, 0] rfl)
                · skip
                  rw [lg_cmp_le] at c_9
                  refine lv_aload_n hx hb dX0_tryLast_57 rfl (lv_at hl 0 rfl) ?_
                  refine lv_lload hx hb dX0_tryLast_58 (lv_at hl 4 rfl) ?_
                  refine va_put (D := (dC, dI)) (ci := 2) (v := .long S) (ty := .long) (C := RX0) (T := TX0) (N := 5) hx hb hts kc_tryLast_0 tyX0 tyX0_ok nmX0 hown hK hP hD hS 0 rfl rfl 0 (by decide) (hts (.fieldLink RX0 66 "MistHeaps$Chances" "foundTimes" "J") kc_tryLast_1) (fun _ h9 => h9) rfl (by decide +kernel) rfl rfl (Nat.le_of_ble_eq_true rfl) dX0_tryLast_60 (fun H locs hP hD hS => ?_)
                  have hP : va_P (dC, dI) vwCl [(ch, .inr (2, [.long S, .int bb, .ref dr, .ref tO, .ref hO])), (fa, .inl (cA1, 36, .inr (.inl ff))), (hO, .inl (cHO, 8, .inr (.inr (.inr (.inr (fun i => if i < 8 then some (rh i) else none)))))), ((rh 0), .inl (cH, 36, .inl g0)), ((rh 1), .inl (cH, 36, .inl g1)), ((rh 2), .inl (cH, 36, .inl g2)), ((rh 3), .inl (cH, 36, .inl g3)), ((rh 4), .inl (cH, 36, .inl g4)), ((rh 5), .inl (cH, 36, .inl g5)), ((rh 6), .inl (cH, 36, .inl g6)), ((rh 7), .inl (cH, 36, .inl g7))] H := hP
                  have hD : va_D A [(ch, .inr (2, [.long S, .int bb, .ref dr, .ref tO, .ref hO])), (fa, .inl (cA1, 36, .inr (.inl ff))), (hO, .inl (cHO, 8, .inr (.inr (.inr (.inr (fun i => if i < 8 then some (rh i) else none)))))), ((rh 0), .inl (cH, 36, .inl g0)), ((rh 1), .inl (cH, 36, .inl g1)), ((rh 2), .inl (cH, 36, .inl g2)), ((rh 3), .inl (cH, 36, .inl g3)), ((rh 4), .inl (cH, 36, .inl g4)), ((rh 5), .inl (cH, 36, .inl g5)), ((rh 6), .inl (cH, 36, .inl g6)), ((rh 7), .inl (cH, 36, .inl g7))] := hD
                  refine lv_aload_n hx hb dX0_tryLast_63 rfl (lv_at hl 0 rfl) ?_
                  refine lv_iload_n hx hb dX0_tryLast_64 rfl (lv_at hl 2 rfl) ?_
                  refine lv_bipush (v := 8) hx hb dX0_tryLast_65 (by decide) ?_
                  refine lv_imul hx hb dX0_tryLast_67 ?_
                  refine qi_as (y := nI (r0 * 8)) (pk_mul r0 8) ?_
                  refine lv_iload_n hx hb dX0_tryLast_68 rfl (lv_at hl 3 rfl) ?_
                  refine lv_iadd hx hb dX0_tryLast_69 ?_
                  refine qi_as (y := nI ((r0 * 8) + 3)) (nI_add (r0 * 8) 3) ?_
                  refine va_put (D := (dC, dI)) (ci := 2) (v := .int (nI ((r0 * 8) + 3))) (ty := .int) (C := RX0) (T := TX0) (N := 5) hx hb hts kc_tryLast_0 tyX0 tyX0_ok nmX0 hown hK hP hD hS 0 rfl rfl 1 (by decide) (hts (.fieldLink RX0 77 "MistHeaps$Chances" "foundRow" "I") kc_tryLast_2) (fun _ h9 => h9) rfl (by decide +kernel) rfl rfl (Nat.le_of_ble_eq_true rfl) dX0_tryLast_70 (fun H locs hP hD hS => ?_)
                  have hP : va_P (dC, dI) vwCl [(ch, .inr (2, [.long S, .int (nI ((r0 * 8) + 3)), .ref dr, .ref tO, .ref hO])), (fa, .inl (cA1, 36, .inr (.inl ff))), (hO, .inl (cHO, 8, .inr (.inr (.inr (.inr (fun i => if i < 8 then some (rh i) else none)))))), ((rh 0), .inl (cH, 36, .inl g0)), ((rh 1), .inl (cH, 36, .inl g1)), ((rh 2), .inl (cH, 36, .inl g2)), ((rh 3), .inl (cH, 36, .inl g3)), ((rh 4), .inl (cH, 36, .inl g4)), ((rh 5), .inl (cH, 36, .inl g5)), ((rh 6), .inl (cH, 36, .inl g6)), ((rh 7), .inl (cH, 36, .inl g7))] H := hP
                  have hD : va_D A [(ch, .inr (2, [.long S, .int (nI ((r0 * 8) + 3)), .ref dr, .ref tO, .ref hO])), (fa, .inl (cA1, 36, .inr (.inl ff))), (hO, .inl (cHO, 8, .inr (.inr (.inr (.inr (fun i => if i < 8 then some (rh i) else none)))))), ((rh 0), .inl (cH, 36, .inl g0)), ((rh 1), .inl (cH, 36, .inl g1)), ((rh 2), .inl (cH, 36, .inl g2)), ((rh 3), .inl (cH, 36, .inl g3)), ((rh 4), .inl (cH, 36, .inl g4)), ((rh 5), .inl (cH, 36, .inl g5)), ((rh 6), .inl (cH, 36, .inl g6)), ((rh 7), .inl (cH, 36, .inl g7))] := hD
                  refine lv_iinc (v := 4) (lv' := [(3, .int 4), (0, .ref ch), (1, .ref fa), (2, .int (nI r0)), (4, .long S), (6, .int (nI i))]) hx hb dX0_tryLast_73 hl (k := 3) rfl (by decide) (by decide) rfl (fun ls hl => ?_)
                  refine lv_goto (tgt := 2) hx hb dX0_tryLast_76 (by decide) ?_
                  exact ih2 (4) _ _ (by omega) (by omega) (GJ_up hj hsv c_9) _ _ (hK.sub [0, 1, 2, 3, 4, 5, 6, 7, 8, 9] rfl) (hP.sub [0, 1, 2, 3, 4, 5, 6, 7, 8, 9, 10] rfl) (hD.sub [0, 1, 2, 3, 4, 5, 6, 7, 8, 9, 10] (by decide) rfl) hS ls (lv_sub hl [1, 2, 3, 0] rfl)
              · skip
                have c_8 : ¬ 36 ≤ i := fun q => c_8 ((nI_leI (a := 36) (b := i) (by omega) (by omega)).mpr q)
                by_cases hip : i = pj
                · skip
                  refine lv_lload hx hb dX0_tryLast_21 (lv_at hl 4 rfl) ?_
                  refine lv_aload_n hx hb dX0_tryLast_23 rfl (lv_at hl 1 rfl) ?_
                  refine lv_iload hx hb dX0_tryLast_24 (lv_at hl 5 rfl) ?_
                  refine va_lald hx hb hK hP 1 0 rfl rfl (vp_in_nI (n := i) (N := 36) (by omega) (by omega)) dX0_tryLast_26 ?_
                  refine ql_as (y := lN (20 ^ k)) ((show ff (nI i).toNatClampNeg = ff i from by rw [nI_clamp (by omega)]).trans (by rw [zO i (by omega), ind, if_pos hip])) ?_
                  refine lv_aload_n hx hb dX0_tryLast_27 rfl (lv_at hl 0 rfl) ?_
                  refine va_get (D := (dC, dI)) (ci := 2) (v := .ref hO) (C := RX0) (T := TX0) (N := 5) hx hb hts kc_tryLast_0 hown hK hP 0 rfl rfl 4 (by decide) (hts (.fieldLink RX0 22 "MistHeaps$Chances" "hits" "[[I") kc_tryLast_3) (fun _ h9 => h9) rfl dX0_tryLast_28 ?_
                  refine lv_iload_n hx hb dX0_tryLast_31 rfl (lv_at hl 3 rfl) ?_
                  refine va_alda hx hb hK hP 2 1 rfl rfl (vp_in_nI (n := 3) (N := 8) (by omega) (by omega)) dX0_tryLast_32 ?_
                  refine qq_as (v := .ref (rh 3)) (rfl) ?_
                  refine lv_iload hx hb dX0_tryLast_33 (lv_at hl 5 rfl) ?_
                  refine va_iald hx hb hK hP 6 5 rfl rfl (vp_in_nI (n := i) (N := 36) (by omega) (by omega)) dX0_tryLast_35 ?_
                  refine qi_as (y := hv mk 3 i) ((show g3 (nI i).toNatClampNeg = g3 i from by rw [nI_clamp (by omega)]).trans (zh3 i (by omega))) ?_
                  refine lv_i2l (v := (hv mk 3 i).toInt64) hx hb dX0_tryLast_36 (rfl) ?_
                  refine lv_lmul hx hb dX0_tryLast_37 ?_
                  refine lv_ladd hx hb dX0_tryLast_38 ?_
                  refine lv_lstore (lv' := [(4, .long (S + ((lN (20 ^ k)) * ((hv mk 3 i).toInt64)))), (0, .ref ch), (1, .ref fa), (2, .int (nI r0)), (3, .int 3), (6, .int (nI i))]) hx hb dX0_tryLast_39 hl (by decide) rfl (fun ls hl => ?_)
                  refine lv_iinc (v := nI (i + 1)) (lv' := [(6, .int (nI (i + 1))), (4, .long (S + ((lN (20 ^ k)) * ((hv mk 3 i).toInt64)))), (0, .ref ch), (1, .ref fa), (2, .int (nI r0)), (3, .int 3)]) hx hb dX0_tryLast_41 hl (k := 5) rfl (nI_add i 1) (by decide) rfl (fun ls hl => ?_)
                  refine lv_goto (tgt := 14) hx hb dX0_tryLast_44 (by decide) ?_
                  exact ih14 _ _ (by omega) (by omega) (sum_put hip hs) _ _ (hK.sub [0, 1, 2, 3, 4, 5, 6, 7, 8, 9] rfl) (hP.sub [0, 1, 2, 3, 4, 5, 6, 7, 8, 9, 10] rfl) (hD.sub [0, 1, 2, 3, 4, 5, 6, 7, 8, 9, 10] (by decide) rfl) hS ls (lv_sub hl [2, 3, 4, 5, 1, 0] rfl)
                · skip
                  refine lv_lload hx hb dX0_tryLast_21 (lv_at hl 4 rfl) ?_
                  refine lv_aload_n hx hb dX0_tryLast_23 rfl (lv_at hl 1 rfl) ?_
                  refine lv_iload hx hb dX0_tryLast_24 (lv_at hl 5 rfl) ?_
                  refine va_lald hx hb hK hP 1 0 rfl rfl (vp_in_nI (n := i) (N := 36) (by omega) (by omega)) dX0_tryLast_26 ?_
                  refine ql_as (y := 0) ((show ff (nI i).toNatClampNeg = ff i from by rw [nI_clamp (by omega)]).trans (by rw [zO i (by omega), ind, if_neg hip])) ?_
                  refine lv_aload_n hx hb dX0_tryLast_27 rfl (lv_at hl 0 rfl) ?_
                  refine va_get (D := (dC, dI)) (ci := 2) (v := .ref hO) (C := RX0) (T := TX0) (N := 5) hx hb hts kc_tryLast_0 hown hK hP 0 rfl rfl 4 (by decide) (hts (.fieldLink RX0 22 "MistHeaps$Chances" "hits" "[[I") kc_tryLast_3) (fun _ h9 => h9) rfl dX0_tryLast_28 ?_
                  refine lv_iload_n hx hb dX0_tryLast_31 rfl (lv_at hl 3 rfl) ?_
                  refine va_alda hx hb hK hP 2 1 rfl rfl (vp_in_nI (n := 3) (N := 8) (by omega) (by omega)) dX0_tryLast_32 ?_
                  refine qq_as (v := .ref (rh 3)) (rfl) ?_
                  refine lv_iload hx hb dX0_tryLast_33 (lv_at hl 5 rfl) ?_
                  refine va_iald hx hb hK hP 6 5 rfl rfl (vp_in_nI (n := i) (N := 36) (by omega) (by omega)) dX0_tryLast_35 ?_
                  refine qi_as (y := hv mk 3 i) ((show g3 (nI i).toNatClampNeg = g3 i from by rw [nI_clamp (by omega)]).trans (zh3 i (by omega))) ?_
                  refine lv_i2l (v := (hv mk 3 i).toInt64) hx hb dX0_tryLast_36 (rfl) ?_
                  refine lv_lmul hx hb dX0_tryLast_37 ?_
                  refine ql_as (y := 0) (Int64.zero_mul) ?_
                  refine lv_ladd hx hb dX0_tryLast_38 ?_
                  refine ql_as (y := S) (Int64.add_zero _) ?_
                  refine lv_lstore (lv' := [(4, .long S), (0, .ref ch), (1, .ref fa), (2, .int (nI r0)), (3, .int 3), (6, .int (nI i))]) hx hb dX0_tryLast_39 hl (by decide) rfl (fun ls hl => ?_)
                  refine lv_iinc (v := nI (i + 1)) (lv' := [(6, .int (nI (i + 1))), (4, .long S), (0, .ref ch), (1, .ref fa), (2, .int (nI r0)), (3, .int 3)]) hx hb dX0_tryLast_41 hl (k := 5) rfl (nI_add i 1) (by decide) rfl (fun ls hl => ?_)
                  refine lv_goto (tgt := 14) hx hb dX0_tryLast_44 (by decide) ?_
                  exact ih14 _ _ (by omega) (by omega) (sum_skip hip hs) _ _ (hK.sub [0, 1, 2, 3, 4, 5, 6, 7, 8, 9] rfl) (hP.sub [0, 1, 2, 3, 4, 5, 6, 7, 8, 9, 10] rfl) (hD.sub [0, 1, 2, 3, 4, 5, 6, 7, 8, 9, 10] (by decide) rfl) hS ls (lv_sub hl [2, 3, 4, 5, 1, 0] rfl)
          exact L14 _ (0) _ (Nat.lt_succ_self _) (by omega) (by rw [if_neg (Nat.not_lt_zero _)]) _ _ (hK.sub [0, 1, 2, 3, 4, 5, 6, 7, 8, 9] rfl) (hP.sub [0, 1, 2, 3, 4, 5, 6, 7, 8, 9, 10] rfl) (hD.sub [0, 1, 2, 3, 4, 5, 6, 7, 8, 9, 10] (by decide) rfl) hS ls (lv_sub hl [2, 3, 4, 5, 1, 0] rfl)
        · skip
          refine lv_lconst (v := 0) hx hb dX0_tryLast_8 (by decide) ?_
          refine lv_lstore (lv' := [(4, .long 0), (0, .ref ch), (1, .ref fa), (2, .int (nI r0)), (3, .int 4)]) hx hb dX0_tryLast_9 hl (by decide) rfl (fun ls hl => ?_)
          refine lv_iconst (v := 0) hx hb dX0_tryLast_11 (by decide) ?_
          refine lv_istore (lv' := [(6, .int 0), (4, .long 0), (0, .ref ch), (1, .ref fa), (2, .int (nI r0)), (3, .int 4)]) hx hb dX0_tryLast_12 hl (by decide) rfl (fun ls hl => ?_)
          have L14 : ∀ (nF : Nat) (i : Nat) (S : Int64), 36 - i < nF → (i ≤ 36) → (S = if pj < i then tv k mk pj 4 else 0) → ∀ (H : Heap) (locs : List Loc), va_K (dC, dI) vwCl [(cA1, .long), (cHO, .array .int), (cH, .int), (cH, .int), (cH, .int), (cH, .int), (cH, .int), (cH, .int), (cH, .int), (cH, .int)] s → va_P (dC, dI) vwCl [(ch, .inr (2, [.long aa, .int bb, .ref dr, .ref tO, .ref hO])), (fa, .inl (cA1, 36, .inr (.inl ff))), (hO, .inl (cHO, 8, .inr (.inr (.inr (.inr (fun i => if i < 8 then some (rh i) else none)))))), ((rh 0), .inl (cH, 36, .inl g0)), ((rh 1), .inl (cH, 36, .inl g1)), ((rh 2), .inl (cH, 36, .inl g2)), ((rh 3), .inl (cH, 36, .inl g3)), ((rh 4), .inl (cH, 36, .inl g4)), ((rh 5), .inl (cH, 36, .inl g5)), ((rh 6), .inl (cH, 36, .inl g6)), ((rh 7), .inl (cH, 36, .inl g7))] H → va_D A [(ch, .inr (2, [.long aa, .int bb, .ref dr, .ref tO, .ref hO])), (fa, .inl (cA1, 36, .inr (.inl ff))), (hO, .inl (cHO, 8, .inr (.inr (.inr (.inr (fun i => if i < 8 then some (rh i) else none)))))), ((rh 0), .inl (cH, 36, .inl g0)), ((rh 1), .inl (cH, 36, .inl g1)), ((rh 2), .inl (cH, 36, .inl g2)), ((rh 3), .inl (cH, 36, .inl g3)), ((rh 4), .inl (cH, 36, .inl g4)), ((rh 5), .inl (cH, 36, .inl g5)), ((rh 6), .inl (cH, 36, .inl g6)), ((rh 7), .inl (cH, 36, .inl g7))] → va_S A s.heap H locs → ∀ (ls : Array Slot), lv_has ls 7 [(0, .ref ch), (1, .ref fa), (2, .int (nI r0)), (3, .int 4), (4, .long S), (6, .int (nI i))] → W p l e ({ frames := 0, cells := 0, slots := 0, locals := 0 } : Room) s m args below meth c H locs 0 0 Q (F0 m 14 ls []) := by
            intro nF
            induction nF with
            | zero => intro i S hm; exact absurd hm (Nat.not_lt_zero _)
            | succ nF ih14 =>
              intro i S hm hi2 hs H locs hK hP hD hS ls hl
              refine lv_iload hx hb dX0_tryLast_14 (lv_at hl 5 rfl) ?_
              refine lv_bipush (v := 36) hx hb dX0_tryLast_16 (by decide) ?_
              refine lv_icmp_ge (tgt := 47) hx hb dX0_tryLast_18 (by decide) (fun c_10 => ?_) (fun c_10 => ?_)
              · skip
                have c_10 : 36 ≤ i := (nI_leI (a := 36) (b := i) (by omega) (by omega)).mp c_10
                have hsv : v (r0 * 8 + 4) = S := by rw [zv 4 (by omega), hs, if_pos (by omega)]
                refine lv_lload hx hb dX0_tryLast_47 (lv_at hl 4 rfl) ?_
                refine lv_aload_n hx hb dX0_tryLast_49 rfl (lv_at hl 0 rfl) ?_
                refine va_get (D := (dC, dI)) (ci := 2) (v := .long aa) (C := RX0) (T := TX0) (N := 5) hx hb hts kc_tryLast_0 hown hK hP 0 rfl rfl 0 (by decide) (hts (.fieldLink RX0 66 "MistHeaps$Chances" "foundTimes" "J") kc_tryLast_1) (fun _ h9 => h9) rfl dX0_tryLast_50 ?_
                refine W.lcmp hx hb dX0_tryLast_53 ?_
                refine lv_if_le (tgt := 73) hx hb dX0_tryLast_54 (by decide) (fun c_11 => ?_) (fun c_11 => ?_)
                · skip
                  rw [lg_cmp_le] at c_11
                  refine lv_iinc (v := 5) (lv' := [(3, .int 5), (0, .ref ch), (1, .ref fa), (2, .int (nI r0)), (4, .long S), (6, .int (nI i))]) hx hb dX0_tryLast_73 hl (k := 3) rfl (by decide) (by decide) rfl (fun ls hl => ?_)
                  refine lv_goto (tgt := 2) hx hb dX0_tryLast_76 (by decide) ?_
                  exact ih2 (5) _ _ (by omega) (by omega) (GJ_keep hj hsv c_11) _ _ (hK.sub [0, 1, 2, 3, 4, 5, 6, 7, 8, 9] rfl) (hP.sub [0, 1, 2, 3, 4, 5, 6, 7, 8, 9, 10] rfl) (hD.sub [0, 1, 2, 3, 4, 5, 6, 7, 8, 9, 10] (by decide) rfl) hS ls (lv_sub hl [1, 2, 3, 0] rfl)
                · skip
                  rw [lg_cmp_le] at c_11
                  refine lv_aload_n hx hb dX0_tryLast_57 rfl (lv_at hl 0 rfl) ?_
                  refine lv_lload hx hb dX0_tryLast_58 (lv_at hl 4 rfl) ?_
                  refine va_put (D := (dC, dI)) (ci := 2) (v := .long S) (ty := .long) (C := RX0) (T := TX0) (N := 5) hx hb hts kc_tryLast_0 tyX0 tyX0_ok nmX0 hown hK hP hD hS 0 rfl rfl 0 (by decide) (hts (.fieldLink RX0 66 "MistHeaps$Chances" "foundTimes" "J") kc_tryLast_1) (fun _ h9 => h9) rfl (by decide +kernel) rfl rfl (Nat.le_of_ble_eq_true rfl) dX0_tryLast_60 (fun H locs hP hD hS => ?_)
                  have hP : va_P (dC, dI) vwCl [(ch, .inr (2, [.long S, .int bb, .ref dr, .ref tO, .ref hO])), (fa, .inl (cA1, 36, .inr (.inl ff))), (hO, .inl (cHO, 8, .inr (.inr (.inr (.inr (fun i => if i < 8 then some (rh i) else none)))))), ((rh 0), .inl (cH, 36, .inl g0)), ((rh 1), .inl (cH, 36, .inl g1)), ((rh 2), .inl (cH, 36, .inl g2)), ((rh 3), .inl (cH, 36, .inl g3)), ((rh 4), .inl (cH, 36, .inl g4)), ((rh 5), .inl (cH, 36, .inl g5)), ((rh 6), .inl (cH, 36, .inl g6)), ((rh 7), .inl (cH, 36, .inl g7))] H := hP
                  have hD : va_D A [(ch, .inr (2, [.long S, .int bb, .ref dr, .ref tO, .ref hO])), (fa, .inl (cA1, 36, .inr (.inl ff))), (hO, .inl (cHO, 8, .inr (.inr (.inr (.inr (fun i => if i < 8 then some (rh i) else none)))))), ((rh 0), .inl (cH, 36, .inl g0)), ((rh 1), .inl (cH, 36, .inl g1)), ((rh 2), .inl (cH, 36, .inl g2)), ((rh 3), .inl (cH, 36, .inl g3)), ((rh 4), .inl (cH, 36, .inl g4)), ((rh 5), .inl (cH, 36, .inl g5)), ((rh 6), .inl (cH, 36, .inl g6)), ((rh 7), .inl (cH, 36, .inl g7))] := hD
                  refine lv_aload_n hx hb dX0_tryLast_63 rfl (lv_at hl 0 rfl) ?_
                  refine lv_iload_n hx hb dX0_tryLast_64 rfl (lv_at hl 2 rfl) ?_
                  refine lv_bipush (v := 8) hx hb dX0_tryLast_65 (by decide) ?_
                  refine lv_imul hx hb dX0_tryLast_67 ?_
                  refine qi_as (y := nI (r0 * 8)) (pk_mul r0 8) ?_
                  refine lv_iload_n hx hb dX0_tryLast_68 rfl (lv_at hl 3 rfl) ?_
                  refine lv_iadd hx hb dX0_tryLast_69 ?_
                  refine qi_as (y := nI ((r0 * 8) + 4)) (nI_add (r0 * 8) 4) ?_
                  refine va_put (D := (dC, dI)) (ci := 2) (v := .int (nI ((r0 * 8) + 4))) (ty := .int) (C := RX0) (T := TX0) (N := 5) hx hb hts kc_tryLast_0 tyX0 tyX0_ok nmX0 hown hK hP hD hS 0 rfl rfl 1 (by decide) (hts (.fieldLink RX0 77 "MistHeaps$Chances" "foundRow" "I") kc_tryLast_2) (fun _ h9 => h9) rfl (by decide +kernel) rfl rfl (Nat.le_of_ble_eq_true rfl) dX0_tryLast_70 (fun H locs hP hD hS => ?_)
                  have hP : va_P (dC, dI) vwCl [(ch, .inr (2, [.long S, .int (nI ((r0 * 8) + 4)), .ref dr, .ref tO, .ref hO])), (fa, .inl (cA1, 36, .inr (.inl ff))), (hO, .inl (cHO, 8, .inr (.inr (.inr (.inr (fun i => if i < 8 then some (rh i) else none)))))), ((rh 0), .inl (cH, 36, .inl g0)), ((rh 1), .inl (cH, 36, .inl g1)), ((rh 2), .inl (cH, 36, .inl g2)), ((rh 3), .inl (cH, 36, .inl g3)), ((rh 4), .inl (cH, 36, .inl g4)), ((rh 5), .inl (cH, 36, .inl g5)), ((rh 6), .inl (cH, 36, .inl g6)), ((rh 7), .inl (cH, 36, .inl g7))] H := hP
                  have hD : va_D A [(ch, .inr (2, [.long S, .int (nI ((r0 * 8) + 4)), .ref dr, .ref tO, .ref hO])), (fa, .inl (cA1, 36, .inr (.inl ff))), (hO, .inl (cHO, 8, .inr (.inr (.inr (.inr (fun i => if i < 8 then some (rh i) else none)))))), ((rh 0), .inl (cH, 36, .inl g0)), ((rh 1), .inl (cH, 36, .inl g1)), ((rh 2), .inl (cH, 36, .inl g2)), ((rh 3), .inl (cH, 36, .inl g3)), ((rh 4), .inl (cH, 36, .inl g4)), ((rh 5), .inl (cH, 36, .inl g5)), ((rh 6), .inl (cH, 36, .inl g6)), ((rh 7), .inl (cH, 36, .inl g7))] := hD
                  refine lv_iinc (v := 5) (lv' := [(3, .int 5), (0, .ref ch), (1, .ref fa), (2, .int (nI r0)), (4, .long S), (6, .int (nI i))]) hx hb dX0_tryLast_73 hl (k := 3) rfl (by decide) (by decide) rfl (fun ls hl => ?_)
                  refine lv_goto (tgt := 2) hx hb dX0_tryLast_76 (by decide) ?_
                  exact ih2 (5) _ _ (by omega) (by omega) (GJ_up hj hsv c_11) _ _ (hK.sub [0, 1, 2, 3, 4, 5, 6, 7, 8, 9] rfl) (hP.sub [0, 1, 2, 3, 4, 5, 6, 7, 8, 9, 10] rfl) (hD.sub [0, 1, 2, 3, 4, 5, 6, 7, 8, 9, 10] (by decide) rfl) hS ls (lv_sub hl [1, 2, 3, 0] rfl)
              · skip
                have c_10 : ¬ 36 ≤ i := fun q => c_10 ((nI_leI (a := 36) (b := i) (by omega) (by omega)).mpr q)
                by_cases hip : i = pj
                · skip
                  refine lv_lload hx hb dX0_tryLast_21 (lv_at hl 4 rfl) ?_
                  refine lv_aload_n hx hb dX0_tryLast_23 rfl (lv_at hl 1 rfl) ?_
                  refine lv_iload hx hb dX0_tryLast_24 (lv_at hl 5 rfl) ?_
                  refine va_lald hx hb hK hP 1 0 rfl rfl (vp_in_nI (n := i) (N := 36) (by omega) (by omega)) dX0_tryLast_26 ?_
                  refine ql_as (y := lN (20 ^ k)) ((show ff (nI i).toNatClampNeg = ff i from by rw [nI_clamp (by omega)]).trans (by rw [zO i (by omega), ind, if_pos hip])) ?_
                  refine lv_aload_n hx hb dX0_tryLast_27 rfl (lv_at hl 0 rfl) ?_
                  refine va_get (D := (dC, dI)) (ci := 2) (v := .ref hO) (C := RX0) (T := TX0) (N := 5) hx hb hts kc_tryLast_0 hown hK hP 0 rfl rfl 4 (by decide) (hts (.fieldLink RX0 22 "MistHeaps$Chances" "hits" "[[I") kc_tryLast_3) (fun _ h9 => h9) rfl dX0_tryLast_28 ?_
                  refine lv_iload_n hx hb dX0_tryLast_31 rfl (lv_at hl 3 rfl) ?_
                  refine va_alda hx hb hK hP 2 1 rfl rfl (vp_in_nI (n := 4) (N := 8) (by omega) (by omega)) dX0_tryLast_32 ?_
                  refine qq_as (v := .ref (rh 4)) (rfl) ?_
                  refine lv_iload hx hb dX0_tryLast_33 (lv_at hl 5 rfl) ?_
                  refine va_iald hx hb hK hP 7 6 rfl rfl (vp_in_nI (n := i) (N := 36) (by omega) (by omega)) dX0_tryLast_35 ?_
                  refine qi_as (y := hv mk 4 i) ((show g4 (nI i).toNatClampNeg = g4 i from by rw [nI_clamp (by omega)]).trans (zh4 i (by omega))) ?_
                  refine lv_i2l (v := (hv mk 4 i).toInt64) hx hb dX0_tryLast_36 (rfl) ?_
                  refine lv_lmul hx hb dX0_tryLast_37 ?_
                  refine lv_ladd hx hb dX0_tryLast_38 ?_
                  refine lv_lstore (lv' := [(4, .long (S + ((lN (20 ^ k)) * ((hv mk 4 i).toInt64)))), (0, .ref ch), (1, .ref fa), (2, .int (nI r0)), (3, .int 4), (6, .int (nI i))]) hx hb dX0_tryLast_39 hl (by decide) rfl (fun ls hl => ?_)
                  refine lv_iinc (v := nI (i + 1)) (lv' := [(6, .int (nI (i + 1))), (4, .long (S + ((lN (20 ^ k)) * ((hv mk 4 i).toInt64)))), (0, .ref ch), (1, .ref fa), (2, .int (nI r0)), (3, .int 4)]) hx hb dX0_tryLast_41 hl (k := 5) rfl (nI_add i 1) (by decide) rfl (fun ls hl => ?_)
                  refine lv_goto (tgt := 14) hx hb dX0_tryLast_44 (by decide) ?_
                  exact ih14 _ _ (by omega) (by omega) (sum_put hip hs) _ _ (hK.sub [0, 1, 2, 3, 4, 5, 6, 7, 8, 9] rfl) (hP.sub [0, 1, 2, 3, 4, 5, 6, 7, 8, 9, 10] rfl) (hD.sub [0, 1, 2, 3, 4, 5, 6, 7, 8, 9, 10] (by decide) rfl) hS ls (lv_sub hl [2, 3, 4, 5, 1, 0] rfl)
                · skip
                  refine lv_lload hx hb dX0_tryLast_21 (lv_at hl 4 rfl) ?_
                  refine lv_aload_n hx hb dX0_tryLast_23 rfl (lv_at hl 1 rfl) ?_
                  refine lv_iload hx hb dX0_tryLast_24 (lv_at hl 5 rfl) ?_
                  refine va_lald hx hb hK hP 1 0 rfl rfl (vp_in_nI (n := i) (N := 36) (by omega) (by omega)) dX0_tryLast_26 ?_
                  refine ql_as (y := 0) ((show ff (nI i).toNatClampNeg = ff i from by rw [nI_clamp (by omega)]).trans (by rw [zO i (by omega), ind, if_neg hip])) ?_
                  refine lv_aload_n hx hb dX0_tryLast_27 rfl (lv_at hl 0 rfl) ?_
                  refine va_get (D := (dC, dI)) (ci := 2) (v := .ref hO) (C := RX0) (T := TX0) (N := 5) hx hb hts kc_tryLast_0 hown hK hP 0 rfl rfl 4 (by decide) (hts (.fieldLink RX0 22 "MistHeaps$Chances" "hits" "[[I") kc_tryLast_3) (fun _ h9 => h9) rfl dX0_tryLast_28 ?_
                  refine lv_iload_n hx hb dX0_tryLast_31 rfl (lv_at hl 3 rfl) ?_
                  refine va_alda hx hb hK hP 2 1 rfl rfl (vp_in_nI (n := 4) (N := 8) (by omega) (by omega)) dX0_tryLast_32 ?_
                  refine qq_as (v := .ref (rh 4)) (rfl) ?_
                  refine lv_iload hx hb dX0_tryLast_33 (lv_at hl 5 rfl) ?_
                  refine va_iald hx hb hK hP 7 6 rfl rfl (vp_in_nI (n := i) (N := 36) (by omega) (by omega)) dX0_tryLast_35 ?_
                  refine qi_as (y := hv mk 4 i) ((show g4 (nI i).toNatClampNeg = g4 i from by rw [nI_clamp (by omega)]).trans (zh4 i (by omega))) ?_
                  refine lv_i2l (v := (hv mk 4 i).toInt64) hx hb dX0_tryLast_36 (rfl) ?_
                  refine lv_lmul hx hb dX0_tryLast_37 ?_
                  refine ql_as (y := 0) (Int64.zero_mul) ?_
                  refine lv_ladd hx hb dX0_tryLast_38 ?_
                  refine ql_as (y := S) (Int64.add_zero _) ?_
                  refine lv_lstore (lv' := [(4, .long S), (0, .ref ch), (1, .ref fa), (2, .int (nI r0)), (3, .int 4), (6, .int (nI i))]) hx hb dX0_tryLast_39 hl (by decide) rfl (fun ls hl => ?_)
                  refine lv_iinc (v := nI (i + 1)) (lv' := [(6, .int (nI (i + 1))), (4, .long S), (0, .ref ch), (1, .ref fa), (2, .int (nI r0)), (3, .int 4)]) hx hb dX0_tryLast_41 hl (k := 5) rfl (nI_add i 1) (by decide) rfl (fun ls hl => ?_)
                  refine lv_goto (tgt := 14) hx hb dX0_tryLast_44 (by decide) ?_
                  exact ih14 _ _ (by omega) (by omega) (sum_skip hip hs) _ _ (hK.sub [0, 1, 2, 3, 4, 5, 6, 7, 8, 9] rfl) (hP.sub [0, 1, 2, 3, 4, 5, 6, 7, 8, 9, 10] rfl) (hD.sub [0, 1, 2, 3, 4, 5, 6, 7, 8, 9, 10] (by decide) rfl) hS ls (lv_sub hl [2, 3, 4, 5, 1, 0] rfl)
          exact L14 _ (0) _ (Nat.lt_succ_self _) (by omega) (by rw [if_neg (Nat.not_lt_zero _)]) _ _ (hK.sub [0, 1, 2, 3, 4, 5, 6, 7, 8, 9] rfl) (hP.sub [0, 1, 2, 3, 4, 5, 6, 7, 8, 9, 10] rfl) (hD.sub [0, 1, 2, 3, 4, 5, 6, 7, 8, 9, 10] (by decide) rfl) hS ls (lv_sub hl [2, 3, 4, 5, 1, 0] rfl)
        · skip
          refine lv_lconst (v := 0) hx hb dX0_tryLast_8 (by decide) ?_
          refine lv_lstore (lv' := [(4, .long 0), (0, .ref ch), (1, .ref fa), (2, .int (nI r0)), (3, .int 5)]) hx hb dX0_tryLast_9 hl (by decide) rfl (fun ls hl => ?_)
          refine lv_iconst (v := 0) hx hb dX0_tryLast_11 (by decide) ?_
          refine lv_istore (lv' := [(6, .int 0), (4, .long 0), (0, .ref ch), (1, .ref fa), (2, .int (nI r0)), (3, .int 5)]) hx hb dX0_tryLast_12 hl (by decide) rfl (fun ls hl => ?_)
          have L14 : ∀ (nF : Nat) (i : Nat) (S : Int64), 36 - i < nF → (i ≤ 36) → (S = if pj < i then tv k mk pj 5 else 0) → ∀ (H : Heap) (locs : List Loc), va_K (dC, dI) vwCl [(cA1, .long), (cHO, .array .int), (cH, .int), (cH, .int), (cH, .int), (cH, .int), (cH, .int), (cH, .int), (cH, .int), (cH, .int)] s → va_P (dC, dI) vwCl [(ch, .inr (2, [.long aa, .int bb, .ref dr, .ref tO, .ref hO])), (fa, .inl (cA1, 36, .inr (.inl ff))), (hO, .inl (cHO, 8, .inr (.inr (.inr (.inr (fun i => if i < 8 then some (rh i) else none)))))), ((rh 0), .inl (cH, 36, .inl g0)), ((rh 1), .inl (cH, 36, .inl g1)), ((rh 2), .inl (cH, 36, .inl g2)), ((rh 3), .inl (cH, 36, .inl g3)), ((rh 4), .inl (cH, 36, .inl g4)), ((rh 5), .inl (cH, 36, .inl g5)), ((rh 6), .inl (cH, 36, .inl g6)), ((rh 7), .inl (cH, 36, .inl g7))] H → va_D A [(ch, .inr (2, [.long aa, .int bb, .ref dr, .ref tO, .ref hO])), (fa, .inl (cA1, 36, .inr (.inl ff))), (hO, .inl (cHO, 8, .inr (.inr (.inr (.inr (fun i => if i < 8 then some (rh i) else none)))))), ((rh 0), .inl (cH, 36, .inl g0)), ((rh 1), .inl (cH, 36, .inl g1)), ((rh 2), .inl (cH, 36, .inl g2)), ((rh 3), .inl (cH, 36, .inl g3)), ((rh 4), .inl (cH, 36, .inl g4)), ((rh 5), .inl (cH, 36, .inl g5)), ((rh 6), .inl (cH, 36, .inl g6)), ((rh 7), .inl (cH, 36, .inl g7))] → va_S A s.heap H locs → ∀ (ls : Array Slot), lv_has ls 7 [(0, .ref ch), (1, .ref fa), (2, .int (nI r0)), (3, .int 5), (4, .long S), (6, .int (nI i))] → W p l e ({ frames := 0, cells := 0, slots := 0, locals := 0 } : Room) s m args below meth c H locs 0 0 Q (F0 m 14 ls []) := by
            intro nF
            induction nF with
            | zero => intro i S hm; exact absurd hm (Nat.not_lt_zero _)
            | succ nF ih14 =>
              intro i S hm hi2 hs H locs hK hP hD hS ls hl
              refine lv_iload hx hb dX0_tryLast_14 (lv_at hl 5 rfl) ?_
              refine lv_bipush (v := 36) hx hb dX0_tryLast_16 (by decide) ?_
              refine lv_icmp_ge (tgt := 47) hx hb dX0_tryLast_18 (by decide) (fun c_12 => ?_) (fun c_12 => ?_)
              · skip
                have c_12 : 36 ≤ i := (nI_leI (a := 36) (b := i) (by omega) (by omega)).mp c_12
                have hsv : v (r0 * 8 + 5) = S := by rw [zv 5 (by omega), hs, if_pos (by omega)]
                refine lv_lload hx hb dX0_tryLast_47 (lv_at hl 4 rfl) ?_
                refine lv_aload_n hx hb dX0_tryLast_49 rfl (lv_at hl 0 rfl) ?_
                refine va_get (D := (dC, dI)) (ci := 2) (v := .long aa) (C := RX0) (T := TX0) (N := 5) hx hb hts kc_tryLast_0 hown hK hP 0 rfl rfl 0 (by decide) (hts (.fieldLink RX0 66 "MistHeaps$Chances" "foundTimes" "J") kc_tryLast_1) (fun _ h9 => h9) rfl dX0_tryLast_50 ?_
                refine W.lcmp hx hb dX0_tryLast_53 ?_
                refine lv_if_le (tgt := 73) hx hb dX0_tryLast_54 (by decide) (fun c_13 => ?_) (fun c_13 => ?_)
                · skip
                  rw [lg_cmp_le] at c_13
                  refine lv_iinc (v := 6) (lv' := [(3, .int 6), (0, .ref ch), (1, .ref fa), (2, .int (nI r0)), (4, .long S), (6, .int (nI i))]) hx hb dX0_tryLast_73 hl (k := 3) rfl (by decide) (by decide) rfl (fun ls hl => ?_)
                  refine lv_goto (tgt := 2) hx hb dX0_tryLast_76 (by decide) ?_
                  exact ih2 (6) _ _ (by omega) (by omega) (GJ_keep hj hsv c_13) _ _ (hK.sub [0, 1, 2, 3, 4, 5, 6, 7, 8, 9] rfl) (hP.sub [0, 1, 2, 3, 4, 5, 6, 7, 8, 9, 10] rfl) (hD.sub [0, 1, 2, 3, 4, 5, 6, 7, 8, 9, 10] (by decide) rfl) hS ls (lv_sub hl [1, 2, 3, 0] rfl)
                · skip
                  rw [lg_cmp_le] at c_13
                  refine lv_aload_n hx hb dX0_tryLast_57 rfl (lv_at hl 0 rfl) ?_
                  refine lv_lload hx hb dX0_tryLast_58 (lv_at hl 4 rfl) ?_
                  refine va_put (D := (dC, dI)) (ci := 2) (v := .long S) (ty := .long) (C := RX0) (T := TX0) (N := 5) hx hb hts kc_tryLast_0 tyX0 tyX0_ok nmX0 hown hK hP hD hS 0 rfl rfl 0 (by decide) (hts (.fieldLink RX0 66 "MistHeaps$Chances" "foundTimes" "J") kc_tryLast_1) (fun _ h9 => h9) rfl (by decide +kernel) rfl rfl (Nat.le_of_ble_eq_true rfl) dX0_tryLast_60 (fun H locs hP hD hS => ?_)
                  have hP : va_P (dC, dI) vwCl [(ch, .inr (2, [.long S, .int bb, .ref dr, .ref tO, .ref hO])), (fa, .inl (cA1, 36, .inr (.inl ff))), (hO, .inl (cHO, 8, .inr (.inr (.inr (.inr (fun i => if i < 8 then some (rh i) else none)))))), ((rh 0), .inl (cH, 36, .inl g0)), ((rh 1), .inl (cH, 36, .inl g1)), ((rh 2), .inl (cH, 36, .inl g2)), ((rh 3), .inl (cH, 36, .inl g3)), ((rh 4), .inl (cH, 36, .inl g4)), ((rh 5), .inl (cH, 36, .inl g5)), ((rh 6), .inl (cH, 36, .inl g6)), ((rh 7), .inl (cH, 36, .inl g7))] H := hP
                  have hD : va_D A [(ch, .inr (2, [.long S, .int bb, .ref dr, .ref tO, .ref hO])), (fa, .inl (cA1, 36, .inr (.inl ff))), (hO, .inl (cHO, 8, .inr (.inr (.inr (.inr (fun i => if i < 8 then some (rh i) else none)))))), ((rh 0), .inl (cH, 36, .inl g0)), ((rh 1), .inl (cH, 36, .inl g1)), ((rh 2), .inl (cH, 36, .inl g2)), ((rh 3), .inl (cH, 36, .inl g3)), ((rh 4), .inl (cH, 36, .inl g4)), ((rh 5), .inl (cH, 36, .inl g5)), ((rh 6), .inl (cH, 36, .inl g6)), ((rh 7), .inl (cH, 36, .inl g7))] := hD
                  refine lv_aload_n hx hb dX0_tryLast_63 rfl (lv_at hl 0 rfl) ?_
                  refine lv_iload_n hx hb dX0_tryLast_64 rfl (lv_at hl 2 rfl) ?_
                  refine lv_bipush (v := 8) hx hb dX0_tryLast_65 (by decide) ?_
                  refine lv_imul hx hb dX0_tryLast_67 ?_
                  refine qi_as (y := nI (r0 * 8)) (pk_mul r0 8) ?_
                  refine lv_iload_n hx hb dX0_tryLast_68 rfl (lv_at hl 3 rfl) ?_
                  refine lv_iadd hx hb dX0_tryLast_69 ?_
                  refine qi_as (y := nI ((r0 * 8) + 5)) (nI_add (r0 * 8) 5) ?_
                  refine va_put (D := (dC, dI)) (ci := 2) (v := .int (nI ((r0 * 8) + 5))) (ty := .int) (C := RX0) (T := TX0) (N := 5) hx hb hts kc_tryLast_0 tyX0 tyX0_ok nmX0 hown hK hP hD hS 0 rfl rfl 1 (by decide) (hts (.fieldLink RX0 77 "MistHeaps$Chances" "foundRow" "I") kc_tryLast_2) (fun _ h9 => h9) rfl (by decide +kernel) rfl rfl (Nat.le_of_ble_eq_true rfl) dX0_tryLast_70 (fun H locs hP hD hS => ?_)
                  have hP : va_P (dC, dI) vwCl [(ch, .inr (2, [.long S, .int (nI ((r0 * 8) + 5)), .ref dr, .ref tO, .ref hO])), (fa, .inl (cA1, 36, .inr (.inl ff))), (hO, .inl (cHO, 8, .inr (.inr (.inr (.inr (fun i => if i < 8 then some (rh i) else none)))))), ((rh 0), .inl (cH, 36, .inl g0)), ((rh 1), .inl (cH, 36, .inl g1)), ((rh 2), .inl (cH, 36, .inl g2)), ((rh 3), .inl (cH, 36, .inl g3)), ((rh 4), .inl (cH, 36, .inl g4)), ((rh 5), .inl (cH, 36, .inl g5)), ((rh 6), .inl (cH, 36, .inl g6)), ((rh 7), .inl (cH, 36, .inl g7))] H := hP
                  have hD : va_D A [(ch, .inr (2, [.long S, .int (nI ((r0 * 8) + 5)), .ref dr, .ref tO, .ref hO])), (fa, .inl (cA1, 36, .inr (.inl ff))), (hO, .inl (cHO, 8, .inr (.inr (.inr (.inr (fun i => if i < 8 then some (rh i) else none)))))), ((rh 0), .inl (cH, 36, .inl g0)), ((rh 1), .inl (cH, 36, .inl g1)), ((rh 2), .inl (cH, 36, .inl g2)), ((rh 3), .inl (cH, 36, .inl g3)), ((rh 4), .inl (cH, 36, .inl g4)), ((rh 5), .inl (cH, 36, .inl g5)), ((rh 6), .inl (cH, 36, .inl g6)), ((rh 7), .inl (cH, 36, .inl g7))] := hD
                  refine lv_iinc (v := 6) (lv' := [(3, .int 6), (0, .ref ch), (1, .ref fa), (2, .int (nI r0)), (4, .long S), (6, .int (nI i))]) hx hb dX0_tryLast_73 hl (k := 3) rfl (by decide) (by decide) rfl (fun ls hl => ?_)
                  refine lv_goto (tgt := 2) hx hb dX0_tryLast_76 (by decide) ?_
                  exact ih2 (6) _ _ (by omega) (by omega) (GJ_up hj hsv c_13) _ _ (hK.sub [0, 1, 2, 3, 4, 5, 6, 7, 8, 9] rfl) (hP.sub [0, 1, 2, 3, 4, 5, 6, 7, 8, 9, 10] rfl) (hD.sub [0, 1, 2, 3, 4, 5, 6, 7, 8, 9, 10] (by decide) rfl) hS ls (lv_sub hl [1, 2, 3, 0] rfl)
              · skip
                have c_12 : ¬ 36 ≤ i := fun q => c_12 ((nI_leI (a := 36) (b := i) (by omega) (by omega)).mpr q)
                by_cases hip : i = pj
                · skip
                  refine lv_lload hx hb dX0_tryLast_21 (lv_at hl 4 rfl) ?_
                  refine lv_aload_n hx hb dX0_tryLast_23 rfl (lv_at hl 1 rfl) ?_
                  refine lv_iload hx hb dX0_tryLast_24 (lv_at hl 5 rfl) ?_
                  refine va_lald hx hb hK hP 1 0 rfl rfl (vp_in_nI (n := i) (N := 36) (by omega) (by omega)) dX0_tryLast_26 ?_
                  refine ql_as (y := lN (20 ^ k)) ((show ff (nI i).toNatClampNeg = ff i from by rw [nI_clamp (by omega)]).trans (by rw [zO i (by omega), ind, if_pos hip])) ?_
                  refine lv_aload_n hx hb dX0_tryLast_27 rfl (lv_at hl 0 rfl) ?_
                  refine va_get (D := (dC, dI)) (ci := 2) (v := .ref hO) (C := RX0) (T := TX0) (N := 5) hx hb hts kc_tryLast_0 hown hK hP 0 rfl rfl 4 (by decide) (hts (.fieldLink RX0 22 "MistHeaps$Chances" "hits" "[[I") kc_tryLast_3) (fun _ h9 => h9) rfl dX0_tryLast_28 ?_
                  refine lv_iload_n hx hb dX0_tryLast_31 rfl (lv_at hl 3 rfl) ?_
                  refine va_alda hx hb hK hP 2 1 rfl rfl (vp_in_nI (n := 5) (N := 8) (by omega) (by omega)) dX0_tryLast_32 ?_
                  refine qq_as (v := .ref (rh 5)) (rfl) ?_
                  refine lv_iload hx hb dX0_tryLast_33 (lv_at hl 5 rfl) ?_
                  refine va_iald hx hb hK hP 8 7 rfl rfl (vp_in_nI (n := i) (N := 36) (by omega) (by omega)) dX0_tryLast_35 ?_
                  refine qi_as (y := hv mk 5 i) ((show g5 (nI i).toNatClampNeg = g5 i from by rw [nI_clamp (by omega)]).trans (zh5 i (by omega))) ?_
                  refine lv_i2l (v := (hv mk 5 i).toInt64) hx hb dX0_tryLast_36 (rfl) ?_
                  refine lv_lmul hx hb dX0_tryLast_37 ?_
                  refine lv_ladd hx hb dX0_tryLast_38 ?_
                  refine lv_lstore (lv' := [(4, .long (S + ((lN (20 ^ k)) * ((hv mk 5 i).toInt64)))), (0, .ref ch), (1, .ref fa), (2, .int (nI r0)), (3, .int 5), (6, .int (nI i))]) hx hb dX0_tryLast_39 hl (by decide) rfl (fun ls hl => ?_)
                  refine lv_iinc (v := nI (i + 1)) (lv' := [(6, .int (nI (i + 1))), (4, .long (S + ((lN (20 ^ k)) * ((hv mk 5 i).toInt64)))), (0, .ref ch), (1, .ref fa), (2, .int (nI r0)), (3, .int 5)]) hx hb dX0_tryLast_41 hl (k := 5) rfl (nI_add i 1) (by decide) rfl (fun ls hl => ?_)
                  refine lv_goto (tgt := 14) hx hb dX0_tryLast_44 (by decide) ?_
                  exact ih14 _ _ (by omega) (by omega) (sum_put hip hs) _ _ (hK.sub [0, 1, 2, 3, 4, 5, 6, 7, 8, 9] rfl) (hP.sub [0, 1, 2, 3, 4, 5, 6, 7, 8, 9, 10] rfl) (hD.sub [0, 1, 2, 3, 4, 5, 6, 7, 8, 9, 10] (by decide) rfl) hS ls (lv_sub hl [2, 3, 4, 5, 1, 0] rfl)
                · skip
                  refine lv_lload hx hb dX0_tryLast_21 (lv_at hl 4 rfl) ?_
                  refine lv_aload_n hx hb dX0_tryLast_23 rfl (lv_at hl 1 rfl) ?_
                  refine lv_iload hx hb dX0_tryLast_24 (lv_at hl 5 rfl) ?_
                  refine va_lald hx hb hK hP 1 0 rfl rfl (vp_in_nI (n := i) (N := 36) (by omega) (by omega)) dX0_tryLast_26 ?_
                  refine ql_as (y := 0) ((show ff (nI i).toNatClampNeg = ff i from by rw [nI_clamp (by omega)]).trans (by rw [zO i (by omega), ind, if_neg hip])) ?_
                  refine lv_aload_n hx hb dX0_tryLast_27 rfl (lv_at hl 0 rfl) ?_
                  refine va_get (D := (dC, dI)) (ci := 2) (v := .ref hO) (C := RX0) (T := TX0) (N := 5) hx hb hts kc_tryLast_0 hown hK hP 0 rfl rfl 4 (by decide) (hts (.fieldLink RX0 22 "MistHeaps$Chances" "hits" "[[I") kc_tryLast_3) (fun _ h9 => h9) rfl dX0_tryLast_28 ?_
                  refine lv_iload_n hx hb dX0_tryLast_31 rfl (lv_at hl 3 rfl) ?_
                  refine va_alda hx hb hK hP 2 1 rfl rfl (vp_in_nI (n := 5) (N := 8) (by omega) (by omega)) dX0_tryLast_32 ?_
                  refine qq_as (v := .ref (rh 5)) (rfl) ?_
                  refine lv_iload hx hb dX0_tryLast_33 (lv_at hl 5 rfl) ?_
                  refine va_iald hx hb hK hP 8 7 rfl rfl (vp_in_nI (n := i) (N := 36) (by omega) (by omega)) dX0_tryLast_35 ?_
                  refine qi_as (y := hv mk 5 i) ((show g5 (nI i).toNatClampNeg = g5 i from by rw [nI_clamp (by omega)]).trans (zh5 i (by omega))) ?_
                  refine lv_i2l (v := (hv mk 5 i).toInt64) hx hb dX0_tryLast_36 (rfl) ?_
                  refine lv_lmul hx hb dX0_tryLast_37 ?_
                  refine ql_as (y := 0) (Int64.zero_mul) ?_
                  refine lv_ladd hx hb dX0_tryLast_38 ?_
                  refine ql_as (y := S) (Int64.add_zero _) ?_
                  refine lv_lstore (lv' := [(4, .long S), (0, .ref ch), (1, .ref fa), (2, .int (nI r0)), (3, .int 5), (6, .int (nI i))]) hx hb dX0_tryLast_39 hl (by decide) rfl (fun ls hl => ?_)
                  refine lv_iinc (v := nI (i + 1)) (lv' := [(6, .int (nI (i + 1))), (4, .long S), (0, .ref ch), (1, .ref fa), (2, .int (nI r0)), (3, .int 5)]) hx hb dX0_tryLast_41 hl (k := 5) rfl (nI_add i 1) (by decide) rfl (fun ls hl => ?_)
                  refine lv_goto (tgt := 14) hx hb dX0_tryLast_44 (by decide) ?_
                  exact ih14 _ _ (by omega) (by omega) (sum_skip hip hs) _ _ (hK.sub [0, 1, 2, 3, 4, 5, 6, 7, 8, 9] rfl) (hP.sub [0, 1, 2, 3, 4, 5, 6, 7, 8, 9, 10] rfl) (hD.sub [0, 1, 2, 3, 4, 5, 6, 7, 8, 9, 10] (by decide) rfl) hS ls (lv_sub hl [2, 3, 4, 5, 1, 0] rfl)
          exact L14 _ (0) _ (Nat.lt_succ_self _) (by omega) (by rw [if_neg (Nat.not_lt_zero _)]) _ _ (hK.sub [0, 1, 2, 3, 4, 5, 6, 7, 8, 9] rfl) (hP.sub [0, 1, 2, 3, 4, 5, 6, 7, 8, 9, 10] rfl) (hD.sub [0, 1, 2, 3, 4, 5, 6, 7, 8, 9, 10] (by decide) rfl) hS ls (lv_sub hl [2, 3, 4, 5, 1, 0] rfl)
        · skip
          refine lv_lconst (v := 0) hx hb dX0_tryLast_8 (by decide) ?_
          refine lv_lstore (lv' := [(4, .long 0), (0, .ref ch), (1, .ref fa), (2, .int (nI r0)), (3, .int 6)]) hx hb dX0_tryLast_9 hl (by decide) rfl (fun ls hl => ?_)
          refine lv_iconst (v := 0) hx hb dX0_tryLast_11 (by decide) ?_
          refine lv_istore (lv' := [(6, .int 0), (4, .long 0), (0, .ref ch), (1, .ref fa), (2, .int (nI r0)), (3, .int 6)]) hx hb dX0_tryLast_12 hl (by decide) rfl (fun ls hl => ?_)
          have L14 : ∀ (nF : Nat) (i : Nat) (S : Int64), 36 - i < nF → (i ≤ 36) → (S = if pj < i then tv k mk pj 6 else 0) → ∀ (H : Heap) (locs : List Loc), va_K (dC, dI) vwCl [(cA1, .long), (cHO, .array .int), (cH, .int), (cH, .int), (cH, .int), (cH, .int), (cH, .int), (cH, .int), (cH, .int), (cH, .int)] s → va_P (dC, dI) vwCl [(ch, .inr (2, [.long aa, .int bb, .ref dr, .ref tO, .ref hO])), (fa, .inl (cA1, 36, .inr (.inl ff))), (hO, .inl (cHO, 8, .inr (.inr (.inr (.inr (fun i => if i < 8 then some (rh i) else none)))))), ((rh 0), .inl (cH, 36, .inl g0)), ((rh 1), .inl (cH, 36, .inl g1)), ((rh 2), .inl (cH, 36, .inl g2)), ((rh 3), .inl (cH, 36, .inl g3)), ((rh 4), .inl (cH, 36, .inl g4)), ((rh 5), .inl (cH, 36, .inl g5)), ((rh 6), .inl (cH, 36, .inl g6)), ((rh 7), .inl (cH, 36, .inl g7))] H → va_D A [(ch, .inr (2, [.long aa, .int bb, .ref dr, .ref tO, .ref hO])), (fa, .inl (cA1, 36, .inr (.inl ff))), (hO, .inl (cHO, 8, .inr (.inr (.inr (.inr (fun i => if i < 8 then some (rh i) else none)))))), ((rh 0), .inl (cH, 36, .inl g0)), ((rh 1), .inl (cH, 36, .inl g1)), ((rh 2), .inl (cH, 36, .inl g2)), ((rh 3), .inl (cH, 36, .inl g3)), ((rh 4), .inl (cH, 36, .inl g4)), ((rh 5), .inl (cH, 36, .inl g5)), ((rh 6), .inl (cH, 36, .inl g6)), ((rh 7), .inl (cH, 36, .inl g7))] → va_S A s.heap H locs → ∀ (ls : Array Slot), lv_has ls 7 [(0, .ref ch), (1, .ref fa), (2, .int (nI r0)), (3, .int 6), (4, .long S), (6, .int (nI i))] → W p l e ({ frames := 0, cells := 0, slots := 0, locals := 0 } : Room) s m args below meth c H locs 0 0 Q (F0 m 14 ls []) := by
            intro nF
            induction nF with
            | zero => intro i S hm; exact absurd hm (Nat.not_lt_zero _)
            | succ nF ih14 =>
              intro i S hm hi2 hs H locs hK hP hD hS ls hl
              refine lv_iload hx hb dX0_tryLast_14 (lv_at hl 5 rfl) ?_
              refine lv_bipush (v := 36) hx hb dX0_tryLast_16 (by decide) ?_
              refine lv_icmp_ge (tgt := 47) hx hb dX0_tryLast_18 (by decide) (fun c_14 => ?_) (fun c_14 => ?_)
              · skip
                have c_14 : 36 ≤ i := (nI_leI (a := 36) (b := i) (by omega) (by omega)).mp c_14
                have hsv : v (r0 * 8 + 6) = S := by rw [zv 6 (by omega), hs, if_pos (by omega)]
                refine lv_lload hx hb dX0_tryLast_47 (lv_at hl 4 rfl) ?_
                refine lv_aload_n hx hb dX0_tryLast_49 rfl (lv_at hl 0 rfl) ?_
                refine va_get (D := (dC, dI)) (ci := 2) (v := .long aa) (C := RX0) (T := TX0) (N := 5) hx hb hts kc_tryLast_0 hown hK hP 0 rfl rfl 0 (by decide) (hts (.fieldLink RX0 66 "MistHeaps$Chances" "foundTimes" "J") kc_tryLast_1) (fun _ h9 => h9) rfl dX0_tryLast_50 ?_
                refine W.lcmp hx hb dX0_tryLast_53 ?_
                refine lv_if_le (tgt := 73) hx hb dX0_tryLast_54 (by decide) (fun c_15 => ?_) (fun c_15 => ?_)
                · skip
                  rw [lg_cmp_le] at c_15
                  refine lv_iinc (v := 7) (lv' := [(3, .int 7), (0, .ref ch), (1, .ref fa), (2, .int (nI r0)), (4, .long S), (6, .int (nI i))]) hx hb dX0_tryLast_73 hl (k := 3) rfl (by decide) (by decide) rfl (fun ls hl => ?_)
                  refine lv_goto (tgt := 2) hx hb dX0_tryLast_76 (by decide) ?_
                  exact ih2 (7) _ _ (by omega) (by omega) (GJ_keep hj hsv c_15) _ _ (hK.sub [0, 1, 2, 3, 4, 5, 6, 7, 8, 9] rfl) (hP.sub [0, 1, 2, 3, 4, 5, 6, 7, 8, 9, 10] rfl) (hD.sub [0, 1, 2, 3, 4, 5, 6, 7, 8, 9, 10] (by decide) rfl) hS ls (lv_sub hl [1, 2, 3, 0] rfl)
                · skip
                  rw [lg_cmp_le] at c_15
                  refine lv_aload_n hx hb dX0_tryLast_57 rfl (lv_at hl 0 rfl) ?_
                  refine lv_lload hx hb dX0_tryLast_58 (lv_at hl 4 rfl) ?_
                  refine va_put (D := (dC, dI)) (ci := 2) (v := .long S) (ty := .long) (C := RX0) (T := TX0) (N := 5) hx hb hts kc_tryLast_0 tyX0 tyX0_ok nmX0 hown hK hP hD hS 0 rfl rfl 0 (by decide) (hts (.fieldLink RX0 66 "MistHeaps$Chances" "foundTimes" "J") kc_tryLast_1) (fun _ h9 => h9) rfl (by decide +kernel) rfl rfl (Nat.le_of_ble_eq_true rfl) dX0_tryLast_60 (fun H locs hP hD hS => ?_)
                  have hP : va_P (dC, dI) vwCl [(ch, .inr (2, [.long S, .int bb, .ref dr, .ref tO, .ref hO])), (fa, .inl (cA1, 36, .inr (.inl ff))), (hO, .inl (cHO, 8, .inr (.inr (.inr (.inr (fun i => if i < 8 then some (rh i) else none)))))), ((rh 0), .inl (cH, 36, .inl g0)), ((rh 1), .inl (cH, 36, .inl g1)), ((rh 2), .inl (cH, 36, .inl g2)), ((rh 3), .inl (cH, 36, .inl g3)), ((rh 4), .inl (cH, 36, .inl g4)), ((rh 5), .inl (cH, 36, .inl g5)), ((rh 6), .inl (cH, 36, .inl g6)), ((rh 7), .inl (cH, 36, .inl g7))] H := hP
                  have hD : va_D A [(ch, .inr (2, [.long S, .int bb, .ref dr, .ref tO, .ref hO])), (fa, .inl (cA1, 36, .inr (.inl ff))), (hO, .inl (cHO, 8, .inr (.inr (.inr (.inr (fun i => if i < 8 then some (rh i) else none)))))), ((rh 0), .inl (cH, 36, .inl g0)), ((rh 1), .inl (cH, 36, .inl g1)), ((rh 2), .inl (cH, 36, .inl g2)), ((rh 3), .inl (cH, 36, .inl g3)), ((rh 4), .inl (cH, 36, .inl g4)), ((rh 5), .inl (cH, 36, .inl g5)), ((rh 6), .inl (cH, 36, .inl g6)), ((rh 7), .inl (cH, 36, .inl g7))] := hD
                  refine lv_aload_n hx hb dX0_tryLast_63 rfl (lv_at hl 0 rfl) ?_
                  refine lv_iload_n hx hb dX0_tryLast_64 rfl (lv_at hl 2 rfl) ?_
                  refine lv_bipush (v := 8) hx hb dX0_tryLast_65 (by decide) ?_
                  refine lv_imul hx hb dX0_tryLast_67 ?_
                  refine qi_as (y := nI (r0 * 8)) (pk_mul r0 8) ?_
                  refine lv_iload_n hx hb dX0_tryLast_68 rfl (lv_at hl 3 rfl) ?_
                  refine lv_iadd hx hb dX0_tryLast_69 ?_
                  refine qi_as (y := nI ((r0 * 8) + 6)) (nI_add (r0 * 8) 6) ?_
                  refine va_put (D := (dC, dI)) (ci := 2) (v := .int (nI ((r0 * 8) + 6))) (ty := .int) (C := RX0) (T := TX0) (N := 5) hx hb hts kc_tryLast_0 tyX0 tyX0_ok nmX0 hown hK hP hD hS 0 rfl rfl 1 (by decide) (hts (.fieldLink RX0 77 "MistHeaps$Chances" "foundRow" "I") kc_tryLast_2) (fun _ h9 => h9) rfl (by decide +kernel) rfl rfl (Nat.le_of_ble_eq_true rfl) dX0_tryLast_70 (fun H locs hP hD hS => ?_)
                  have hP : va_P (dC, dI) vwCl [(ch, .inr (2, [.long S, .int (nI ((r0 * 8) + 6)), .ref dr, .ref tO, .ref hO])), (fa, .inl (cA1, 36, .inr (.inl ff))), (hO, .inl (cHO, 8, .inr (.inr (.inr (.inr (fun i => if i < 8 then some (rh i) else none)))))), ((rh 0), .inl (cH, 36, .inl g0)), ((rh 1), .inl (cH, 36, .inl g1)), ((rh 2), .inl (cH, 36, .inl g2)), ((rh 3), .inl (cH, 36, .inl g3)), ((rh 4), .inl (cH, 36, .inl g4)), ((rh 5), .inl (cH, 36, .inl g5)), ((rh 6), .inl (cH, 36, .inl g6)), ((rh 7), .inl (cH, 36, .inl g7))] H := hP
                  have hD : va_D A [(ch, .inr (2, [.long S, .int (nI ((r0 * 8) + 6)), .ref dr, .ref tO, .ref hO])), (fa, .inl (cA1, 36, .inr (.inl ff))), (hO, .inl (cHO, 8, .inr (.inr (.inr (.inr (fun i => if i < 8 then some (rh i) else none)))))), ((rh 0), .inl (cH, 36, .inl g0)), ((rh 1), .inl (cH, 36, .inl g1)), ((rh 2), .inl (cH, 36, .inl g2)), ((rh 3), .inl (cH, 36, .inl g3)), ((rh 4), .inl (cH, 36, .inl g4)), ((rh 5), .inl (cH, 36, .inl g5)), ((rh 6), .inl (cH, 36, .inl g6)), ((rh 7), .inl (cH, 36, .inl g7))] := hD
                  refine lv_iinc (v := 7) (lv' := [(3, .int 7), (0, .ref ch), (1, .ref fa), (2, .int (nI r0)), (4, .long S), (6, .int (nI i))]) hx hb dX0_tryLast_73 hl (k := 3) rfl (by decide) (by decide) rfl (fun ls hl => ?_)
                  refine lv_goto (tgt := 2) hx hb dX0_tryLast_76 (by decide) ?_
                  exact ih2 (7) _ _ (by omega) (by omega) (GJ_up hj hsv c_15) _ _ (hK.sub [0, 1, 2, 3, 4, 5, 6, 7, 8, 9] rfl) (hP.sub [0, 1, 2, 3, 4, 5, 6, 7, 8, 9, 10] rfl) (hD.sub [0, 1, 2, 3, 4, 5, 6, 7, 8, 9, 10] (by decide) rfl) hS ls (lv_sub hl [1, 2, 3, 0] rfl)
              · skip
                have c_14 : ¬ 36 ≤ i := fun q => c_14 ((nI_leI (a := 36) (b := i) (by omega) (by omega)).mpr q)
                by_cases hip : i = pj
                · skip
                  refine lv_lload hx hb dX0_tryLast_21 (lv_at hl 4 rfl) ?_
                  refine lv_aload_n hx hb dX0_tryLast_23 rfl (lv_at hl 1 rfl) ?_
                  refine lv_iload hx hb dX0_tryLast_24 (lv_at hl 5 rfl) ?_
                  refine va_lald hx hb hK hP 1 0 rfl rfl (vp_in_nI (n := i) (N := 36) (by omega) (by omega)) dX0_tryLast_26 ?_
                  refine ql_as (y := lN (20 ^ k)) ((show ff (nI i).toNatClampNeg = ff i from by rw [nI_clamp (by omega)]).trans (by rw [zO i (by omega), ind, if_pos hip])) ?_
                  refine lv_aload_n hx hb dX0_tryLast_27 rfl (lv_at hl 0 rfl) ?_
                  refine va_get (D := (dC, dI)) (ci := 2) (v := .ref hO) (C := RX0) (T := TX0) (N := 5) hx hb hts kc_tryLast_0 hown hK hP 0 rfl rfl 4 (by decide) (hts (.fieldLink RX0 22 "MistHeaps$Chances" "hits" "[[I") kc_tryLast_3) (fun _ h9 => h9) rfl dX0_tryLast_28 ?_
                  refine lv_iload_n hx hb dX0_tryLast_31 rfl (lv_at hl 3 rfl) ?_
                  refine va_alda hx hb hK hP 2 1 rfl rfl (vp_in_nI (n := 6) (N := 8) (by omega) (by omega)) dX0_tryLast_32 ?_
                  refine qq_as (v := .ref (rh 6)) (rfl) ?_
                  refine lv_iload hx hb dX0_tryLast_33 (lv_at hl 5 rfl) ?_
                  refine va_iald hx hb hK hP 9 8 rfl rfl (vp_in_nI (n := i) (N := 36) (by omega) (by omega)) dX0_tryLast_35 ?_
                  refine qi_as (y := hv mk 6 i) ((show g6 (nI i).toNatClampNeg = g6 i from by rw [nI_clamp (by omega)]).trans (zh6 i (by omega))) ?_
                  refine lv_i2l (v := (hv mk 6 i).toInt64) hx hb dX0_tryLast_36 (rfl) ?_
                  refine lv_lmul hx hb dX0_tryLast_37 ?_
                  refine lv_ladd hx hb dX0_tryLast_38 ?_
                  refine lv_lstore (lv' := [(4, .long (S + ((lN (20 ^ k)) * ((hv mk 6 i).toInt64)))), (0, .ref ch), (1, .ref fa), (2, .int (nI r0)), (3, .int 6), (6, .int (nI i))]) hx hb dX0_tryLast_39 hl (by decide) rfl (fun ls hl => ?_)
                  refine lv_iinc (v := nI (i + 1)) (lv' := [(6, .int (nI (i + 1))), (4, .long (S + ((lN (20 ^ k)) * ((hv mk 6 i).toInt64)))), (0, .ref ch), (1, .ref fa), (2, .int (nI r0)), (3, .int 6)]) hx hb dX0_tryLast_41 hl (k := 5) rfl (nI_add i 1) (by decide) rfl (fun ls hl => ?_)
                  refine lv_goto (tgt := 14) hx hb dX0_tryLast_44 (by decide) ?_
                  exact ih14 _ _ (by omega) (by omega) (sum_put hip hs) _ _ (hK.sub [0, 1, 2, 3, 4, 5, 6, 7, 8, 9] rfl) (hP.sub [0, 1, 2, 3, 4, 5, 6, 7, 8, 9, 10] rfl) (hD.sub [0, 1, 2, 3, 4, 5, 6, 7, 8, 9, 10] (by decide) rfl) hS ls (lv_sub hl [2, 3, 4, 5, 1, 0] rfl)
                · skip
                  refine lv_lload hx hb dX0_tryLast_21 (lv_at hl 4 rfl) ?_
                  refine lv_aload_n hx hb dX0_tryLast_23 rfl (lv_at hl 1 rfl) ?_
                  refine lv_iload hx hb dX0_tryLast_24 (lv_at hl 5 rfl) ?_
                  refine va_lald hx hb hK hP 1 0 rfl rfl (vp_in_nI (n := i) (N := 36) (by omega) (by omega)) dX0_tryLast_26 ?_
                  refine ql_as (y := 0) ((show ff (nI i).toNatClampNeg = ff i from by rw [nI_clamp (by omega)]).trans (by rw [zO i (by omega), ind, if_neg hip])) ?_
                  refine lv_aload_n hx hb dX0_tryLast_27 rfl (lv_at hl 0 rfl) ?_
                  refine va_get (D := (dC, dI)) (ci := 2) (v := .ref hO) (C := RX0) (T := TX0) (N := 5) hx hb hts kc_tryLast_0 hown hK hP 0 rfl rfl 4 (by decide) (hts (.fieldLink RX0 22 "MistHeaps$Chances" "hits" "[[I") kc_tryLast_3) (fun _ h9 => h9) rfl dX0_tryLast_28 ?_
                  refine lv_iload_n hx hb dX0_tryLast_31 rfl (lv_at hl 3 rfl) ?_
                  refine va_alda hx hb hK hP 2 1 rfl rfl (vp_in_nI (n := 6) (N := 8) (by omega) (by omega)) dX0_tryLast_32 ?_
                  refine qq_as (v := .ref (rh 6)) (rfl) ?_
                  refine lv_iload hx hb dX0_tryLast_33 (lv_at hl 5 rfl) ?_
                  refine va_iald hx hb hK hP 9 8 rfl rfl (vp_in_nI (n := i) (N := 36) (by omega) (by omega)) dX0_tryLast_35 ?_
                  refine qi_as (y := hv mk 6 i) ((show g6 (nI i).toNatClampNeg = g6 i from by rw [nI_clamp (by omega)]).trans (zh6 i (by omega))) ?_
                  refine lv_i2l (v := (hv mk 6 i).toInt64) hx hb dX0_tryLast_36 (rfl) ?_
                  refine lv_lmul hx hb dX0_tryLast_37 ?_
                  refine ql_as (y := 0) (Int64.zero_mul) ?_
                  refine lv_ladd hx hb dX0_tryLast_38 ?_
                  refine ql_as (y := S) (Int64.add_zero _) ?_
                  refine lv_lstore (lv' := [(4, .long S), (0, .ref ch), (1, .ref fa), (2, .int (nI r0)), (3, .int 6), (6, .int (nI i))]) hx hb dX0_tryLast_39 hl (by decide) rfl (fun ls hl => ?_)
                  refine lv_iinc (v := nI (i + 1)) (lv' := [(6, .int (nI (i + 1))), (4, .long S), (0, .ref ch), (1, .ref fa), (2, .int (nI r0)), (3, .int 6)]) hx hb dX0_tryLast_41 hl (k := 5) rfl (nI_add i 1) (by decide) rfl (fun ls hl => ?_)
                  refine lv_goto (tgt := 14) hx hb dX0_tryLast_44 (by decide) ?_
                  exact ih14 _ _ (by omega) (by omega) (sum_skip hip hs) _ _ (hK.sub [0, 1, 2, 3, 4, 5, 6, 7, 8, 9] rfl) (hP.sub [0, 1, 2, 3, 4, 5, 6, 7, 8, 9, 10] rfl) (hD.sub [0, 1, 2, 3, 4, 5, 6, 7, 8, 9, 10] (by decide) rfl) hS ls (lv_sub hl [2, 3, 4, 5, 1, 0] rfl)
          exact L14 _ (0) _ (Nat.lt_succ_self _) (by omega) (by rw [if_neg (Nat.not_lt_zero _)]) _ _ (hK.sub [0, 1, 2, 3, 4, 5, 6, 7, 8, 9] rfl) (hP.sub [0, 1, 2, 3, 4, 5, 6, 7, 8, 9, 10] rfl) (hD.sub [0, 1, 2, 3, 4, 5, 6, 7, 8, 9, 10] (by decide) rfl) hS ls (lv_sub hl [2, 3, 4, 5, 1, 0] rfl)
        · skip
          refine lv_lconst (v := 0) hx hb dX0_tryLast_8 (by decide) ?_
          refine lv_lstore (lv' := [(4, .long 0), (0, .ref ch), (1, .ref fa), (2, .int (nI r0)), (3, .int 7)]) hx hb dX0_tryLast_9 hl (by decide) rfl (fun ls hl => ?_)
          refine lv_iconst (v := 0) hx hb dX0_tryLast_11 (by decide) ?_
          refine lv_istore (lv' := [(6, .int 0), (4, .long 0), (0, .ref ch), (1, .ref fa), (2, .int (nI r0)), (3, .int 7)]) hx hb dX0_tryLast_12 hl (by decide) rfl (fun ls hl => ?_)
          have L14 : ∀ (nF : Nat) (i : Nat) (S : Int64), 36 - i < nF → (i ≤ 36) → (S = if pj < i then tv k mk pj 7 else 0) → ∀ (H : Heap) (locs : List Loc), va_K (dC, dI) vwCl [(cA1, .long), (cHO, .array .int), (cH, .int), (cH, .int), (cH, .int), (cH, .int), (cH, .int), (cH, .int), (cH, .int), (cH, .int)] s → va_P (dC, dI) vwCl [(ch, .inr (2, [.long aa, .int bb, .ref dr, .ref tO, .ref hO])), (fa, .inl (cA1, 36, .inr (.inl ff))), (hO, .inl (cHO, 8, .inr (.inr (.inr (.inr (fun i => if i < 8 then some (rh i) else none)))))), ((rh 0), .inl (cH, 36, .inl g0)), ((rh 1), .inl (cH, 36, .inl g1)), ((rh 2), .inl (cH, 36, .inl g2)), ((rh 3), .inl (cH, 36, .inl g3)), ((rh 4), .inl (cH, 36, .inl g4)), ((rh 5), .inl (cH, 36, .inl g5)), ((rh 6), .inl (cH, 36, .inl g6)), ((rh 7), .inl (cH, 36, .inl g7))] H → va_D A [(ch, .inr (2, [.long aa, .int bb, .ref dr, .ref tO, .ref hO])), (fa, .inl (cA1, 36, .inr (.inl ff))), (hO, .inl (cHO, 8, .inr (.inr (.inr (.inr (fun i => if i < 8 then some (rh i) else none)))))), ((rh 0), .inl (cH, 36, .inl g0)), ((rh 1), .inl (cH, 36, .inl g1)), ((rh 2), .inl (cH, 36, .inl g2)), ((rh 3), .inl (cH, 36, .inl g3)), ((rh 4), .inl (cH, 36, .inl g4)), ((rh 5), .inl (cH, 36, .inl g5)), ((rh 6), .inl (cH, 36, .inl g6)), ((rh 7), .inl (cH, 36, .inl g7))] → va_S A s.heap H locs → ∀ (ls : Array Slot), lv_has ls 7 [(0, .ref ch), (1, .ref fa), (2, .int (nI r0)), (3, .int 7), (4, .long S), (6, .int (nI i))] → W p l e ({ frames := 0, cells := 0, slots := 0, locals := 0 } : Room) s m args below meth c H locs 0 0 Q (F0 m 14 ls []) := by
            intro nF
            induction nF with
            | zero => intro i S hm; exact absurd hm (Nat.not_lt_zero _)
            | succ nF ih14 =>
              intro i S hm hi2 hs H locs hK hP hD hS ls hl
              refine lv_iload hx hb dX0_tryLast_14 (lv_at hl 5 rfl) ?_
              refine lv_bipush (v := 36) hx hb dX0_tryLast_16 (by decide) ?_
              refine lv_icmp_ge (tgt := 47) hx hb dX0_tryLast_18 (by decide) (fun c_16 => ?_) (fun c_16 => ?_)
              · skip
                have c_16 : 36 ≤ i := (nI_leI (a := 36) (b := i) (by omega) (by omega)).mp c_16
                have hsv : v (r0 * 8 + 7) = S := by rw [zv 7 (by omega), hs, if_pos (by omega)]
                refine lv_lload hx hb dX0_tryLast_47 (lv_at hl 4 rfl) ?_
                refine lv_aload_n hx hb dX0_tryLast_49 rfl (lv_at hl 0 rfl) ?_
                refine va_get (D := (dC, dI)) (ci := 2) (v := .long aa) (C := RX0) (T := TX0) (N := 5) hx hb hts kc_tryLast_0 hown hK hP 0 rfl rfl 0 (by decide) (hts (.fieldLink RX0 66 "MistHeaps$Chances" "foundTimes" "J") kc_tryLast_1) (fun _ h9 => h9) rfl dX0_tryLast_50 ?_
                refine W.lcmp hx hb dX0_tryLast_53 ?_
                refine lv_if_le (tgt := 73) hx hb dX0_tryLast_54 (by decide) (fun c_17 => ?_) (fun c_17 => ?_)
                · skip
                  rw [lg_cmp_le] at c_17
                  refine lv_iinc (v := 8) (lv' := [(3, .int 8), (0, .ref ch), (1, .ref fa), (2, .int (nI r0)), (4, .long S), (6, .int (nI i))]) hx hb dX0_tryLast_73 hl (k := 3) rfl (by decide) (by decide) rfl (fun ls hl => ?_)
                  refine lv_goto (tgt := 2) hx hb dX0_tryLast_76 (by decide) ?_
                  exact ih2 (8) _ _ (by omega) (by omega) (GJ_keep hj hsv c_17) _ _ (hK.sub [0, 1, 2, 3, 4, 5, 6, 7, 8, 9] rfl) (hP.sub [0, 1, 2, 3, 4, 5, 6, 7, 8, 9, 10] rfl) (hD.sub [0, 1, 2, 3, 4, 5, 6, 7, 8, 9, 10] (by decide) rfl) hS ls (lv_sub hl [1, 2, 3, 0] rfl)
                · skip
                  rw [lg_cmp_le] at c_17
                  refine lv_aload_n hx hb dX0_tryLast_57 rfl (lv_at hl 0 rfl) ?_
                  refine lv_lload hx hb dX0_tryLast_58 (lv_at hl 4 rfl) ?_
                  refine va_put (D := (dC, dI)) (ci := 2) (v := .long S) (ty := .long) (C := RX0) (T := TX0) (N := 5) hx hb hts kc_tryLast_0 tyX0 tyX0_ok nmX0 hown hK hP hD hS 0 rfl rfl 0 (by decide) (hts (.fieldLink RX0 66 "MistHeaps$Chances" "foundTimes" "J") kc_tryLast_1) (fun _ h9 => h9) rfl (by decide +kernel) rfl rfl (Nat.le_of_ble_eq_true rfl) dX0_tryLast_60 (fun H locs hP hD hS => ?_)
                  have hP : va_P (dC, dI) vwCl [(ch, .inr (2, [.long S, .int bb, .ref dr, .ref tO, .ref hO])), (fa, .inl (cA1, 36, .inr (.inl ff))), (hO, .inl (cHO, 8, .inr (.inr (.inr (.inr (fun i => if i < 8 then some (rh i) else none)))))), ((rh 0), .inl (cH, 36, .inl g0)), ((rh 1), .inl (cH, 36, .inl g1)), ((rh 2), .inl (cH, 36, .inl g2)), ((rh 3), .inl (cH, 36, .inl g3)), ((rh 4), .inl (cH, 36, .inl g4)), ((rh 5), .inl (cH, 36, .inl g5)), ((rh 6), .inl (cH, 36, .inl g6)), ((rh 7), .inl (cH, 36, .inl g7))] H := hP
                  have hD : va_D A [(ch, .inr (2, [.long S, .int bb, .ref dr, .ref tO, .ref hO])), (fa, .inl (cA1, 36, .inr (.inl ff))), (hO, .inl (cHO, 8, .inr (.inr (.inr (.inr (fun i => if i < 8 then some (rh i) else none)))))), ((rh 0), .inl (cH, 36, .inl g0)), ((rh 1), .inl (cH, 36, .inl g1)), ((rh 2), .inl (cH, 36, .inl g2)), ((rh 3), .inl (cH, 36, .inl g3)), ((rh 4), .inl (cH, 36, .inl g4)), ((rh 5), .inl (cH, 36, .inl g5)), ((rh 6), .inl (cH, 36, .inl g6)), ((rh 7), .inl (cH, 36, .inl g7))] := hD
                  refine lv_aload_n hx hb dX0_tryLast_63 rfl (lv_at hl 0 rfl) ?_
                  refine lv_iload_n hx hb dX0_tryLast_64 rfl (lv_at hl 2 rfl) ?_
                  refine lv_bipush (v := 8) hx hb dX0_tryLast_65 (by decide) ?_
                  refine lv_imul hx hb dX0_tryLast_67 ?_
                  refine qi_as (y := nI (r0 * 8)) (pk_mul r0 8) ?_
                  refine lv_iload_n hx hb dX0_tryLast_68 rfl (lv_at hl 3 rfl) ?_
                  refine lv_iadd hx hb dX0_tryLast_69 ?_
                  refine qi_as (y := nI ((r0 * 8) + 7)) (nI_add (r0 * 8) 7) ?_
                  refine va_put (D := (dC, dI)) (ci := 2) (v := .int (nI ((r0 * 8) + 7))) (ty := .int) (C := RX0) (T := TX0) (N := 5) hx hb hts kc_tryLast_0 tyX0 tyX0_ok nmX0 hown hK hP hD hS 0 rfl rfl 1 (by decide) (hts (.fieldLink RX0 77 "MistHeaps$Chances" "foundRow" "I") kc_tryLast_2) (fun _ h9 => h9) rfl (by decide +kernel) rfl rfl (Nat.le_of_ble_eq_true rfl) dX0_tryLast_70 (fun H locs hP hD hS => ?_)
                  have hP : va_P (dC, dI) vwCl [(ch, .inr (2, [.long S, .int (nI ((r0 * 8) + 7)), .ref dr, .ref tO, .ref hO])), (fa, .inl (cA1, 36, .inr (.inl ff))), (hO, .inl (cHO, 8, .inr (.inr (.inr (.inr (fun i => if i < 8 then some (rh i) else none)))))), ((rh 0), .inl (cH, 36, .inl g0)), ((rh 1), .inl (cH, 36, .inl g1)), ((rh 2), .inl (cH, 36, .inl g2)), ((rh 3), .inl (cH, 36, .inl g3)), ((rh 4), .inl (cH, 36, .inl g4)), ((rh 5), .inl (cH, 36, .inl g5)), ((rh 6), .inl (cH, 36, .inl g6)), ((rh 7), .inl (cH, 36, .inl g7))] H := hP
                  have hD : va_D A [(ch, .inr (2, [.long S, .int (nI ((r0 * 8) + 7)), .ref dr, .ref tO, .ref hO])), (fa, .inl (cA1, 36, .inr (.inl ff))), (hO, .inl (cHO, 8, .inr (.inr (.inr (.inr (fun i => if i < 8 then some (rh i) else none)))))), ((rh 0), .inl (cH, 36, .inl g0)), ((rh 1), .inl (cH, 36, .inl g1)), ((rh 2), .inl (cH, 36, .inl g2)), ((rh 3), .inl (cH, 36, .inl g3)), ((rh 4), .inl (cH, 36, .inl g4)), ((rh 5), .inl (cH, 36, .inl g5)), ((rh 6), .inl (cH, 36, .inl g6)), ((rh 7), .inl (cH, 36, .inl g7))] := hD
                  refine lv_iinc (v := 8) (lv' := [(3, .int 8), (0, .ref ch), (1, .ref fa), (2, .int (nI r0)), (4, .long S), (6, .int (nI i))]) hx hb dX0_tryLast_73 hl (k := 3) rfl (by decide) (by decide) rfl (fun ls hl => ?_)
                  refine lv_goto (tgt := 2) hx hb dX0_tryLast_76 (by decide) ?_
                  exact ih2 (8) _ _ (by omega) (by omega) (GJ_up hj hsv c_17) _ _ (hK.sub [0, 1, 2, 3, 4, 5, 6, 7, 8, 9] rfl) (hP.sub [0, 1, 2, 3, 4, 5, 6, 7, 8, 9, 10] rfl) (hD.sub [0, 1, 2, 3, 4, 5, 6, 7, 8, 9, 10] (by decide) rfl) hS ls (lv_sub hl [1, 2, 3, 0] rfl)
              · skip
                have c_16 : ¬ 36 ≤ i := fun q => c_16 ((nI_leI (a := 36) (b := i) (by omega) (by omega)).mpr q)
                by_cases hip : i = pj
                · skip
                  refine lv_lload hx hb dX0_tryLast_21 (lv_at hl 4 rfl) ?_
                  refine lv_aload_n hx hb dX0_tryLast_23 rfl (lv_at hl 1 rfl) ?_
                  refine lv_iload hx hb dX0_tryLast_24 (lv_at hl 5 rfl) ?_
                  refine va_lald hx hb hK hP 1 0 rfl rfl (vp_in_nI (n := i) (N := 36) (by omega) (by omega)) dX0_tryLast_26 ?_
                  refine ql_as (y := lN (20 ^ k)) ((show ff (nI i).toNatClampNeg = ff i from by rw [nI_clamp (by omega)]).trans (by rw [zO i (by omega), ind, if_pos hip])) ?_
                  refine lv_aload_n hx hb dX0_tryLast_27 rfl (lv_at hl 0 rfl) ?_
                  refine va_get (D := (dC, dI)) (ci := 2) (v := .ref hO) (C := RX0) (T := TX0) (N := 5) hx hb hts kc_tryLast_0 hown hK hP 0 rfl rfl 4 (by decide) (hts (.fieldLink RX0 22 "MistHeaps$Chances" "hits" "[[I") kc_tryLast_3) (fun _ h9 => h9) rfl dX0_tryLast_28 ?_
                  refine lv_iload_n hx hb dX0_tryLast_31 rfl (lv_at hl 3 rfl) ?_
                  refine va_alda hx hb hK hP 2 1 rfl rfl (vp_in_nI (n := 7) (N := 8) (by omega) (by omega)) dX0_tryLast_32 ?_
                  refine qq_as (v := .ref (rh 7)) (rfl) ?_
                  refine lv_iload hx hb dX0_tryLast_33 (lv_at hl 5 rfl) ?_
                  refine va_iald hx hb hK hP 10 9 rfl rfl (vp_in_nI (n := i) (N := 36) (by omega) (by omega)) dX0_tryLast_35 ?_
                  refine qi_as (y := hv mk 7 i) ((show g7 (nI i).toNatClampNeg = g7 i from by rw [nI_clamp (by omega)]).trans (zh7 i (by omega))) ?_
                  refine lv_i2l (v := (hv mk 7 i).toInt64) hx hb dX0_tryLast_36 (rfl) ?_
                  refine lv_lmul hx hb dX0_tryLast_37 ?_
                  refine lv_ladd hx hb dX0_tryLast_38 ?_
                  refine lv_lstore (lv' := [(4, .long (S + ((lN (20 ^ k)) * ((hv mk 7 i).toInt64)))), (0, .ref ch), (1, .ref fa), (2, .int (nI r0)), (3, .int 7), (6, .int (nI i))]) hx hb dX0_tryLast_39 hl (by decide) rfl (fun ls hl => ?_)
                  refine lv_iinc (v := nI (i + 1)) (lv' := [(6, .int (nI (i + 1))), (4, .long (S + ((lN (20 ^ k)) * ((hv mk 7 i).toInt64)))), (0, .ref ch), (1, .ref fa), (2, .int (nI r0)), (3, .int 7)]) hx hb dX0_tryLast_41 hl (k := 5) rfl (nI_add i 1) (by decide) rfl (fun ls hl => ?_)
                  refine lv_goto (tgt := 14) hx hb dX0_tryLast_44 (by decide) ?_
                  exact ih14 _ _ (by omega) (by omega) (sum_put hip hs) _ _ (hK.sub [0, 1, 2, 3, 4, 5, 6, 7, 8, 9] rfl) (hP.sub [0, 1, 2, 3, 4, 5, 6, 7, 8, 9, 10] rfl) (hD.sub [0, 1, 2, 3, 4, 5, 6, 7, 8, 9, 10] (by decide) rfl) hS ls (lv_sub hl [2, 3, 4, 5, 1, 0] rfl)
                · skip
                  refine lv_lload hx hb dX0_tryLast_21 (lv_at hl 4 rfl) ?_
                  refine lv_aload_n hx hb dX0_tryLast_23 rfl (lv_at hl 1 rfl) ?_
                  refine lv_iload hx hb dX0_tryLast_24 (lv_at hl 5 rfl) ?_
                  refine va_lald hx hb hK hP 1 0 rfl rfl (vp_in_nI (n := i) (N := 36) (by omega) (by omega)) dX0_tryLast_26 ?_
                  refine ql_as (y := 0) ((show ff (nI i).toNatClampNeg = ff i from by rw [nI_clamp (by omega)]).trans (by rw [zO i (by omega), ind, if_neg hip])) ?_
                  refine lv_aload_n hx hb dX0_tryLast_27 rfl (lv_at hl 0 rfl) ?_
                  refine va_get (D := (dC, dI)) (ci := 2) (v := .ref hO) (C := RX0) (T := TX0) (N := 5) hx hb hts kc_tryLast_0 hown hK hP 0 rfl rfl 4 (by decide) (hts (.fieldLink RX0 22 "MistHeaps$Chances" "hits" "[[I") kc_tryLast_3) (fun _ h9 => h9) rfl dX0_tryLast_28 ?_
                  refine lv_iload_n hx hb dX0_tryLast_31 rfl (lv_at hl 3 rfl) ?_
                  refine va_alda hx hb hK hP 2 1 rfl rfl (vp_in_nI (n := 7) (N := 8) (by omega) (by omega)) dX0_tryLast_32 ?_
                  refine qq_as (v := .ref (rh 7)) (rfl) ?_
                  refine lv_iload hx hb dX0_tryLast_33 (lv_at hl 5 rfl) ?_
                  refine va_iald hx hb hK hP 10 9 rfl rfl (vp_in_nI (n := i) (N := 36) (by omega) (by omega)) dX0_tryLast_35 ?_
                  refine qi_as (y := hv mk 7 i) ((show g7 (nI i).toNatClampNeg = g7 i from by rw [nI_clamp (by omega)]).trans (zh7 i (by omega))) ?_
                  refine lv_i2l (v := (hv mk 7 i).toInt64) hx hb dX0_tryLast_36 (rfl) ?_
                  refine lv_lmul hx hb dX0_tryLast_37 ?_
                  refine ql_as (y := 0) (Int64.zero_mul) ?_
                  refine lv_ladd hx hb dX0_tryLast_38 ?_
                  refine ql_as (y := S) (Int64.add_zero _) ?_
                  refine lv_lstore (lv' := [(4, .long S), (0, .ref ch), (1, .ref fa), (2, .int (nI r0)), (3, .int 7), (6, .int (nI i))]) hx hb dX0_tryLast_39 hl (by decide) rfl (fun ls hl => ?_)
                  refine lv_iinc (v := nI (i + 1)) (lv' := [(6, .int (nI (i + 1))), (4, .long S), (0, .ref ch), (1, .ref fa), (2, .int (nI r0)), (3, .int 7)]) hx hb dX0_tryLast_41 hl (k := 5) rfl (nI_add i 1) (by decide) rfl (fun ls hl => ?_)
                  refine lv_goto (tgt := 14) hx hb dX0_tryLast_44 (by decide) ?_
                  exact ih14 _ _ (by omega) (by omega) (sum_skip hip hs) _ _ (hK.sub [0, 1, 2, 3, 4, 5, 6, 7, 8, 9] rfl) (hP.sub [0, 1, 2, 3, 4, 5, 6, 7, 8, 9, 10] rfl) (hD.sub [0, 1, 2, 3, 4, 5, 6, 7, 8, 9, 10] (by decide) rfl) hS ls (lv_sub hl [2, 3, 4, 5, 1, 0] rfl)
          exact L14 _ (0) _ (Nat.lt_succ_self _) (by omega) (by rw [if_neg (Nat.not_lt_zero _)]) _ _ (hK.sub [0, 1, 2, 3, 4, 5, 6, 7, 8, 9] rfl) (hP.sub [0, 1, 2, 3, 4, 5, 6, 7, 8, 9, 10] rfl) (hD.sub [0, 1, 2, 3, 4, 5, 6, 7, 8, 9, 10] (by decide) rfl) hS ls (lv_sub hl [2, 3, 4, 5, 1, 0] rfl)
  exact L2 _ (0) _ _ (Nat.lt_succ_self _) (by omega) (zg) _ _ (hK.sub [0, 1, 2, 3, 4, 5, 6, 7, 8, 9] rfl) (hP.sub [0, 1, 2, 3, 4, 5, 6, 7, 8, 9, 10] rfl) (hD.sub [0, 1, 2, 3, 4, 5, 6, 7, 8, 9, 10] (by decide) rfl) hS ls (lv_sub hl [1, 2, 3, 0] rfl)

theorem kc_foundWay_0 : ∀ w ∈ wsX00, w ∈ wsX0_foundWay := by decide +kernel
theorem kc_foundWay_1 : (.fieldLink RX0 77 "MistHeaps$Chances" "foundRow" "I" : Cond) ∈ wsX0_foundWay := by decide +kernel
set_option maxHeartbeats 4000000 in
set_option maxRecDepth 100000 in
theorem c_foundWay (l : Launch) (dC : Nat → ClassId) (dI : Nat → Nat → Nat) (ch dr tO hO : Nat) (ft : Int64) (b n k : Nat) (zb : b < 512) (zk : k < n) (zn : n ≤ 3) : Met l yX0_foundWay wsX0_foundWay ({ frames := 0, cells := 0, slots := 0, locals := 0 } : Room) (va_Pc [.ref ch, .int (nI n), .int (nI k)] (fun U => va_P (dC, dI) vwCl [(ch, .inr (2, [.long ft, .int (nI b), .ref dr, .ref tO, .ref hO]))] U.heap ∧ va_K (dC, dI) vwCl [] U)) (vp_Si (fun r => r = nI (wy b n k))) 0 0 (fun _ => False) := by
  refine met_ofQ (cc := cX0_foundWay) (maxL := 3) (ret := (some .int)) (by decide) rfl ?_
  intro p e s m args below meth c s₁ Q B hml hv hQ
  obtain ⟨rfl, hP, hK⟩ := hv
  have hx := B.exec
  have hb := B.bytes
  have hr := B.returns
  have hts := atoms_spec (ws := wsX0_foundWay) B.pre
  have hown : s.vm.findClass RX0 = some m.cls := findClass_of_methodNamed B.named
  have hlocks := B.notSynchronized
  obtain ⟨A, hAe⟩ : ∃ A : Nat → Prop, A = fun _ => False := ⟨_, rfl⟩
  rw [← hAe] at hQ
  have hS : va_S A s.heap s.heap [] := va_S.rf
  have hl := lv_entry [.ref ch, .int (nI n), .int (nI k)] (n := 3) (Nat.le_of_ble_eq_true rfl)
  rw [lg_entry_eq]
  generalize (lg_sl [.ref ch, .int (nI n), .int (nI k)] ++ List.replicate (3 - (lg_sl [.ref ch, .int (nI n), .int (nI k)]).length) Slot.unset).toArray = ls at hl ⊢
  generalize hag : ([.ref ch, .int (nI n), .int (nI k)] : List Value).toArray = args at hts hQ ⊢
  have hl : lv_has ls 3 [(0, .ref ch), (1, .int (nI n)), (2, .int (nI k))] := hl
  rcases wy_6 zn zk with ⟨rfl, rfl⟩ | ⟨rfl, rfl⟩ | ⟨rfl, rfl⟩ | ⟨rfl, rfl⟩ | ⟨rfl, rfl⟩ | ⟨rfl, rfl⟩
  · skip
    refine lv_aload_n hx hb dX0_foundWay_0 rfl (lv_at hl 0 rfl) ?_
    refine va_get (D := (dC, dI)) (ci := 2) (v := .int (nI b)) (C := RX0) (T := TX0) (N := 5) hx hb hts kc_foundWay_0 hown hK hP 0 rfl rfl 1 (by decide) (hts (.fieldLink RX0 77 "MistHeaps$Chances" "foundRow" "I") kc_foundWay_1) (fun _ h9 => h9) rfl dX0_foundWay_1 ?_
    refine lv_iconst (v := 3) hx hb dX0_foundWay_4 (by decide) ?_
    refine lv_iload_n hx hb dX0_foundWay_5 rfl (lv_at hl 1 rfl) ?_
    refine lv_iconst (v := 1) hx hb dX0_foundWay_6 (by decide) ?_
    refine lv_isub hx hb dX0_foundWay_7 ?_
    refine qi_as (y := 0) (by decide) ?_
    refine lv_iload_n hx hb dX0_foundWay_8 rfl (lv_at hl 2 rfl) ?_
    refine lv_isub hx hb dX0_foundWay_9 ?_
    refine qi_as (y := 0) (by decide) ?_
    refine lv_imul hx hb dX0_foundWay_10 ?_
    refine qi_as (y := 0) (by decide) ?_
    refine lv_ishr hx hb dX0_foundWay_11 ?_
    refine qi_as (y := nI (b / 2 ^ 0)) (pk_shrN (by omega) _ 0 (by decide)) ?_
    refine lv_bipush (v := 7) hx hb dX0_foundWay_12 (by decide) ?_
    refine lv_iand hx hb dX0_foundWay_14 ?_
    refine qi_as (y := nI (b / 2 ^ 0 % 2 ^ 3)) (pk_andN (by omega) 3 (by decide)) ?_
    rw [hQ]
    exact W.iret (v := nI (b / 2 ^ 0 % 2 ^ 3)) hx hb hr (fun tQ htQ hWQ => ⟨nI (b / 2 ^ 0 % 2 ^ 3), rfl, by simp only [wy]; first | (congr 1; done) | (congr 1; simp; done) | (congr 1; simp; omega) | (congr 1; omega), by rw [htQ]⟩) (fun q hq => absurd hq List.not_mem_nil) dX0_foundWay_15
  · skip
    refine lv_aload_n hx hb dX0_foundWay_0 rfl (lv_at hl 0 rfl) ?_
    refine va_get (D := (dC, dI)) (ci := 2) (v := .int (nI b)) (C := RX0) (T := TX0) (N := 5) hx hb hts kc_foundWay_0 hown hK hP 0 rfl rfl 1 (by decide) (hts (.fieldLink RX0 77 "MistHeaps$Chances" "foundRow" "I") kc_foundWay_1) (fun _ h9 => h9) rfl dX0_foundWay_1 ?_
    refine lv_iconst (v := 3) hx hb dX0_foundWay_4 (by decide) ?_
    refine lv_iload_n hx hb dX0_foundWay_5 rfl (lv_at hl 1 rfl) ?_
    refine lv_iconst (v := 1) hx hb dX0_foundWay_6 (by decide) ?_
    refine lv_isub hx hb dX0_foundWay_7 ?_
    refine qi_as (y := 1) (by decide) ?_
    refine lv_iload_n hx hb dX0_foundWay_8 rfl (lv_at hl 2 rfl) ?_
    refine lv_isub hx hb dX0_foundWay_9 ?_
    refine qi_as (y := 1) (by decide) ?_
    refine lv_imul hx hb dX0_foundWay_10 ?_
    refine qi_as (y := 3) (by decide) ?_
    refine lv_ishr hx hb dX0_foundWay_11 ?_
    refine qi_as (y := nI (b / 2 ^ 3)) (pk_shrN (by omega) _ 3 (by decide)) ?_
    refine lv_bipush (v := 7) hx hb dX0_foundWay_12 (by decide) ?_
    refine lv_iand hx hb dX0_foundWay_14 ?_
    refine qi_as (y := nI (b / 2 ^ 3 % 2 ^ 3)) (pk_andN (by omega) 3 (by decide)) ?_
    rw [hQ]
    exact W.iret (v := nI (b / 2 ^ 3 % 2 ^ 3)) hx hb hr (fun tQ htQ hWQ => ⟨nI (b / 2 ^ 3 % 2 ^ 3), rfl, by simp only [wy]; first | (congr 1; done) | (congr 1; simp; done) | (congr 1; simp; omega) | (congr 1; omega), by rw [htQ]⟩) (fun q hq => absurd hq List.not_mem_nil) dX0_foundWay_15
  · skip
    refine lv_aload_n hx hb dX0_foundWay_0 rfl (lv_at hl 0 rfl) ?_
    refine va_get (D := (dC, dI)) (ci := 2) (v := .int (nI b)) (C := RX0) (T := TX0) (N := 5) hx hb hts kc_foundWay_0 hown hK hP 0 rfl rfl 1 (by decide) (hts (.fieldLink RX0 77 "MistHeaps$Chances" "foundRow" "I") kc_foundWay_1) (fun _ h9 => h9) rfl dX0_foundWay_1 ?_
    refine lv_iconst (v := 3) hx hb dX0_foundWay_4 (by decide) ?_
    refine lv_iload_n hx hb dX0_foundWay_5 rfl (lv_at hl 1 rfl) ?_
    refine lv_iconst (v := 1) hx hb dX0_foundWay_6 (by decide) ?_
    refine lv_isub hx hb dX0_foundWay_7 ?_
    refine qi_as (y := 1) (by decide) ?_
    refine lv_iload_n hx hb dX0_foundWay_8 rfl (lv_at hl 2 rfl) ?_
    refine lv_isub hx hb dX0_foundWay_9 ?_
    refine qi_as (y := 0) (by decide) ?_
    refine lv_imul hx hb dX0_foundWay_10 ?_
    refine qi_as (y := 0) (by decide) ?_
    refine lv_ishr hx hb dX0_foundWay_11 ?_
    refine qi_as (y := nI (b / 2 ^ 0)) (pk_shrN (by omega) _ 0 (by decide)) ?_
    refine lv_bipush (v := 7) hx hb dX0_foundWay_12 (by decide) ?_
    refine lv_iand hx hb dX0_foundWay_14 ?_
    refine qi_as (y := nI (b / 2 ^ 0 % 2 ^ 3)) (pk_andN (by omega) 3 (by decide)) ?_
    rw [hQ]
    exact W.iret (v := nI (b / 2 ^ 0 % 2 ^ 3)) hx hb hr (fun tQ htQ hWQ => ⟨nI (b / 2 ^ 0 % 2 ^ 3), rfl, by simp only [wy]; first | (congr 1; done) | (congr 1; simp; done) | (congr 1; simp; omega) | (congr 1; omega), by rw [htQ]⟩) (fun q hq => absurd hq List.not_mem_nil) dX0_foundWay_15
  · skip
    refine lv_aload_n hx hb dX0_foundWay_0 rfl (lv_at hl 0 rfl) ?_
    refine va_get (D := (dC, dI)) (ci := 2) (v := .int (nI b)) (C := RX0) (T := TX0) (N := 5) hx hb hts kc_foundWay_0 hown hK hP 0 rfl rfl 1 (by decide) (hts (.fieldLink RX0 77 "MistHeaps$Chances" "foundRow" "I") kc_foundWay_1) (fun _ h9 => h9) rfl dX0_foundWay_1 ?_
    refine lv_iconst (v := 3) hx hb dX0_foundWay_4 (by decide) ?_
    refine lv_iload_n hx hb dX0_foundWay_5 rfl (lv_at hl 1 rfl) ?_
    refine lv_iconst (v := 1) hx hb dX0_foundWay_6 (by decide) ?_
    refine lv_isub hx hb dX0_foundWay_7 ?_
    refine qi_as (y := 2) (by decide) ?_
    refine lv_iload_n hx hb dX0_foundWay_8 rfl (lv_at hl 2 rfl) ?_
    refine lv_isub hx hb dX0_foundWay_9 ?_
    refine qi_as (y := 2) (by decide) ?_
    refine lv_imul hx hb dX0_foundWay_10 ?_
    refine qi_as (y := 6) (by decide) ?_
    refine lv_ishr hx hb dX0_foundWay_11 ?_
    refine qi_as (y := nI (b / 2 ^ 6)) (pk_shrN (by omega) _ 6 (by decide)) ?_
    refine lv_bipush (v := 7) hx hb dX0_foundWay_12 (by decide) ?_
    refine lv_iand hx hb dX0_foundWay_14 ?_
    refine qi_as (y := nI (b / 2 ^ 6 % 2 ^ 3)) (pk_andN (by omega) 3 (by decide)) ?_
    rw [hQ]
    exact W.iret (v := nI (b / 2 ^ 6 % 2 ^ 3)) hx hb hr (fun tQ htQ hWQ => ⟨nI (b / 2 ^ 6 % 2 ^ 3), rfl, by simp only [wy]; first | (congr 1; done) | (congr 1; simp; done) | (congr 1; simp; omega) | (congr 1; omega), by rw [htQ]⟩) (fun q hq => absurd hq List.not_mem_nil) dX0_foundWay_15
  · skip
    refine lv_aload_n hx hb dX0_foundWay_0 rfl (lv_at hl 0 rfl) ?_
    refine va_get (D := (dC, dI)) (ci := 2) (v := .int (nI b)) (C := RX0) (T := TX0) (N := 5) hx hb hts kc_foundWay_0 hown hK hP 0 rfl rfl 1 (by decide) (hts (.fieldLink RX0 77 "MistHeaps$Chances" "foundRow" "I") kc_foundWay_1) (fun _ h9 => h9) rfl dX0_foundWay_1 ?_
    refine lv_iconst (v := 3) hx hb dX0_foundWay_4 (by decide) ?_
    refine lv_iload_n hx hb dX0_foundWay_5 rfl (lv_at hl 1 rfl) ?_
    refine lv_iconst (v := 1) hx hb dX0_foundWay_6 (by decide) ?_
    refine lv_isub hx hb dX0_foundWay_7 ?_
    refine qi_as (y := 2) (by decide) ?_
    refine lv_iload_n hx hb dX0_foundWay_8 rfl (lv_at hl 2 rfl) ?_
    refine lv_isub hx hb dX0_foundWay_9 ?_
    refine qi_as (y := 1) (by decide) ?_
    refine lv_imul hx hb dX0_foundWay_10 ?_
    refine qi_as (y := 3) (by decide) ?_
    refine lv_ishr hx hb dX0_foundWay_11 ?_
    refine qi_as (y := nI (b / 2 ^ 3)) (pk_shrN (by omega) _ 3 (by decide)) ?_
    refine lv_bipush (v := 7) hx hb dX0_foundWay_12 (by decide) ?_
    refine lv_iand hx hb dX0_foundWay_14 ?_
    refine qi_as (y := nI (b / 2 ^ 3 % 2 ^ 3)) (pk_andN (by omega) 3 (by decide)) ?_
    rw [hQ]
    exact W.iret (v := nI (b / 2 ^ 3 % 2 ^ 3)) hx hb hr (fun tQ htQ hWQ => ⟨nI (b / 2 ^ 3 % 2 ^ 3), rfl, by simp only [wy]; first | (congr 1; done) | (congr 1; simp; done) | (congr 1; simp; omega) | (congr 1; omega), by rw [htQ]⟩) (fun q hq => absurd hq List.not_mem_nil) dX0_foundWay_15
  · skip
    refine lv_aload_n hx hb dX0_foundWay_0 rfl (lv_at hl 0 rfl) ?_
    refine va_get (D := (dC, dI)) (ci := 2) (v := .int (nI b)) (C := RX0) (T := TX0) (N := 5) hx hb hts kc_foundWay_0 hown hK hP 0 rfl rfl 1 (by decide) (hts (.fieldLink RX0 77 "MistHeaps$Chances" "foundRow" "I") kc_foundWay_1) (fun _ h9 => h9) rfl dX0_foundWay_1 ?_
    refine lv_iconst (v := 3) hx hb dX0_foundWay_4 (by decide) ?_
    refine lv_iload_n hx hb dX0_foundWay_5 rfl (lv_at hl 1 rfl) ?_
    refine lv_iconst (v := 1) hx hb dX0_foundWay_6 (by decide) ?_
    refine lv_isub hx hb dX0_foundWay_7 ?_
    refine qi_as (y := 2) (by decide) ?_
    refine lv_iload_n hx hb dX0_foundWay_8 rfl (lv_at hl 2 rfl) ?_
    refine lv_isub hx hb dX0_foundWay_9 ?_
    refine qi_as (y := 0) (by decide) ?_
    refine lv_imul hx hb dX0_foundWay_10 ?_
    refine qi_as (y := 0) (by decide) ?_
    refine lv_ishr hx hb dX0_foundWay_11 ?_
    refine qi_as (y := nI (b / 2 ^ 0)) (pk_shrN (by omega) _ 0 (by decide)) ?_
    refine lv_bipush (v := 7) hx hb dX0_foundWay_12 (by decide) ?_
    refine lv_iand hx hb dX0_foundWay_14 ?_
    refine qi_as (y := nI (b / 2 ^ 0 % 2 ^ 3)) (pk_andN (by omega) 3 (by decide)) ?_
    rw [hQ]
    exact W.iret (v := nI (b / 2 ^ 0 % 2 ^ 3)) hx hb hr (fun tQ htQ hWQ => ⟨nI (b / 2 ^ 0 % 2 ^ 3), rfl, by simp only [wy]; first | (congr 1; done) | (congr 1; simp; done) | (congr 1; simp; omega) | (congr 1; omega), by rw [htQ]⟩) (fun q hq => absurd hq List.not_mem_nil) dX0_foundWay_15
