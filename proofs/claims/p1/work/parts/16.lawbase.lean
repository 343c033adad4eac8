theorem dL_law_1111 : decode cL_law 1111 = .ok (.iinc 3 5, 3) := by decide +kernel
theorem dL_law_1114 : decode cL_law 1114 = .ok (.goto (-1096), 3) := by decide +kernel
theorem dL_law_18 : decode cL_law 18 = .ok (.iload_n 3, 1) := by decide +kernel
theorem dL_law_19 : decode cL_law 19 = .ok (.aload_n 0, 1) := by decide +kernel
theorem dL_law_20 : decode cL_law 20 = .ok (.arraylength, 1) := by decide +kernel
theorem dL_law_21 : decode cL_law 21 = .ok (.iconst 5, 1) := by decide +kernel
theorem dL_law_22 : decode cL_law 22 = .ok (.isub, 1) := by decide +kernel
theorem dL_law_23 : decode cL_law 23 = .ok (.if_icmp .gt 1094, 3) := by decide +kernel
theorem dL_law_1117 : decode cL_law 1117 = .ok (.iconst 1, 1) := by decide +kernel
theorem dL_law_1118 : decode cL_law 1118 = .ok (.ireturn, 1) := by decide +kernel
set_option maxHeartbeats 4000000 in
set_option maxRecDepth 100000 in
/-- behind a call that both answer alike: the script has no further one -/
theorem law_end {p : Program} {l : Launch} {e : Env} {s : State} {m : MethodId} {below : List Frame} {meth : Method} {c : Code} {b : Nat} {xs : Nat → Int32} {A : Nat → Prop} (hAe : A = fun q => s.heap.size ≤ q) (C0 : lw_At p s m meth c b 5 xs) {k n : Nat} (hk : k ≤ 600000) (hn : n ≤ 7302250) {H : Heap} {locs : List Loc} (hS : va_S A s.heap H locs) {ls : Array Slot} (hl : lv_has ls 4 [(0, .ref b), (3, .int 0)]) : W p l e room_1 s m #[Value.ref b] below meth c H locs k n (lw_Z below #[Value.ref b] s) (F0 m 1111 ls []) := by
  obtain ⟨hx, hb, hr, hml, hown, hts0, hX, hbl, hlocks, hgv⟩ := id C0
  have hb : c.code = cL_law := hb
  have hbA : ¬ A b := by rw [hAe]; exact Nat.not_le.mpr hbl
  refine lv_iinc (v := 5) (lv' := [(3, .int 5), (0, .ref b)]) hx hb dL_law_1111 hl (k := 1) rfl (by decide) (by decide) rfl (fun ls hl => ?_)
  refine lv_goto (tgt := 18) hx hb dL_law_1114 (by decide) ?_
  refine lv_iload_n hx hb dL_law_18 rfl (lv_at hl 0 rfl) ?_
  refine lv_aload_n hx hb dL_law_19 rfl (lv_at hl 1 rfl) ?_
  refine va_slen hx hb hX hbl hbA hS dL_law_20 ?_
  refine lv_iconst (v := 5) hx hb dL_law_21 (by decide) ?_
  refine lv_isub hx hb dL_law_22 ?_
  refine lv_icmp_gt (tgt := 1117) hx hb dL_law_23 (by decide) (fun _ => ?_) (fun c1 => absurd c1 (not_not_intro (by decide)))
  refine lv_iconst (v := 1) hx hb dL_law_1117 (by decide) ?_
  refine va_forget (fun q hq => by have := hS.2.2 q hq; rw [hAe] at this; exact this) ?_
  refine W.widen (k := 600000) (n := 7302250) hk hn ?_
  exact lw_ret hx hb hr hlocks dL_law_1118

theorem nestW_in : ∀ w ∈ nestW, w ∈ lw_tbl := by decide +kernel
theorem castW_in : ∀ w ∈ castW, w ∈ lw_tbl := by decide +kernel
set_option maxHeartbeats 8000000 in
set_option maxRecDepth 100000 in
/-- what the Statement gives of the start: the static rows, the links, the texts -/
theorem law_glob {p : Program} {s : State} {m : MethodId} {meth : Method} {c : Code} {b L : Nat} {xs : Nat → Int32} {A : Nat → Prop} (hAe : A = fun q => s.heap.size ≤ q) (C0 : lw_At p s m meth c b L xs) : ∃ (gd : Nat → Nat) (bS : Nat) (sK sV : Nat → Nat), Gl gd A s ∧ Gc bS A s ∧ Gs sK sV A s := by
  obtain ⟨hx, hb, hr, hml, hown, hts0, hX, hbl, hlocks, hgv⟩ := id C0
  have hs := flat_of_before _ hgv
  have hAl : ∀ a : Nat, a < s.heap.size → ¬ A a := fun a h => by rw [hAe]; exact Nat.not_le.mpr h
  obtain ⟨tD, etD, TtD⟩ := va_Tof (args := #[Value.ref b]) (s := s) (tm := (Term.static "MistHeaps" "DOWN" "[I")) (ty := .int) (N := 8) (f := fun k => .int (fDown k)) (A := A) (by decide) (hs (.arrayOf (Term.static "MistHeaps" "DOWN" "[I") .int) (by decide +kernel)) (va_eqt (hs (.eq (.length (Term.static "MistHeaps" "DOWN" "[I")) (.int 8)) (by decide +kernel))) (fun j hj => by
    match j, hj with
    | 0, _ => exact va_eqt (hs (.eq (.elem (Term.static "MistHeaps" "DOWN" "[I") (.int 0)) (.int (-1))) (by decide +kernel))
    | 1, _ => exact va_eqt (hs (.eq (.elem (Term.static "MistHeaps" "DOWN" "[I") (.int 1)) (.int (-1))) (by decide +kernel))
    | 2, _ => exact va_eqt (hs (.eq (.elem (Term.static "MistHeaps" "DOWN" "[I") (.int 2)) (.int (0))) (by decide +kernel))
    | 3, _ => exact va_eqt (hs (.eq (.elem (Term.static "MistHeaps" "DOWN" "[I") (.int 3)) (.int (1))) (by decide +kernel))
    | 4, _ => exact va_eqt (hs (.eq (.elem (Term.static "MistHeaps" "DOWN" "[I") (.int 4)) (.int (1))) (by decide +kernel))
    | 5, _ => exact va_eqt (hs (.eq (.elem (Term.static "MistHeaps" "DOWN" "[I") (.int 5)) (.int (1))) (by decide +kernel))
    | 6, _ => exact va_eqt (hs (.eq (.elem (Term.static "MistHeaps" "DOWN" "[I") (.int 6)) (.int (0))) (by decide +kernel))
    | 7, _ => exact va_eqt (hs (.eq (.elem (Term.static "MistHeaps" "DOWN" "[I") (.int 7)) (.int (-1))) (by decide +kernel))
    | j + 8, hj => exact absurd hj (by omega)) hAl
  have ZtD := va_Zref (args := #[Value.ref b]) (s := s) (A := A) (hts0 (.laysStatic "MistHeaps" "DOWN" "[I") (by decide +kernel)) (hts0 (.initialized "MistHeaps") (by decide +kernel)) etD hAl
  obtain ⟨tR, etR, TtR⟩ := va_Tof (args := #[Value.ref b]) (s := s) (tm := (Term.static "MistHeaps" "RIGHT" "[I")) (ty := .int) (N := 8) (f := fun k => .int (fRight k)) (A := A) (by decide) (hs (.arrayOf (Term.static "MistHeaps" "RIGHT" "[I") .int) (by decide +kernel)) (va_eqt (hs (.eq (.length (Term.static "MistHeaps" "RIGHT" "[I")) (.int 8)) (by decide +kernel))) (fun j hj => by
    match j, hj with
    | 0, _ => exact va_eqt (hs (.eq (.elem (Term.static "MistHeaps" "RIGHT" "[I") (.int 0)) (.int (0))) (by decide +kernel))
    | 1, _ => exact va_eqt (hs (.eq (.elem (Term.static "MistHeaps" "RIGHT" "[I") (.int 1)) (.int (1))) (by decide +kernel))
    | 2, _ => exact va_eqt (hs (.eq (.elem (Term.static "MistHeaps" "RIGHT" "[I") (.int 2)) (.int (1))) (by decide +kernel))
    | 3, _ => exact va_eqt (hs (.eq (.elem (Term.static "MistHeaps" "RIGHT" "[I") (.int 3)) (.int (1))) (by decide +kernel))
    | 4, _ => exact va_eqt (hs (.eq (.elem (Term.static "MistHeaps" "RIGHT" "[I") (.int 4)) (.int (0))) (by decide +kernel))
    | 5, _ => exact va_eqt (hs (.eq (.elem (Term.static "MistHeaps" "RIGHT" "[I") (.int 5)) (.int (-1))) (by decide +kernel))
    | 6, _ => exact va_eqt (hs (.eq (.elem (Term.static "MistHeaps" "RIGHT" "[I") (.int 6)) (.int (-1))) (by decide +kernel))
    | 7, _ => exact va_eqt (hs (.eq (.elem (Term.static "MistHeaps" "RIGHT" "[I") (.int 7)) (.int (-1))) (by decide +kernel))
    | j + 8, hj => exact absurd hj (by omega)) hAl
  have ZtR := va_Zref (args := #[Value.ref b]) (s := s) (A := A) (hts0 (.laysStatic "MistHeaps" "RIGHT" "[I") (by decide +kernel)) (hts0 (.initialized "MistHeaps") (by decide +kernel)) etR hAl
  obtain ⟨bS, ebS, -⟩ := va_Tof (args := #[Value.ref b]) (s := s) (tm := Term.static "java/util/ArrayList" "DEFAULTCAPACITY_EMPTY_ELEMENTDATA" "[Ljava/lang/Object;") (ty := .object "java/lang/Object") (N := 0) (f := fun _ => .null) (A := A) (by decide) (hs (.arrayOf (Term.static "java/util/ArrayList" "DEFAULTCAPACITY_EMPTY_ELEMENTDATA" "[Ljava/lang/Object;") (.object "java/lang/Object")) (by decide +kernel)) (va_eqt (hs (.eq (.length (Term.static "java/util/ArrayList" "DEFAULTCAPACITY_EMPTY_ELEMENTDATA" "[Ljava/lang/Object;")) (.int 0)) (by decide +kernel))) (fun j hj => absurd hj (Nat.not_lt_zero j)) hAl
  have ZB := va_Zref (args := #[Value.ref b]) (s := s) (A := A) (hts0 (.laysStatic "java/util/ArrayList" "DEFAULTCAPACITY_EMPTY_ELEMENTDATA" "[Ljava/lang/Object;") (by decide +kernel)) (hts0 (.initialized "java/util/ArrayList") (by decide +kernel)) ebS hAl
  obtain ⟨sK, sV, hSt, heK⟩ := vk_Sof (args := #[Value.ref b]) (s := s) (N := 4) (tm := fun i => Term.string "MistHeaps$Hill" ([81, 83, 85, 87].getD i 0)) (len := [4, 5, 6, 6]) (byt := [[115, 101, 101, 32], [104, 105, 100, 101, 32], [115, 105, 103, 104, 116, 32], [100, 114, 105, 102, 116, 32]]) (A := A) (fun i hi => by
    match i, hi with
    | 0, _ => exact by decide
    | 1, _ => exact by decide
    | 2, _ => exact by decide
    | 3, _ => exact by decide
    | i + 4, hi => exact absurd hi (by omega)
    ) (fun i hi => by
    match i, hi with
    | 0, _ => exact hs (.exactly (Term.string "MistHeaps$Hill" 81) "java/lang/String") (by decide +kernel)
    | 1, _ => exact hs (.exactly (Term.string "MistHeaps$Hill" 83) "java/lang/String") (by decide +kernel)
    | 2, _ => exact hs (.exactly (Term.string "MistHeaps$Hill" 85) "java/lang/String") (by decide +kernel)
    | 3, _ => exact hs (.exactly (Term.string "MistHeaps$Hill" 87) "java/lang/String") (by decide +kernel)
    | i + 4, hi => exact absurd hi (by omega)
    ) (fun i hi => by
    match i, hi with
    | 0, _ => exact hs (.eq (.field (Term.string "MistHeaps$Hill" 81) "java/lang/String" "coder" "B") (.int 0)) (by decide +kernel)
    | 1, _ => exact hs (.eq (.field (Term.string "MistHeaps$Hill" 83) "java/lang/String" "coder" "B") (.int 0)) (by decide +kernel)
    | 2, _ => exact hs (.eq (.field (Term.string "MistHeaps$Hill" 85) "java/lang/String" "coder" "B") (.int 0)) (by decide +kernel)
    | 3, _ => exact hs (.eq (.field (Term.string "MistHeaps$Hill" 87) "java/lang/String" "coder" "B") (.int 0)) (by decide +kernel)
    | i + 4, hi => exact absurd hi (by omega)
    ) (fun i hi => by
    match i, hi with
    | 0, _ => exact hs (.arrayOf (.field (Term.string "MistHeaps$Hill" 81) "java/lang/String" "value" "[B") .byte) (by decide +kernel)
    | 1, _ => exact hs (.arrayOf (.field (Term.string "MistHeaps$Hill" 83) "java/lang/String" "value" "[B") .byte) (by decide +kernel)
    | 2, _ => exact hs (.arrayOf (.field (Term.string "MistHeaps$Hill" 85) "java/lang/String" "value" "[B") .byte) (by decide +kernel)
    | 3, _ => exact hs (.arrayOf (.field (Term.string "MistHeaps$Hill" 87) "java/lang/String" "value" "[B") .byte) (by decide +kernel)
    | i + 4, hi => exact absurd hi (by omega)
    ) (fun i hi => by
    match i, hi with
    | 0, _ => exact hs (.eq (.length (.field (Term.string "MistHeaps$Hill" 81) "java/lang/String" "value" "[B")) (.int 4)) (by decide +kernel)
    | 1, _ => exact hs (.eq (.length (.field (Term.string "MistHeaps$Hill" 83) "java/lang/String" "value" "[B")) (.int 5)) (by decide +kernel)
    | 2, _ => exact hs (.eq (.length (.field (Term.string "MistHeaps$Hill" 85) "java/lang/String" "value" "[B")) (.int 6)) (by decide +kernel)
    | 3, _ => exact hs (.eq (.length (.field (Term.string "MistHeaps$Hill" 87) "java/lang/String" "value" "[B")) (.int 6)) (by decide +kernel)
    | i + 4, hi => exact absurd hi (by omega)
    ) (fun i hi => by
    match i, hi with
    | 0, _ =>
      intro j hj
      match j, hj with
      | 0, _ => exact hs (.eq (.elem (.field (Term.string "MistHeaps$Hill" 81) "java/lang/String" "value" "[B") (.int 0)) (.int 115)) (by decide +kernel)
      | 1, _ => exact hs (.eq (.elem (.field (Term.string "MistHeaps$Hill" 81) "java/lang/String" "value" "[B") (.int 1)) (.int 101)) (by decide +kernel)
      | 2, _ => exact hs (.eq (.elem (.field (Term.string "MistHeaps$Hill" 81) "java/lang/String" "value" "[B") (.int 2)) (.int 101)) (by decide +kernel)
      | 3, _ => exact hs (.eq (.elem (.field (Term.string "MistHeaps$Hill" 81) "java/lang/String" "value" "[B") (.int 3)) (.int 32)) (by decide +kernel)
      | j + 4, hj => exact absurd hj (by simp)
    | 1, _ =>
      intro j hj
      match j, hj with
      | 0, _ => exact hs (.eq (.elem (.field (Term.string "MistHeaps$Hill" 83) "java/lang/String" "value" "[B") (.int 0)) (.int 104)) (by decide +kernel)
      | 1, _ => exact hs (.eq (.elem (.field (Term.string "MistHeaps$Hill" 83) "java/lang/String" "value" "[B") (.int 1)) (.int 105)) (by decide +kernel)
      | 2, _ => exact hs (.eq (.elem (.field (Term.string "MistHeaps$Hill" 83) "java/lang/String" "value" "[B") (.int 2)) (.int 100)) (by decide +kernel)
      | 3, _ => exact hs (.eq (.elem (.field (Term.string "MistHeaps$Hill" 83) "java/lang/String" "value" "[B") (.int 3)) (.int 101)) (by decide +kernel)
      | 4, _ => exact hs (.eq (.elem (.field (Term.string "MistHeaps$Hill" 83) "java/lang/String" "value" "[B") (.int 4)) (.int 32)) (by decide +kernel)
      | j + 5, hj => exact absurd hj (by simp)
    | 2, _ =>
      intro j hj
      match j, hj with
      | 0, _ => exact hs (.eq (.elem (.field (Term.string "MistHeaps$Hill" 85) "java/lang/String" "value" "[B") (.int 0)) (.int 115)) (by decide +kernel)
      | 1, _ => exact hs (.eq (.elem (.field (Term.string "MistHeaps$Hill" 85) "java/lang/String" "value" "[B") (.int 1)) (.int 105)) (by decide +kernel)
      | 2, _ => exact hs (.eq (.elem (.field (Term.string "MistHeaps$Hill" 85) "java/lang/String" "value" "[B") (.int 2)) (.int 103)) (by decide +kernel)
      | 3, _ => exact hs (.eq (.elem (.field (Term.string "MistHeaps$Hill" 85) "java/lang/String" "value" "[B") (.int 3)) (.int 104)) (by decide +kernel)
      | 4, _ => exact hs (.eq (.elem (.field (Term.string "MistHeaps$Hill" 85) "java/lang/String" "value" "[B") (.int 4)) (.int 116)) (by decide +kernel)
      | 5, _ => exact hs (.eq (.elem (.field (Term.string "MistHeaps$Hill" 85) "java/lang/String" "value" "[B") (.int 5)) (.int 32)) (by decide +kernel)
      | j + 6, hj => exact absurd hj (by simp)
    | 3, _ =>
      intro j hj
      match j, hj with
      | 0, _ => exact hs (.eq (.elem (.field (Term.string "MistHeaps$Hill" 87) "java/lang/String" "value" "[B") (.int 0)) (.int 100)) (by decide +kernel)
      | 1, _ => exact hs (.eq (.elem (.field (Term.string "MistHeaps$Hill" 87) "java/lang/String" "value" "[B") (.int 1)) (.int 114)) (by decide +kernel)
      | 2, _ => exact hs (.eq (.elem (.field (Term.string "MistHeaps$Hill" 87) "java/lang/String" "value" "[B") (.int 2)) (.int 105)) (by decide +kernel)
      | 3, _ => exact hs (.eq (.elem (.field (Term.string "MistHeaps$Hill" 87) "java/lang/String" "value" "[B") (.int 3)) (.int 102)) (by decide +kernel)
      | 4, _ => exact hs (.eq (.elem (.field (Term.string "MistHeaps$Hill" 87) "java/lang/String" "value" "[B") (.int 4)) (.int 116)) (by decide +kernel)
      | 5, _ => exact hs (.eq (.elem (.field (Term.string "MistHeaps$Hill" 87) "java/lang/String" "value" "[B") (.int 5)) (.int 32)) (by decide +kernel)
      | j + 6, hj => exact absurd hj (by simp)
    | i + 4, hi => exact absurd hi (by omega)
    ) (fun i j hi hj h => by
    match i, j, hi, hj, h with
    | 0, 0, _, _, h => exact absurd rfl h
    | 0, 1, _, _, h => exact Or.inl (hs (.not (.eq (Term.string "MistHeaps$Hill" 81) (Term.string "MistHeaps$Hill" 83))) (by decide +kernel))
    | 0, 2, _, _, h => exact Or.inl (hs (.not (.eq (Term.string "MistHeaps$Hill" 81) (Term.string "MistHeaps$Hill" 85))) (by decide +kernel))
    | 0, 3, _, _, h => exact Or.inl (hs (.not (.eq (Term.string "MistHeaps$Hill" 81) (Term.string "MistHeaps$Hill" 87))) (by decide +kernel))
    | 1, 0, _, _, h => exact Or.inr (hs (.not (.eq (Term.string "MistHeaps$Hill" 81) (Term.string "MistHeaps$Hill" 83))) (by decide +kernel))
    | 1, 1, _, _, h => exact absurd rfl h
    | 1, 2, _, _, h => exact Or.inl (hs (.not (.eq (Term.string "MistHeaps$Hill" 83) (Term.string "MistHeaps$Hill" 85))) (by decide +kernel))
    | 1, 3, _, _, h => exact Or.inl (hs (.not (.eq (Term.string "MistHeaps$Hill" 83) (Term.string "MistHeaps$Hill" 87))) (by decide +kernel))
    | 2, 0, _, _, h => exact Or.inr (hs (.not (.eq (Term.string "MistHeaps$Hill" 81) (Term.string "MistHeaps$Hill" 85))) (by decide +kernel))
    | 2, 1, _, _, h => exact Or.inr (hs (.not (.eq (Term.string "MistHeaps$Hill" 83) (Term.string "MistHeaps$Hill" 85))) (by decide +kernel))
    | 2, 2, _, _, h => exact absurd rfl h
    | 2, 3, _, _, h => exact Or.inl (hs (.not (.eq (Term.string "MistHeaps$Hill" 85) (Term.string "MistHeaps$Hill" 87))) (by decide +kernel))
    | 3, 0, _, _, h => exact Or.inr (hs (.not (.eq (Term.string "MistHeaps$Hill" 81) (Term.string "MistHeaps$Hill" 87))) (by decide +kernel))
    | 3, 1, _, _, h => exact Or.inr (hs (.not (.eq (Term.string "MistHeaps$Hill" 83) (Term.string "MistHeaps$Hill" 87))) (by decide +kernel))
    | 3, 2, _, _, h => exact Or.inr (hs (.not (.eq (Term.string "MistHeaps$Hill" 85) (Term.string "MistHeaps$Hill" 87))) (by decide +kernel))
    | 3, 3, _, _, h => exact absurd rfl h
    | i + 4, _, hi, _, _ => exact absurd hi (by omega)
    | _, j + 4, _, hj, _ => exact absurd hj (by omega)
    ) hAl
  refine ⟨fun k => if k = 0 then tD else tR, bS, sK, sV, ?_, ?_, ?_⟩
  · refine ⟨fun w hw => va_Nw.of (nestW_tab w hw) (hts0 w (nestW_in w hw)), ZtD, TtD, ZtR, TtR⟩
  · exact ⟨va_AO.of (hts0 (.arrayOver (.object "MistHeaps$Heap")) (by decide +kernel)), hts0 (.arrayOver (.array .long)) (by decide +kernel), hts0 (.arrayOver (.array .int)) (by decide +kernel), fun w hw => va_Nw.of (castW_tab w hw) (hts0 w (castW_in w hw)), ZB⟩
  · refine ⟨vk_R.of (A := #[Value.ref b]) (hts0 (.stringRef RX5 81 "see ") (by decide +kernel)) (heK 0 (by omega)), vk_R.of (A := #[Value.ref b]) (hts0 (.stringRef RX5 83 "hide ") (by decide +kernel)) (heK 1 (by omega)), vk_R.of (A := #[Value.ref b]) (hts0 (.stringRef RX5 85 "sight ") (by decide +kernel)) (heK 2 (by omega)), vk_R.of (A := #[Value.ref b]) (hts0 (.stringRef RX5 87 "drift ") (by decide +kernel)) (heK 3 (by omega)), fun i hi => ?_, va_Zof (args := #[Value.ref b]) (hts0 (.laysStatic "java/lang/String" "COMPACT_STRINGS" "Z") (by decide +kernel)) (hts0 (.initialized "java/lang/String") (by decide +kernel)) (va_eqi (hs (.eq (.static "java/lang/String" "COMPACT_STRINGS" "Z") (.int 1)) (by decide +kernel))) hAl⟩
    obtain ⟨a1, a2, a3, a4⟩ := hSt.1 i hi
    match i, hi with
    | 0, _ => exact ⟨a1, a2, a3, _, a4⟩
    | 1, _ => exact ⟨a1, a2, a3, _, a4⟩
    | 2, _ => exact ⟨a1, a2, a3, _, a4⟩
    | 3, _ => exact ⟨a1, a2, a3, _, a4⟩
    | i + 4, hi => exact absurd hi (by omega)