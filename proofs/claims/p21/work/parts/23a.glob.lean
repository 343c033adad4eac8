section mg23a

theorem tin_x7r : ∀ w ∈ s2W RX7 7 x7r yX3_reachBy wsX3_reachBy, w ∈ lw_tbl := by
  intro w hw
  rcases List.mem_append.mp hw with q | q
  · exact tb_of [674, 675, 622, 589, 659, 67] rfl rfl w q
  · exact wsL_law_in w (ggL_law_X11_of w (ggX11_of_X8_reachOf w (ggX8_reachOf_X3_reachBy w q).1).1).1

theorem tin_x7g : ∀ w ∈ s2W RX7 22 x7g yX3_doGoes wsX3_doGoes, w ∈ lw_tbl := by
  intro w hw
  rcases List.mem_append.mp hw with q | q
  · exact tb_of [1044, 1045, 622, 589, 1028, 67] rfl rfl w q
  · exact wsL_law_in w (ggL_law_X11_act w (ggX11_act_X3_doGoes w q).1).1

theorem tin_x9s : ∀ w ∈ s2W RX9 21 x9s yX3_doSees wsX3_doSees, w ∈ lw_tbl := by
  intro w hw
  rcases List.mem_append.mp hw with q | q
  · exact tb_of [1021, 1022, 611, 578, 920, 67] rfl rfl w q
  · exact wsL_law_in w (ggL_law_X11_act w (ggX11_act_X3_doSees w q).1).1

theorem tin_x10l : ∀ w ∈ s2W RX10 40 x10l yX3_doLooks wsX3_doLooks, w ∈ lw_tbl := by
  intro w hw
  rcases List.mem_append.mp hw with q | q
  · exact tb_of [1070, 1071, 600, 567, 1052, 67] rfl rfl w q
  · exact wsL_law_in w (ggL_law_X11_act w (ggX11_act_X3_doLooks w q).1).1

theorem tin_old : ∀ w ∈ oldW, w ∈ lw_tbl := List.forall_mem_append.mpr ⟨List.forall_mem_append.mpr ⟨tin_x7r, tin_x7g⟩, List.forall_mem_append.mpr ⟨tin_x9s, tin_x10l⟩⟩

theorem tin_b4 : ∀ w ∈ u2W RX4 17 xb4 yX3_begin wsX3_begin, w ∈ lw_tbl := by
  intro w hw
  rcases List.mem_append.mp hw with q | q
  · exact tb_of [927, 928, 929, 67] rfl rfl w q
  · exact wsL_law_in w (ggL_law_X11_act w (ggX11_act_X3_doSees w (ggX3_doSees_X3_begin w q).1).1).1

theorem tin_b6 : ∀ w ∈ u2W RX6 11 xb6 yX3_begin wsX3_begin, w ∈ lw_tbl := by
  intro w hw
  rcases List.mem_append.mp hw with q | q
  · exact tb_of [1036, 1037, 929, 67] rfl rfl w q
  · exact wsL_law_in w (ggL_law_X11_act w (ggX11_act_X3_doSees w (ggX3_doSees_X3_begin w q).1).1).1

theorem tin_b1 : ∀ w ∈ u2W RX1 7 xb1 yX3_begin wsX3_begin, w ∈ lw_tbl := by
  intro w hw
  rcases List.mem_append.mp hw with q | q
  · exact tb_of [1058, 1059, 929, 67] rfl rfl w q
  · exact wsL_law_in w (ggL_law_X11_act w (ggX11_act_X3_doSees w (ggX3_doSees_X3_begin w q).1).1).1

theorem tin_b9 : ∀ w ∈ u2W RX9 17 xb9 yX3_begin wsX3_begin, w ∈ lw_tbl := by
  intro w hw
  rcases List.mem_append.mp hw with q | q
  · exact tb_of [1019, 1020, 929, 67] rfl rfl w q
  · exact wsL_law_in w (ggL_law_X11_act w (ggX11_act_X3_doSees w (ggX3_doSees_X3_begin w q).1).1).1

theorem tin_b10 : ∀ w ∈ u2W RX10 36 xb10 yX3_begin wsX3_begin, w ∈ lw_tbl := by
  intro w hw
  rcases List.mem_append.mp hw with q | q
  · exact tb_of [1068, 1069, 929, 67] rfl rfl w q
  · exact wsL_law_in w (ggL_law_X11_act w (ggX11_act_X3_doSees w (ggX3_doSees_X3_begin w q).1).1).1

theorem tin_b7 : ∀ w ∈ u2W RX7 16 xb7 yX3_begin wsX3_begin, w ∈ lw_tbl := by
  intro w hw
  rcases List.mem_append.mp hw with q | q
  · exact tb_of [1042, 1043, 929, 67] rfl rfl w q
  · exact wsL_law_in w (ggL_law_X11_act w (ggX11_act_X3_doSees w (ggX3_doSees_X3_begin w q).1).1).1

theorem tin_beg : ∀ w ∈ begW, w ∈ lw_tbl := List.forall_mem_append.mpr ⟨tin_b4, List.forall_mem_append.mpr ⟨tin_b6, List.forall_mem_append.mpr ⟨tin_b1, List.forall_mem_append.mpr ⟨tin_b9, List.forall_mem_append.mpr ⟨tin_b10, tin_b7⟩⟩⟩⟩⟩

theorem nestW_in : ∀ w ∈ nestW, w ∈ lw_tbl := tb_of [641, 644, 698, 746, 752, 824, 839, 843] rfl rfl
theorem castW_in : ∀ w ∈ castW, w ∈ lw_tbl := tb_of [1559, 1560, 1561, 1562, 1563, 1564] rfl rfl
theorem nestF_in : ∀ w ∈ nestF, w ∈ lw_tbl := tb_of [744, 750, 1116] rfl rfl
end mg23a
section mg23a

noncomputable def andAt : List Bool → Jvm.Cond → Jvm.Cond
  | [], c => c
  | b :: p, c => match c with
    | .and x y => andAt p (bif b then y else x)
    | d => d
theorem andAt_before {args : Array Value} {s : State} : ∀ (p : List Bool) (T : Jvm.Cond), T.before args s = true → (andAt p T).before args s = true := by
  intro p
  induction p with
  | nil => intro T h; exact h
  | cons b p ih =>
    intro T h
    cases T with
    | and x y =>
      rw [Cond.before_and, Bool.and_eq_true] at h
      cases b
      · exact ih x h.1
      · exact ih y h.2
    | _ => exact h
theorem gv_at {args : Array Value} {s : State} {T : Jvm.Cond} (h : T.before args s = true) (p : List Bool) (w : Jvm.Cond) (e : andAt p T = w) : w.before args s = true := e ▸ andAt_before p T h
set_option maxHeartbeats 16000000 in
set_option maxRecDepth 100000 in
/-- what the Statement gives of the start: static rows, links, texts, boxes -/
theorem law_glob {p : Program} {s : State} {m : MethodId} {meth : Method} {c : Code} {b L : Nat} {xs : Nat → Int32} {A : Nat → Prop} (hAe : A = fun q => s.heap.size ≤ q) (C0 : lw_At p s m meth c b L xs) : ∃ (gd : Nat → Nat) (kA : Nat) (ad : Nat → Nat) (cB bS : Nat) (sK sV : Nat → Nat), GA gd kA ad cB bS sK sV A s := by
  obtain ⟨hx, hb, hr, hml, hown, hts0, hX, hbl, hlocks, hgv⟩ := id C0
  have hs := flat_of_before _ hgv
  have hAl : ∀ a : Nat, a < s.heap.size → ¬ A a := fun a h => by rw [hAe]; exact Nat.not_le.mpr h
  obtain ⟨tD, etD, TtD⟩ := va_Tof (args := #[Value.ref b]) (s := s) (tm := (Term.static "MistHeaps" "DOWN" "[I")) (ty := .int) (N := 8) (f := fun k => .int (fDown k)) (A := A) (by decide) (gv_at hgv [true, false, false, false, false, true, true, true, false] (.arrayOf (Term.static "MistHeaps" "DOWN" "[I") .int) rfl) (va_eqt (gv_at hgv [true, false, false, false, false, true, true, true, true] (.eq (.length (Term.static "MistHeaps" "DOWN" "[I")) (.int 8)) rfl)) (fun j hj => by
    match j, hj with
    | 0, _ => exact va_eqt (gv_at hgv [true, false, false, false, true, false, false, false] (.eq (.elem (Term.static "MistHeaps" "DOWN" "[I") (.int 0)) (.int (-1))) rfl)
    | 1, _ => exact va_eqt (gv_at hgv [true, false, false, false, true, false, false, true, false] (.eq (.elem (Term.static "MistHeaps" "DOWN" "[I") (.int 1)) (.int (-1))) rfl)
    | 2, _ => exact va_eqt (gv_at hgv [true, false, false, false, true, false, false, true, true] (.eq (.elem (Term.static "MistHeaps" "DOWN" "[I") (.int 2)) (.int (0))) rfl)
    | 3, _ => exact va_eqt (gv_at hgv [true, false, false, false, true, false, true, false, false] (.eq (.elem (Term.static "MistHeaps" "DOWN" "[I") (.int 3)) (.int (1))) rfl)
    | 4, _ => exact va_eqt (gv_at hgv [true, false, false, false, true, false, true, false, true] (.eq (.elem (Term.static "MistHeaps" "DOWN" "[I") (.int 4)) (.int (1))) rfl)
    | 5, _ => exact va_eqt (gv_at hgv [true, false, false, false, true, false, true, true, false] (.eq (.elem (Term.static "MistHeaps" "DOWN" "[I") (.int 5)) (.int (1))) rfl)
    | 6, _ => exact va_eqt (gv_at hgv [true, false, false, false, true, false, true, true, true] (.eq (.elem (Term.static "MistHeaps" "DOWN" "[I") (.int 6)) (.int (0))) rfl)
    | 7, _ => exact va_eqt (gv_at hgv [true, false, false, false, true, true, false, false, false] (.eq (.elem (Term.static "MistHeaps" "DOWN" "[I") (.int 7)) (.int (-1))) rfl)
    | j + 8, hj => exact absurd hj (by omega)) hAl
  have ZtD := va_Zref (args := #[Value.ref b]) (s := s) (A := A) (hts0 (.laysStatic "MistHeaps" "DOWN" "[I") (kl_of 745 rfl rfl)) (hts0 (.initialized "MistHeaps") (kl_of 63 rfl rfl)) etD hAl
  obtain ⟨tR, etR, TtR⟩ := va_Tof (args := #[Value.ref b]) (s := s) (tm := (Term.static "MistHeaps" "RIGHT" "[I")) (ty := .int) (N := 8) (f := fun k => .int (fRight k)) (A := A) (by decide) (gv_at hgv [true, false, false, false, true, true, false, true, false] (.arrayOf (Term.static "MistHeaps" "RIGHT" "[I") .int) rfl) (va_eqt (gv_at hgv [true, false, false, false, true, true, false, true, true] (.eq (.length (Term.static "MistHeaps" "RIGHT" "[I")) (.int 8)) rfl)) (fun j hj => by
    match j, hj with
    | 0, _ => exact va_eqt (gv_at hgv [true, false, false, false, true, true, true, false, false] (.eq (.elem (Term.static "MistHeaps" "RIGHT" "[I") (.int 0)) (.int (0))) rfl)
    | 1, _ => exact va_eqt (gv_at hgv [true, false, false, false, true, true, true, false, true] (.eq (.elem (Term.static "MistHeaps" "RIGHT" "[I") (.int 1)) (.int (1))) rfl)
    | 2, _ => exact va_eqt (gv_at hgv [true, false, false, false, true, true, true, true, false] (.eq (.elem (Term.static "MistHeaps" "RIGHT" "[I") (.int 2)) (.int (1))) rfl)
    | 3, _ => exact va_eqt (gv_at hgv [true, false, false, false, true, true, true, true, true] (.eq (.elem (Term.static "MistHeaps" "RIGHT" "[I") (.int 3)) (.int (1))) rfl)
    | 4, _ => exact va_eqt (gv_at hgv [true, false, false, true, false, false, false, false] (.eq (.elem (Term.static "MistHeaps" "RIGHT" "[I") (.int 4)) (.int (0))) rfl)
    | 5, _ => exact va_eqt (gv_at hgv [true, false, false, true, false, false, false, true, false] (.eq (.elem (Term.static "MistHeaps" "RIGHT" "[I") (.int 5)) (.int (-1))) rfl)
    | 6, _ => exact va_eqt (gv_at hgv [true, false, false, true, false, false, false, true, true] (.eq (.elem (Term.static "MistHeaps" "RIGHT" "[I") (.int 6)) (.int (-1))) rfl)
    | 7, _ => exact va_eqt (gv_at hgv [true, false, false, true, false, false, true, false, false] (.eq (.elem (Term.static "MistHeaps" "RIGHT" "[I") (.int 7)) (.int (-1))) rfl)
    | j + 8, hj => exact absurd hj (by omega)) hAl
  have ZtR := va_Zref (args := #[Value.ref b]) (s := s) (A := A) (hts0 (.laysStatic "MistHeaps" "RIGHT" "[I") (kl_of 751 rfl rfl)) (hts0 (.initialized "MistHeaps") (kl_of 63 rfl rfl)) etR hAl
  obtain ⟨tK, etK, TtK⟩ := va_Tof (args := #[Value.ref b]) (s := s) (tm := (Term.static "MistHeaps" "KIND_ABOVE" "[I")) (ty := .int) (N := 7) (f := fun k => .int (fAbove k)) (A := A) (by decide) (gv_at hgv [true, false, false, true, false, true, true, false, false] (.arrayOf (Term.static "MistHeaps" "KIND_ABOVE" "[I") .int) rfl) (va_eqt (gv_at hgv [true, false, false, true, false, true, true, false, true] (.eq (.length (Term.static "MistHeaps" "KIND_ABOVE" "[I")) (.int 7)) rfl)) (fun j hj => by
    match j, hj with
    | 0, _ => exact va_eqt (gv_at hgv [true, false, false, true, false, true, true, true, false] (.eq (.elem (Term.static "MistHeaps" "KIND_ABOVE" "[I") (.int 0)) (.int (-1))) rfl)
    | 1, _ => exact va_eqt (gv_at hgv [true, false, false, true, false, true, true, true, true] (.eq (.elem (Term.static "MistHeaps" "KIND_ABOVE" "[I") (.int 1)) (.int (0))) rfl)
    | 2, _ => exact va_eqt (gv_at hgv [true, false, false, true, true, false, false, false] (.eq (.elem (Term.static "MistHeaps" "KIND_ABOVE" "[I") (.int 2)) (.int (0))) rfl)
    | 3, _ => exact va_eqt (gv_at hgv [true, false, false, true, true, false, false, true, false] (.eq (.elem (Term.static "MistHeaps" "KIND_ABOVE" "[I") (.int 3)) (.int (0))) rfl)
    | 4, _ => exact va_eqt (gv_at hgv [true, false, false, true, true, false, false, true, true] (.eq (.elem (Term.static "MistHeaps" "KIND_ABOVE" "[I") (.int 4)) (.int (1))) rfl)
    | 5, _ => exact va_eqt (gv_at hgv [true, false, false, true, true, false, true, false, false] (.eq (.elem (Term.static "MistHeaps" "KIND_ABOVE" "[I") (.int 5)) (.int (2))) rfl)
    | 6, _ => exact va_eqt (gv_at hgv [true, false, false, true, true, false, true, false, true] (.eq (.elem (Term.static "MistHeaps" "KIND_ABOVE" "[I") (.int 6)) (.int (3))) rfl)
    | j + 7, hj => exact absurd hj (by omega)) hAl
  have ZtK := va_Zref (args := #[Value.ref b]) (s := s) (A := A) (hts0 (.laysStatic "MistHeaps" "KIND_ABOVE" "[I") (kl_of 1117 rfl rfl)) (hts0 (.initialized "MistHeaps") (kl_of 63 rfl rfl)) etK hAl
  obtain ⟨bS, ebS, TbS⟩ := va_Tof (args := #[Value.ref b]) (s := s) (tm := (Term.static "java/util/ArrayList" "DEFAULTCAPACITY_EMPTY_ELEMENTDATA" "[Ljava/lang/Object;")) (ty := .object "java/lang/Object") (N := 0) (f := fun _ => .null) (A := A) (by decide) (gv_at hgv [true, false, false, false, false, false, true, false, false] (.arrayOf (Term.static "java/util/ArrayList" "DEFAULTCAPACITY_EMPTY_ELEMENTDATA" "[Ljava/lang/Object;") (.object "java/lang/Object")) rfl) (va_eqt (gv_at hgv [true, false, false, false, false, false, true, true, false] (.eq (.length (Term.static "java/util/ArrayList" "DEFAULTCAPACITY_EMPTY_ELEMENTDATA" "[Ljava/lang/Object;")) (.int 0)) rfl)) (fun j hj => absurd hj (Nat.not_lt_zero j)) hAl
  have ZB := va_Zref (args := #[Value.ref b]) (s := s) (A := A) (hts0 (.laysStatic "java/util/ArrayList" "DEFAULTCAPACITY_EMPTY_ELEMENTDATA" "[Ljava/lang/Object;") (kl_of 315 rfl rfl)) (hts0 (.initialized "java/util/ArrayList") (kl_of 71 rfl rfl)) ebS hAl
  have hlen : (Term.length (Term.static "java/lang/Integer$IntegerCache" "cache" "[Ljava/lang/Integer;")).eval #[Value.ref b] s none [] s = some (.int (Int32.ofNat 256)) := va_eqt (gv_at hgv [true, false, false, true, false, true, false, false] (.eq (.length (Term.static "java/lang/Integer$IntegerCache" "cache" "[Ljava/lang/Integer;")) (.int 256)) rfl)
  obtain ⟨ad, hCc, hel⟩ := vb_Cof (args := #[Value.ref b]) (s := s) (A := A) (st := (Term.static "java/lang/Integer$IntegerCache" "cache" "[Ljava/lang/Integer;")) (by decide) hlen (gv_at hgv [true, false, false, true, false, true, false, true, false] (.all (Term.static "java/lang/Integer$IntegerCache" "cache" "[Ljava/lang/Integer;") (.and (.exactly (.elem (Term.static "java/lang/Integer$IntegerCache" "cache" "[Ljava/lang/Integer;") (.index 0)) "java/lang/Integer") (.eq (.field (.elem (Term.static "java/lang/Integer$IntegerCache" "cache" "[Ljava/lang/Integer;") (.index 0)) "java/lang/Integer" "value" "I") (.sub (.index 0) (.int 128))))) rfl) hAl
  obtain ⟨cB, ecB, TcB⟩ := va_Tof (args := #[Value.ref b]) (s := s) (tm := (Term.static "java/lang/Integer$IntegerCache" "cache" "[Ljava/lang/Integer;")) (ty := .object "java/lang/Integer") (N := 256) (f := fun k => .ref (ad k)) (A := A) (by decide) (gv_at hgv [true, false, false, true, false, false, true, true, true] (.arrayOf (Term.static "java/lang/Integer$IntegerCache" "cache" "[Ljava/lang/Integer;") (.object "java/lang/Integer")) rfl) hlen hel hAl
  have ZcB := va_Zref (args := #[Value.ref b]) (s := s) (A := A) (hts0 (.laysStatic "java/lang/Integer$IntegerCache" "cache" "[Ljava/lang/Integer;") (kl_of 941 rfl rfl)) (hts0 (.initialized "java/lang/Integer$IntegerCache") (kl_of 88 rfl rfl)) ecB hAl
  have Zhi := va_Zof (args := #[Value.ref b]) (s := s) (A := A) (hts0 (.laysStatic "java/lang/Integer$IntegerCache" "high" "I") (kl_of 939 rfl rfl)) (hts0 (.initialized "java/lang/Integer$IntegerCache") (kl_of 88 rfl rfl)) (va_eqi (gv_at hgv [true, false, false, true, false, false, true, false, true] (.eq (.static "java/lang/Integer$IntegerCache" "high" "I") (.int 127)) rfl)) hAl
  obtain ⟨k0, v0, hSt0, heK0⟩ := vk_Sof (args := #[Value.ref b]) (s := s) (N := 1) (tm := fun _ => (Term.string "MistHeaps$Hill" 81)) (len := [4]) (byt := [[115, 101, 101, 32]]) (A := A) (fun i hi => by obtain rfl : i = 0 := (by omega); decide) (fun i hi => by obtain rfl : i = 0 := (by omega); exact gv_at hgv [true, false, true, false, false, false, false, false] (.exactly (Term.string "MistHeaps$Hill" 81) "java/lang/String") rfl) (fun i hi => by obtain rfl : i = 0 := (by omega); exact gv_at hgv [true, false, true, false, false, false, false, true, false] (.eq (.field (Term.string "MistHeaps$Hill" 81) "java/lang/String" "coder" "B") (.int 0)) rfl) (fun i hi => by obtain rfl : i = 0 := (by omega); exact gv_at hgv [true, false, true, false, false, false, false, true, true] (.arrayOf (.field (Term.string "MistHeaps$Hill" 81) "java/lang/String" "value" "[B") .byte) rfl) (fun i hi => by obtain rfl : i = 0 := (by omega); exact gv_at hgv [true, false, true, false, false, false, true, false, false] (.eq (.length (.field (Term.string "MistHeaps$Hill" 81) "java/lang/String" "value" "[B")) (.int 4)) rfl) (fun i hi => by
    obtain rfl : i = 0 := (by omega)
    intro j hj
    match j, hj with
    | 0, _ => exact gv_at hgv [true, false, true, false, false, false, true, false, true] (.eq (.elem (.field (Term.string "MistHeaps$Hill" 81) "java/lang/String" "value" "[B") (.int 0)) (.int 115)) rfl
    | 1, _ => exact gv_at hgv [true, false, true, false, false, false, true, true, false] (.eq (.elem (.field (Term.string "MistHeaps$Hill" 81) "java/lang/String" "value" "[B") (.int 1)) (.int 101)) rfl
    | 2, _ => exact gv_at hgv [true, false, true, false, false, false, true, true, true] (.eq (.elem (.field (Term.string "MistHeaps$Hill" 81) "java/lang/String" "value" "[B") (.int 2)) (.int 101)) rfl
    | 3, _ => exact gv_at hgv [true, false, true, false, false, true, false, false] (.eq (.elem (.field (Term.string "MistHeaps$Hill" 81) "java/lang/String" "value" "[B") (.int 3)) (.int 32)) rfl
    | j + 4, hj => exact absurd hj (by simp)) (fun i j hi hj h => absurd (show i = j by omega) h) hAl
  obtain ⟨k1, v1, hSt1, heK1⟩ := vk_Sof (args := #[Value.ref b]) (s := s) (N := 1) (tm := fun _ => (Term.string "MistHeaps$Hill" 83)) (len := [5]) (byt := [[104, 105, 100, 101, 32]]) (A := A) (fun i hi => by obtain rfl : i = 0 := (by omega); decide) (fun i hi => by obtain rfl : i = 0 := (by omega); exact gv_at hgv [true, false, true, false, false, true, false, true, false] (.exactly (Term.string "MistHeaps$Hill" 83) "java/lang/String") rfl) (fun i hi => by obtain rfl : i = 0 := (by omega); exact gv_at hgv [true, false, true, false, false, true, false, true, true] (.eq (.field (Term.string "MistHeaps$Hill" 83) "java/lang/String" "coder" "B") (.int 0)) rfl) (fun i hi => by obtain rfl : i = 0 := (by omega); exact gv_at hgv [true, false, true, false, false, true, true, false, false] (.arrayOf (.field (Term.string "MistHeaps$Hill" 83) "java/lang/String" "value" "[B") .byte) rfl) (fun i hi => by obtain rfl : i = 0 := (by omega); exact gv_at hgv [true, false, true, false, false, true, true, false, true] (.eq (.length (.field (Term.string "MistHeaps$Hill" 83) "java/lang/String" "value" "[B")) (.int 5)) rfl) (fun i hi => by
    obtain rfl : i = 0 := (by omega)
    intro j hj
    match j, hj with
    | 0, _ => exact gv_at hgv [true, false, true, false, false, true, true, true, false] (.eq (.elem (.field (Term.string "MistHeaps$Hill" 83) "java/lang/String" "value" "[B") (.int 0)) (.int 104)) rfl
    | 1, _ => exact gv_at hgv [true, false, true, false, false, true, true, true, true] (.eq (.elem (.field (Term.string "MistHeaps$Hill" 83) "java/lang/String" "value" "[B") (.int 1)) (.int 105)) rfl
    | 2, _ => exact gv_at hgv [true, false, true, false, true, false, false, false] (.eq (.elem (.field (Term.string "MistHeaps$Hill" 83) "java/lang/String" "value" "[B") (.int 2)) (.int 100)) rfl
    | 3, _ => exact gv_at hgv [true, false, true, false, true, false, false, true, false] (.eq (.elem (.field (Term.string "MistHeaps$Hill" 83) "java/lang/String" "value" "[B") (.int 3)) (.int 101)) rfl
    | 4, _ => exact gv_at hgv [true, false, true, false, true, false, false, true, true] (.eq (.elem (.field (Term.string "MistHeaps$Hill" 83) "java/lang/String" "value" "[B") (.int 4)) (.int 32)) rfl
    | j + 5, hj => exact absurd hj (by simp)) (fun i j hi hj h => absurd (show i = j by omega) h) hAl
  obtain ⟨k2, v2, hSt2, heK2⟩ := vk_Sof (args := #[Value.ref b]) (s := s) (N := 1) (tm := fun _ => (Term.string "MistHeaps$Hill" 85)) (len := [6]) (byt := [[115, 105, 103, 104, 116, 32]]) (A := A) (fun i hi => by obtain rfl : i = 0 := (by omega); decide) (fun i hi => by obtain rfl : i = 0 := (by omega); exact gv_at hgv [true, false, true, false, true, false, true, false, true] (.exactly (Term.string "MistHeaps$Hill" 85) "java/lang/String") rfl) (fun i hi => by obtain rfl : i = 0 := (by omega); exact gv_at hgv [true, false, true, false, true, false, true, true, false] (.eq (.field (Term.string "MistHeaps$Hill" 85) "java/lang/String" "coder" "B") (.int 0)) rfl) (fun i hi => by obtain rfl : i = 0 := (by omega); exact gv_at hgv [true, false, true, false, true, false, true, true, true] (.arrayOf (.field (Term.string "MistHeaps$Hill" 85) "java/lang/String" "value" "[B") .byte) rfl) (fun i hi => by obtain rfl : i = 0 := (by omega); exact gv_at hgv [true, false, true, false, true, true, false, false, false] (.eq (.length (.field (Term.string "MistHeaps$Hill" 85) "java/lang/String" "value" "[B")) (.int 6)) rfl) (fun i hi => by
    obtain rfl : i = 0 := (by omega)
    intro j hj
    match j, hj with
    | 0, _ => exact gv_at hgv [true, false, true, false, true, true, false, false, true] (.eq (.elem (.field (Term.string "MistHeaps$Hill" 85) "java/lang/String" "value" "[B") (.int 0)) (.int 115)) rfl
    | 1, _ => exact gv_at hgv [true, false, true, false, true, true, false, true, false] (.eq (.elem (.field (Term.string "MistHeaps$Hill" 85) "java/lang/String" "value" "[B") (.int 1)) (.int 105)) rfl
    | 2, _ => exact gv_at hgv [true, false, true, false, true, true, false, true, true] (.eq (.elem (.field (Term.string "MistHeaps$Hill" 85) "java/lang/String" "value" "[B") (.int 2)) (.int 103)) rfl
    | 3, _ => exact gv_at hgv [true, false, true, false, true, true, true, false, false] (.eq (.elem (.field (Term.string "MistHeaps$Hill" 85) "java/lang/String" "value" "[B") (.int 3)) (.int 104)) rfl
    | 4, _ => exact gv_at hgv [true, false, true, false, true, true, true, false, true] (.eq (.elem (.field (Term.string "MistHeaps$Hill" 85) "java/lang/String" "value" "[B") (.int 4)) (.int 116)) rfl
    | 5, _ => exact gv_at hgv [true, false, true, false, true, true, true, true, false] (.eq (.elem (.field (Term.string "MistHeaps$Hill" 85) "java/lang/String" "value" "[B") (.int 5)) (.int 32)) rfl
    | j + 6, hj => exact absurd hj (by simp)) (fun i j hi hj h => absurd (show i = j by omega) h) hAl
  obtain ⟨k3, v3, hSt3, heK3⟩ := vk_Sof (args := #[Value.ref b]) (s := s) (N := 1) (tm := fun _ => (Term.string "MistHeaps$Hill" 87)) (len := [6]) (byt := [[100, 114, 105, 102, 116, 32]]) (A := A) (fun i hi => by obtain rfl : i = 0 := (by omega); decide) (fun i hi => by obtain rfl : i = 0 := (by omega); exact gv_at hgv [true, false, true, true, false, false, false, true, false] (.exactly (Term.string "MistHeaps$Hill" 87) "java/lang/String") rfl) (fun i hi => by obtain rfl : i = 0 := (by omega); exact gv_at hgv [true, false, true, true, false, false, false, true, true] (.eq (.field (Term.string "MistHeaps$Hill" 87) "java/lang/String" "coder" "B") (.int 0)) rfl) (fun i hi => by obtain rfl : i = 0 := (by omega); exact gv_at hgv [true, false, true, true, false, false, true, false, false] (.arrayOf (.field (Term.string "MistHeaps$Hill" 87) "java/lang/String" "value" "[B") .byte) rfl) (fun i hi => by obtain rfl : i = 0 := (by omega); exact gv_at hgv [true, false, true, true, false, false, true, false, true] (.eq (.length (.field (Term.string "MistHeaps$Hill" 87) "java/lang/String" "value" "[B")) (.int 6)) rfl) (fun i hi => by
    obtain rfl : i = 0 := (by omega)
    intro j hj
    match j, hj with
    | 0, _ => exact gv_at hgv [true, false, true, true, false, false, true, true, false] (.eq (.elem (.field (Term.string "MistHeaps$Hill" 87) "java/lang/String" "value" "[B") (.int 0)) (.int 100)) rfl
    | 1, _ => exact gv_at hgv [true, false, true, true, false, false, true, true, true] (.eq (.elem (.field (Term.string "MistHeaps$Hill" 87) "java/lang/String" "value" "[B") (.int 1)) (.int 114)) rfl
    | 2, _ => exact gv_at hgv [true, false, true, true, false, true, false, false] (.eq (.elem (.field (Term.string "MistHeaps$Hill" 87) "java/lang/String" "value" "[B") (.int 2)) (.int 105)) rfl
    | 3, _ => exact gv_at hgv [true, false, true, true, false, true, false, true, false] (.eq (.elem (.field (Term.string "MistHeaps$Hill" 87) "java/lang/String" "value" "[B") (.int 3)) (.int 102)) rfl
    | 4, _ => exact gv_at hgv [true, false, true, true, false, true, false, true, true] (.eq (.elem (.field (Term.string "MistHeaps$Hill" 87) "java/lang/String" "value" "[B") (.int 4)) (.int 116)) rfl
    | 5, _ => exact gv_at hgv [true, false, true, true, false, true, true, false, false] (.eq (.elem (.field (Term.string "MistHeaps$Hill" 87) "java/lang/String" "value" "[B") (.int 5)) (.int 32)) rfl
    | j + 6, hj => exact absurd hj (by simp)) (fun i j hi hj h => absurd (show i = j by omega) h) hAl
  obtain ⟨k4, v4, hSt4, heK4⟩ := vk_Sof (args := #[Value.ref b]) (s := s) (N := 1) (tm := fun _ => (Term.string "MistHeaps$Hill" 112)) (len := [6]) (byt := [[104, 107, 114, 99, 109, 115]]) (A := A) (fun i hi => by obtain rfl : i = 0 := (by omega); decide) (fun i hi => by obtain rfl : i = 0 := (by omega); exact gv_at hgv [true, false, true, true, true, false, false, false] (.exactly (Term.string "MistHeaps$Hill" 112) "java/lang/String") rfl) (fun i hi => by obtain rfl : i = 0 := (by omega); exact gv_at hgv [true, false, true, true, true, false, false, true, false] (.eq (.field (Term.string "MistHeaps$Hill" 112) "java/lang/String" "coder" "B") (.int 0)) rfl) (fun i hi => by obtain rfl : i = 0 := (by omega); exact gv_at hgv [true, false, true, true, true, false, false, true, true] (.arrayOf (.field (Term.string "MistHeaps$Hill" 112) "java/lang/String" "value" "[B") .byte) rfl) (fun i hi => by obtain rfl : i = 0 := (by omega); exact gv_at hgv [true, false, true, true, true, false, true, false, false] (.eq (.length (.field (Term.string "MistHeaps$Hill" 112) "java/lang/String" "value" "[B")) (.int 6)) rfl) (fun i hi => by
    obtain rfl : i = 0 := (by omega)
    intro j hj
    match j, hj with
    | 0, _ => exact gv_at hgv [true, false, true, true, true, false, true, false, true] (.eq (.elem (.field (Term.string "MistHeaps$Hill" 112) "java/lang/String" "value" "[B") (.int 0)) (.int 104)) rfl
    | 1, _ => exact gv_at hgv [true, false, true, true, true, false, true, true, false] (.eq (.elem (.field (Term.string "MistHeaps$Hill" 112) "java/lang/String" "value" "[B") (.int 1)) (.int 107)) rfl
    | 2, _ => exact gv_at hgv [true, false, true, true, true, false, true, true, true] (.eq (.elem (.field (Term.string "MistHeaps$Hill" 112) "java/lang/String" "value" "[B") (.int 2)) (.int 114)) rfl
    | 3, _ => exact gv_at hgv [true, false, true, true, true, true, false, false, false] (.eq (.elem (.field (Term.string "MistHeaps$Hill" 112) "java/lang/String" "value" "[B") (.int 3)) (.int 99)) rfl
    | 4, _ => exact gv_at hgv [true, false, true, true, true, true, false, false, true] (.eq (.elem (.field (Term.string "MistHeaps$Hill" 112) "java/lang/String" "value" "[B") (.int 4)) (.int 109)) rfl
    | 5, _ => exact gv_at hgv [true, false, true, true, true, true, false, true, false] (.eq (.elem (.field (Term.string "MistHeaps$Hill" 112) "java/lang/String" "value" "[B") (.int 5)) (.int 115)) rfl
    | j + 6, hj => exact absurd hj (by simp)) (fun i j hi hj h => absurd (show i = j by omega) h) hAl
  obtain ⟨k5, v5, hSt5, heK5⟩ := vk_Sof (args := #[Value.ref b]) (s := s) (N := 1) (tm := fun _ => (Term.string "MistHeaps$Hill" 118)) (len := [3]) (byt := [[60, 61, 62]]) (A := A) (fun i hi => by obtain rfl : i = 0 := (by omega); decide) (fun i hi => by obtain rfl : i = 0 := (by omega); exact gv_at hgv [true, false, true, true, true, true, true, true, true] (.exactly (Term.string "MistHeaps$Hill" 118) "java/lang/String") rfl) (fun i hi => by obtain rfl : i = 0 := (by omega); exact gv_at hgv [true, true, false, false, false, false, false, false] (.eq (.field (Term.string "MistHeaps$Hill" 118) "java/lang/String" "coder" "B") (.int 0)) rfl) (fun i hi => by obtain rfl : i = 0 := (by omega); exact gv_at hgv [true, true, false, false, false, false, false, true, false] (.arrayOf (.field (Term.string "MistHeaps$Hill" 118) "java/lang/String" "value" "[B") .byte) rfl) (fun i hi => by obtain rfl : i = 0 := (by omega); exact gv_at hgv [true, true, false, false, false, false, false, true, true] (.eq (.length (.field (Term.string "MistHeaps$Hill" 118) "java/lang/String" "value" "[B")) (.int 3)) rfl) (fun i hi => by
    obtain rfl : i = 0 := (by omega)
    intro j hj
    match j, hj with
    | 0, _ => exact gv_at hgv [true, true, false, false, false, false, true, false, false] (.eq (.elem (.field (Term.string "MistHeaps$Hill" 118) "java/lang/String" "value" "[B") (.int 0)) (.int 60)) rfl
    | 1, _ => exact gv_at hgv [true, true, false, false, false, false, true, false, true] (.eq (.elem (.field (Term.string "MistHeaps$Hill" 118) "java/lang/String" "value" "[B") (.int 1)) (.int 61)) rfl
    | 2, _ => exact gv_at hgv [true, true, false, false, false, false, true, true, false] (.eq (.elem (.field (Term.string "MistHeaps$Hill" 118) "java/lang/String" "value" "[B") (.int 2)) (.int 62)) rfl
    | j + 3, hj => exact absurd hj (by simp)) (fun i j hi hj h => absurd (show i = j by omega) h) hAl
  obtain ⟨k6, v6, hSt6, heK6⟩ := vk_Sof (args := #[Value.ref b]) (s := s) (N := 1) (tm := fun _ => (Term.string "MistHeapsModel" 101)) (len := [6]) (byt := [[104, 107, 114, 99, 109, 115]]) (A := A) (fun i hi => by obtain rfl : i = 0 := (by omega); decide) (fun i hi => by obtain rfl : i = 0 := (by omega); exact gv_at hgv [true, true, false, false, true, true, false, true, true] (.exactly (Term.string "MistHeapsModel" 101) "java/lang/String") rfl) (fun i hi => by obtain rfl : i = 0 := (by omega); exact gv_at hgv [true, true, false, false, true, true, true, false, false] (.eq (.field (Term.string "MistHeapsModel" 101) "java/lang/String" "coder" "B") (.int 0)) rfl) (fun i hi => by obtain rfl : i = 0 := (by omega); exact gv_at hgv [true, true, false, false, true, true, true, false, true] (.arrayOf (.field (Term.string "MistHeapsModel" 101) "java/lang/String" "value" "[B") .byte) rfl) (fun i hi => by obtain rfl : i = 0 := (by omega); exact gv_at hgv [true, true, false, false, true, true, true, true, false] (.eq (.length (.field (Term.string "MistHeapsModel" 101) "java/lang/String" "value" "[B")) (.int 6)) rfl) (fun i hi => by
    obtain rfl : i = 0 := (by omega)
    intro j hj
    match j, hj with
    | 0, _ => exact gv_at hgv [true, true, false, false, true, true, true, true, true] (.eq (.elem (.field (Term.string "MistHeapsModel" 101) "java/lang/String" "value" "[B") (.int 0)) (.int 104)) rfl
    | 1, _ => exact gv_at hgv [true, true, false, true, false, false, false, false] (.eq (.elem (.field (Term.string "MistHeapsModel" 101) "java/lang/String" "value" "[B") (.int 1)) (.int 107)) rfl
    | 2, _ => exact gv_at hgv [true, true, false, true, false, false, false, true, false] (.eq (.elem (.field (Term.string "MistHeapsModel" 101) "java/lang/String" "value" "[B") (.int 2)) (.int 114)) rfl
    | 3, _ => exact gv_at hgv [true, true, false, true, false, false, false, true, true] (.eq (.elem (.field (Term.string "MistHeapsModel" 101) "java/lang/String" "value" "[B") (.int 3)) (.int 99)) rfl
    | 4, _ => exact gv_at hgv [true, true, false, true, false, false, true, false, false] (.eq (.elem (.field (Term.string "MistHeapsModel" 101) "java/lang/String" "value" "[B") (.int 4)) (.int 109)) rfl
    | 5, _ => exact gv_at hgv [true, true, false, true, false, false, true, false, true] (.eq (.elem (.field (Term.string "MistHeapsModel" 101) "java/lang/String" "value" "[B") (.int 5)) (.int 115)) rfl
    | j + 6, hj => exact absurd hj (by simp)) (fun i j hi hj h => absurd (show i = j by omega) h) hAl
  obtain ⟨k7, v7, hSt7, heK7⟩ := vk_Sof (args := #[Value.ref b]) (s := s) (N := 1) (tm := fun _ => (Term.string "MistHeapsModel" 107)) (len := [3]) (byt := [[60, 61, 62]]) (A := A) (fun i hi => by obtain rfl : i = 0 := (by omega); decide) (fun i hi => by obtain rfl : i = 0 := (by omega); exact gv_at hgv [true, true, false, true, false, true, true, true, false] (.exactly (Term.string "MistHeapsModel" 107) "java/lang/String") rfl) (fun i hi => by obtain rfl : i = 0 := (by omega); exact gv_at hgv [true, true, false, true, false, true, true, true, true] (.eq (.field (Term.string "MistHeapsModel" 107) "java/lang/String" "coder" "B") (.int 0)) rfl) (fun i hi => by obtain rfl : i = 0 := (by omega); exact gv_at hgv [true, true, false, true, true, false, false, false] (.arrayOf (.field (Term.string "MistHeapsModel" 107) "java/lang/String" "value" "[B") .byte) rfl) (fun i hi => by obtain rfl : i = 0 := (by omega); exact gv_at hgv [true, true, false, true, true, false, false, true, false] (.eq (.length (.field (Term.string "MistHeapsModel" 107) "java/lang/String" "value" "[B")) (.int 3)) rfl) (fun i hi => by
    obtain rfl : i = 0 := (by omega)
    intro j hj
    match j, hj with
    | 0, _ => exact gv_at hgv [true, true, false, true, true, false, false, true, true] (.eq (.elem (.field (Term.string "MistHeapsModel" 107) "java/lang/String" "value" "[B") (.int 0)) (.int 60)) rfl
    | 1, _ => exact gv_at hgv [true, true, false, true, true, false, true, false, false] (.eq (.elem (.field (Term.string "MistHeapsModel" 107) "java/lang/String" "value" "[B") (.int 1)) (.int 61)) rfl
    | 2, _ => exact gv_at hgv [true, true, false, true, true, false, true, false, true] (.eq (.elem (.field (Term.string "MistHeapsModel" 107) "java/lang/String" "value" "[B") (.int 2)) (.int 62)) rfl
    | j + 3, hj => exact absurd hj (by simp)) (fun i j hi hj h => absurd (show i = j by omega) h) hAl
  obtain ⟨k8, v8, hSt8, heK8⟩ := vk_Sof (args := #[Value.ref b]) (s := s) (N := 1) (tm := fun _ => (Term.string "MistHeapsModel" 119)) (len := [3]) (byt := [[101, 101, 32]]) (A := A) (fun i hi => by obtain rfl : i = 0 := (by omega); decide) (fun i hi => by obtain rfl : i = 0 := (by omega); exact gv_at hgv [true, true, false, false, false, true, true, false, true] (.exactly (Term.string "MistHeapsModel" 119) "java/lang/String") rfl) (fun i hi => by obtain rfl : i = 0 := (by omega); exact gv_at hgv [true, true, false, false, false, true, true, true, false] (.eq (.field (Term.string "MistHeapsModel" 119) "java/lang/String" "coder" "B") (.int 0)) rfl) (fun i hi => by obtain rfl : i = 0 := (by omega); exact gv_at hgv [true, true, false, false, false, true, true, true, true] (.arrayOf (.field (Term.string "MistHeapsModel" 119) "java/lang/String" "value" "[B") .byte) rfl) (fun i hi => by obtain rfl : i = 0 := (by omega); exact gv_at hgv [true, true, false, false, true, false, false, false] (.eq (.length (.field (Term.string "MistHeapsModel" 119) "java/lang/String" "value" "[B")) (.int 3)) rfl) (fun i hi => by
    obtain rfl : i = 0 := (by omega)
    intro j hj
    match j, hj with
    | 0, _ => exact gv_at hgv [true, true, false, false, true, false, false, true, false] (.eq (.elem (.field (Term.string "MistHeapsModel" 119) "java/lang/String" "value" "[B") (.int 0)) (.int 101)) rfl
    | 1, _ => exact gv_at hgv [true, true, false, false, true, false, false, true, true] (.eq (.elem (.field (Term.string "MistHeapsModel" 119) "java/lang/String" "value" "[B") (.int 1)) (.int 101)) rfl
    | 2, _ => exact gv_at hgv [true, true, false, false, true, false, true, false, false] (.eq (.elem (.field (Term.string "MistHeapsModel" 119) "java/lang/String" "value" "[B") (.int 2)) (.int 32)) rfl
    | j + 3, hj => exact absurd hj (by simp)) (fun i j hi hj h => absurd (show i = j by omega) h) hAl
  obtain ⟨k9, v9, hSt9, heK9⟩ := vk_Sof (args := #[Value.ref b]) (s := s) (N := 1) (tm := fun _ => (Term.string "MistHeapsModel" 125)) (len := [5]) (byt := [[105, 103, 104, 116, 32]]) (A := A) (fun i hi => by obtain rfl : i = 0 := (by omega); decide) (fun i hi => by obtain rfl : i = 0 := (by omega); exact gv_at hgv [true, true, false, true, true, true, true, true, false] (.exactly (Term.string "MistHeapsModel" 125) "java/lang/String") rfl) (fun i hi => by obtain rfl : i = 0 := (by omega); exact gv_at hgv [true, true, false, true, true, true, true, true, true] (.eq (.field (Term.string "MistHeapsModel" 125) "java/lang/String" "coder" "B") (.int 0)) rfl) (fun i hi => by obtain rfl : i = 0 := (by omega); exact gv_at hgv [true, true, true, false, false, false, false, false] (.arrayOf (.field (Term.string "MistHeapsModel" 125) "java/lang/String" "value" "[B") .byte) rfl) (fun i hi => by obtain rfl : i = 0 := (by omega); exact gv_at hgv [true, true, true, false, false, false, false, true, false] (.eq (.length (.field (Term.string "MistHeapsModel" 125) "java/lang/String" "value" "[B")) (.int 5)) rfl) (fun i hi => by
    obtain rfl : i = 0 := (by omega)
    intro j hj
    match j, hj with
    | 0, _ => exact gv_at hgv [true, true, true, false, false, false, false, true, true] (.eq (.elem (.field (Term.string "MistHeapsModel" 125) "java/lang/String" "value" "[B") (.int 0)) (.int 105)) rfl
    | 1, _ => exact gv_at hgv [true, true, true, false, false, false, true, false, false] (.eq (.elem (.field (Term.string "MistHeapsModel" 125) "java/lang/String" "value" "[B") (.int 1)) (.int 103)) rfl
    | 2, _ => exact gv_at hgv [true, true, true, false, false, false, true, false, true] (.eq (.elem (.field (Term.string "MistHeapsModel" 125) "java/lang/String" "value" "[B") (.int 2)) (.int 104)) rfl
    | 3, _ => exact gv_at hgv [true, true, true, false, false, false, true, true, false] (.eq (.elem (.field (Term.string "MistHeapsModel" 125) "java/lang/String" "value" "[B") (.int 3)) (.int 116)) rfl
    | 4, _ => exact gv_at hgv [true, true, true, false, false, false, true, true, true] (.eq (.elem (.field (Term.string "MistHeapsModel" 125) "java/lang/String" "value" "[B") (.int 4)) (.int 32)) rfl
    | j + 5, hj => exact absurd hj (by simp)) (fun i j hi hj h => absurd (show i = j by omega) h) hAl
  obtain ⟨k10, v10, hSt10, heK10⟩ := vk_Sof (args := #[Value.ref b]) (s := s) (N := 1) (tm := fun _ => (Term.string "MistHeapsModel" 130)) (len := [5]) (byt := [[104, 105, 100, 101, 32]]) (A := A) (fun i hi => by obtain rfl : i = 0 := (by omega); decide) (fun i hi => by obtain rfl : i = 0 := (by omega); exact gv_at hgv [true, true, true, false, true, false, false, true, true] (.exactly (Term.string "MistHeapsModel" 130) "java/lang/String") rfl) (fun i hi => by obtain rfl : i = 0 := (by omega); exact gv_at hgv [true, true, true, false, true, false, true, false, false] (.eq (.field (Term.string "MistHeapsModel" 130) "java/lang/String" "coder" "B") (.int 0)) rfl) (fun i hi => by obtain rfl : i = 0 := (by omega); exact gv_at hgv [true, true, true, false, true, false, true, false, true] (.arrayOf (.field (Term.string "MistHeapsModel" 130) "java/lang/String" "value" "[B") .byte) rfl) (fun i hi => by obtain rfl : i = 0 := (by omega); exact gv_at hgv [true, true, true, false, true, false, true, true, false] (.eq (.length (.field (Term.string "MistHeapsModel" 130) "java/lang/String" "value" "[B")) (.int 5)) rfl) (fun i hi => by
    obtain rfl : i = 0 := (by omega)
    intro j hj
    match j, hj with
    | 0, _ => exact gv_at hgv [true, true, true, false, true, false, true, true, true] (.eq (.elem (.field (Term.string "MistHeapsModel" 130) "java/lang/String" "value" "[B") (.int 0)) (.int 104)) rfl
    | 1, _ => exact gv_at hgv [true, true, true, false, true, true, false, false, false] (.eq (.elem (.field (Term.string "MistHeapsModel" 130) "java/lang/String" "value" "[B") (.int 1)) (.int 105)) rfl
    | 2, _ => exact gv_at hgv [true, true, true, false, true, true, false, false, true] (.eq (.elem (.field (Term.string "MistHeapsModel" 130) "java/lang/String" "value" "[B") (.int 2)) (.int 100)) rfl
    | 3, _ => exact gv_at hgv [true, true, true, false, true, true, false, true, false] (.eq (.elem (.field (Term.string "MistHeapsModel" 130) "java/lang/String" "value" "[B") (.int 3)) (.int 101)) rfl
    | 4, _ => exact gv_at hgv [true, true, true, false, true, true, false, true, true] (.eq (.elem (.field (Term.string "MistHeapsModel" 130) "java/lang/String" "value" "[B") (.int 4)) (.int 32)) rfl
    | j + 5, hj => exact absurd hj (by simp)) (fun i j hi hj h => absurd (show i = j by omega) h) hAl
  obtain ⟨k11, v11, hSt11, heK11⟩ := vk_Sof (args := #[Value.ref b]) (s := s) (N := 1) (tm := fun _ => (Term.string "MistHeapsModel" 132)) (len := [6]) (byt := [[100, 114, 105, 102, 116, 32]]) (A := A) (fun i hi => by obtain rfl : i = 0 := (by omega); decide) (fun i hi => by obtain rfl : i = 0 := (by omega); exact gv_at hgv [true, true, true, true, false, false, true, true, true] (.exactly (Term.string "MistHeapsModel" 132) "java/lang/String") rfl) (fun i hi => by obtain rfl : i = 0 := (by omega); exact gv_at hgv [true, true, true, true, false, true, false, false, false] (.eq (.field (Term.string "MistHeapsModel" 132) "java/lang/String" "coder" "B") (.int 0)) rfl) (fun i hi => by obtain rfl : i = 0 := (by omega); exact gv_at hgv [true, true, true, true, false, true, false, false, true] (.arrayOf (.field (Term.string "MistHeapsModel" 132) "java/lang/String" "value" "[B") .byte) rfl) (fun i hi => by obtain rfl : i = 0 := (by omega); exact gv_at hgv [true, true, true, true, false, true, false, true, false] (.eq (.length (.field (Term.string "MistHeapsModel" 132) "java/lang/String" "value" "[B")) (.int 6)) rfl) (fun i hi => by
    obtain rfl : i = 0 := (by omega)
    intro j hj
    match j, hj with
    | 0, _ => exact gv_at hgv [true, true, true, true, false, true, false, true, true] (.eq (.elem (.field (Term.string "MistHeapsModel" 132) "java/lang/String" "value" "[B") (.int 0)) (.int 100)) rfl
    | 1, _ => exact gv_at hgv [true, true, true, true, false, true, true, false, false] (.eq (.elem (.field (Term.string "MistHeapsModel" 132) "java/lang/String" "value" "[B") (.int 1)) (.int 114)) rfl
    | 2, _ => exact gv_at hgv [true, true, true, true, false, true, true, false, true] (.eq (.elem (.field (Term.string "MistHeapsModel" 132) "java/lang/String" "value" "[B") (.int 2)) (.int 105)) rfl
    | 3, _ => exact gv_at hgv [true, true, true, true, false, true, true, true, false] (.eq (.elem (.field (Term.string "MistHeapsModel" 132) "java/lang/String" "value" "[B") (.int 3)) (.int 102)) rfl
    | 4, _ => exact gv_at hgv [true, true, true, true, false, true, true, true, true] (.eq (.elem (.field (Term.string "MistHeapsModel" 132) "java/lang/String" "value" "[B") (.int 4)) (.int 116)) rfl
    | 5, _ => exact gv_at hgv [true, true, true, true, true, false, false, false] (.eq (.elem (.field (Term.string "MistHeapsModel" 132) "java/lang/String" "value" "[B") (.int 5)) (.int 32)) rfl
    | j + 6, hj => exact absurd hj (by simp)) (fun i j hi hj h => absurd (show i = j by omega) h) hAl
  have Zcs := va_Zof (args := #[Value.ref b]) (s := s) (A := A) (hts0 (.laysStatic "java/lang/String" "COMPACT_STRINGS" "Z") (kl_of 386 rfl rfl)) (hts0 (.initialized "java/lang/String") (kl_of 73 rfl rfl)) (va_eqi (gv_at hgv [true, false, false, false, false, false, true, true, true] (.eq (.static "java/lang/String" "COMPACT_STRINGS" "Z") (.int 1)) rfl)) hAl
  obtain ⟨vf, evf, hvf⟩ := Cond.isRef_spec (gv_at hgv [true, false, false, false, false, true, false, false] (.isRef (.static "jdk/internal/util/Preconditions" "SIOOBE_FORMATTER" "Ljava/util/function/BiFunction;")) rfl)
  obtain ⟨fz, ff, eff⟩ : ∃ fz ff : Nat, vf = va_rf (if fz = 0 then none else some ff) := by
    cases vf with
    | ref z9 => exact ⟨1, z9, rfl⟩
    | null => exact ⟨0, 0, rfl⟩
    | _ => cases hvf
  have Zff := va_Zof (args := #[Value.ref b]) (s := s) (A := A) (hts0 (.laysStatic "jdk/internal/util/Preconditions" "SIOOBE_FORMATTER" "Ljava/util/function/BiFunction;") (kl_of 402 rfl rfl)) (hts0 (.initialized "jdk/internal/util/Preconditions") (kl_of 75 rfl rfl)) evf hAl
  rw [eff] at Zff
  have okN : ∀ w ∈ lw_tbl, okW w → w.before #[] s = true := fun w hw hok => word_at (State.WarmedH.refl s) hok (hts0 w hw)
  refine ⟨fun k => if k = 0 then tD else tR, tK, ad, cB, bS, fun i => [k0 0, k1 0, k2 0, k3 0, k4 0, k5 0, k6 0, k7 0, k8 0, k9 0, k10 0, k11 0].getD i 0, fun i => [v0 0, v1 0, v2 0, v3 0, v4 0, v5 0, v6 0, v7 0, v8 0, v9 0, v10 0, v11 0, fz, ff].getD i 0, ?_, ?_, ?_, ?_, ?_, ?_, ?_⟩
  · exact ⟨fun w hw => va_Nw.of (nestW_tab w hw) (hts0 w (nestW_in w hw)), ZtD, TtD, ZtR, TtR⟩
  · exact fun w hw => okN w (tin_old w hw) (oldW_ok w hw)
  · exact ⟨fun w hw => va_Nw.of (nestF_tab w hw) (hts0 w (nestF_in w hw)), ZtK, TtK⟩
  · exact ⟨hCc, Zhi, ZcB, TcB, va_Nw.of rfl (hts0 (.castable "java/lang/Integer" "java/lang/Object") (kl_of 1544 rfl rfl)), ZB, TbS, va_AO.of (hts0 (.arrayOver (.object "java/lang/Object")) (kl_of 1005 rfl rfl))⟩
  · exact fun w hw => okN w (tin_beg w hw) (begW_ok w hw)
  · exact ⟨va_AO.of (hts0 (.arrayOver (.object "MistHeaps$Heap")) (kl_of 151 rfl rfl)), hts0 (.arrayOver (.array .long)) (by decide +kernel), hts0 (.arrayOver (.array .int)) (by decide +kernel), fun w hw => va_Nw.of (castW_tab w hw) (hts0 w (castW_in w hw)), ZB⟩
  · refine ⟨fun i hi => ?_, fun i hi => ?_, Zcs, Zff⟩
    · match i, hi with
      | 0, _ => exact vk_R.of (A := #[Value.ref b]) (hts0 (.stringRef RX5 81 "see ") (kl_of 369 rfl rfl)) (heK0 0 (by omega))
      | 1, _ => exact vk_R.of (A := #[Value.ref b]) (hts0 (.stringRef RX5 83 "hide ") (kl_of 370 rfl rfl)) (heK1 0 (by omega))
      | 2, _ => exact vk_R.of (A := #[Value.ref b]) (hts0 (.stringRef RX5 85 "sight ") (kl_of 371 rfl rfl)) (heK2 0 (by omega))
      | 3, _ => exact vk_R.of (A := #[Value.ref b]) (hts0 (.stringRef RX5 87 "drift ") (kl_of 372 rfl rfl)) (heK3 0 (by omega))
      | 4, _ => exact vk_R.of (A := #[Value.ref b]) (hts0 (.stringRef RX5 112 "hkrcms") (kl_of 459 rfl rfl)) (heK4 0 (by omega))
      | 5, _ => exact vk_R.of (A := #[Value.ref b]) (hts0 (.stringRef RX5 118 "<=>") (kl_of 517 rfl rfl)) (heK5 0 (by omega))
      | 6, _ => exact vk_R.of (A := #[Value.ref b]) (hts0 (.stringRef RX12 101 "hkrcms") (kl_of 1269 rfl rfl)) (heK6 0 (by omega))
      | 7, _ => exact vk_R.of (A := #[Value.ref b]) (hts0 (.stringRef RX12 107 "<=>") (kl_of 1274 rfl rfl)) (heK7 0 (by omega))
      | 8, _ => exact vk_R.of (A := #[Value.ref b]) (hts0 (.stringRef RX12 119 "ee ") (kl_of 1238 rfl rfl)) (heK8 0 (by omega))
      | 9, _ => exact vk_R.of (A := #[Value.ref b]) (hts0 (.stringRef RX12 125 "ight ") (kl_of 1275 rfl rfl)) (heK9 0 (by omega))
      | 10, _ => exact vk_R.of (A := #[Value.ref b]) (hts0 (.stringRef RX12 130 "hide ") (kl_of 1276 rfl rfl)) (heK10 0 (by omega))
      | 11, _ => exact vk_R.of (A := #[Value.ref b]) (hts0 (.stringRef RX12 132 "drift ") (kl_of 1277 rfl rfl)) (heK11 0 (by omega))
      | i + 12, hi => exact absurd hi (by omega)
    · match i, hi with
      | 0, _ =>
        obtain ⟨a1, a2, a3, a4⟩ := hSt0.1 0 (by omega)
        exact ⟨a1, a2, a3, va_T_cong a4 (fun j hj => congrArg Value.int ((by decide : ∀ j, j < 4 → (([[115, 101, 101, 32]] : List (List Int32)).getD 0 []).getD j 0 = nI ((sTx 0).getD j 0)) j hj))⟩
      | 1, _ =>
        obtain ⟨a1, a2, a3, a4⟩ := hSt1.1 0 (by omega)
        exact ⟨a1, a2, a3, va_T_cong a4 (fun j hj => congrArg Value.int ((by decide : ∀ j, j < 5 → (([[104, 105, 100, 101, 32]] : List (List Int32)).getD 0 []).getD j 0 = nI ((sTx 1).getD j 0)) j hj))⟩
      | 2, _ =>
        obtain ⟨a1, a2, a3, a4⟩ := hSt2.1 0 (by omega)
        exact ⟨a1, a2, a3, va_T_cong a4 (fun j hj => congrArg Value.int ((by decide : ∀ j, j < 6 → (([[115, 105, 103, 104, 116, 32]] : List (List Int32)).getD 0 []).getD j 0 = nI ((sTx 2).getD j 0)) j hj))⟩
      | 3, _ =>
        obtain ⟨a1, a2, a3, a4⟩ := hSt3.1 0 (by omega)
        exact ⟨a1, a2, a3, va_T_cong a4 (fun j hj => congrArg Value.int ((by decide : ∀ j, j < 6 → (([[100, 114, 105, 102, 116, 32]] : List (List Int32)).getD 0 []).getD j 0 = nI ((sTx 3).getD j 0)) j hj))⟩
      | 4, _ =>
        obtain ⟨a1, a2, a3, a4⟩ := hSt4.1 0 (by omega)
        exact ⟨a1, a2, a3, va_T_cong a4 (fun j hj => congrArg Value.int ((by decide : ∀ j, j < 6 → (([[104, 107, 114, 99, 109, 115]] : List (List Int32)).getD 0 []).getD j 0 = nI ((sTx 4).getD j 0)) j hj))⟩
      | 5, _ =>
        obtain ⟨a1, a2, a3, a4⟩ := hSt5.1 0 (by omega)
        exact ⟨a1, a2, a3, va_T_cong a4 (fun j hj => congrArg Value.int ((by decide : ∀ j, j < 3 → (([[60, 61, 62]] : List (List Int32)).getD 0 []).getD j 0 = nI ((sTx 5).getD j 0)) j hj))⟩
      | 6, _ =>
        obtain ⟨a1, a2, a3, a4⟩ := hSt6.1 0 (by omega)
        exact ⟨a1, a2, a3, va_T_cong a4 (fun j hj => congrArg Value.int ((by decide : ∀ j, j < 6 → (([[104, 107, 114, 99, 109, 115]] : List (List Int32)).getD 0 []).getD j 0 = nI ((sTx 6).getD j 0)) j hj))⟩
      | 7, _ =>
        obtain ⟨a1, a2, a3, a4⟩ := hSt7.1 0 (by omega)
        exact ⟨a1, a2, a3, va_T_cong a4 (fun j hj => congrArg Value.int ((by decide : ∀ j, j < 3 → (([[60, 61, 62]] : List (List Int32)).getD 0 []).getD j 0 = nI ((sTx 7).getD j 0)) j hj))⟩
      | 8, _ =>
        obtain ⟨a1, a2, a3, a4⟩ := hSt8.1 0 (by omega)
        exact ⟨a1, a2, a3, va_T_cong a4 (fun j hj => congrArg Value.int ((by decide : ∀ j, j < 3 → (([[101, 101, 32]] : List (List Int32)).getD 0 []).getD j 0 = nI ((sTx 8).getD j 0)) j hj))⟩
      | 9, _ =>
        obtain ⟨a1, a2, a3, a4⟩ := hSt9.1 0 (by omega)
        exact ⟨a1, a2, a3, va_T_cong a4 (fun j hj => congrArg Value.int ((by decide : ∀ j, j < 5 → (([[105, 103, 104, 116, 32]] : List (List Int32)).getD 0 []).getD j 0 = nI ((sTx 9).getD j 0)) j hj))⟩
      | 10, _ =>
        obtain ⟨a1, a2, a3, a4⟩ := hSt10.1 0 (by omega)
        exact ⟨a1, a2, a3, va_T_cong a4 (fun j hj => congrArg Value.int ((by decide : ∀ j, j < 5 → (([[104, 105, 100, 101, 32]] : List (List Int32)).getD 0 []).getD j 0 = nI ((sTx 10).getD j 0)) j hj))⟩
      | 11, _ =>
        obtain ⟨a1, a2, a3, a4⟩ := hSt11.1 0 (by omega)
        exact ⟨a1, a2, a3, va_T_cong a4 (fun j hj => congrArg Value.int ((by decide : ∀ j, j < 6 → (([[100, 114, 105, 102, 116, 32]] : List (List Int32)).getD 0 []).getD j 0 = nI ((sTx 11).getD j 0)) j hj))⟩
      | i + 12, hi => exact absurd hi (by omega)
end mg23a
section mg23a
noncomputable def dk23cloop_cL_law_0 : List (Nat × List Nat) := [(18, [29]), (19, [42]), (20, [190]), (21, [8]), (22, [100]), (23, [163, 4, 67]), (26, [42]), (27, [29]), (28, [46]), (29, [16, 31]), (31, [126]), (1108, [132, 3, 5]), (1111, [167, 251, 187]), (1114, [4]), (1115, [172])]
set_option maxRecDepth 100000 in
theorem dk23cloop_cL_law_0_a : btA cL_law dk23cloop_cL_law_0 = true := by decide +kernel
theorem dL_law_18 : decode cL_law 18 = .ok (.iload_n 3, 1) := bd29 (btAt dk23cloop_cL_law_0_a 0 rfl)
theorem dL_law_19 : decode cL_law 19 = .ok (.aload_n 0, 1) := bd42 (btAt dk23cloop_cL_law_0_a 1 rfl)
theorem dL_law_20 : decode cL_law 20 = .ok (.arraylength, 1) := bd190 (btAt dk23cloop_cL_law_0_a 2 rfl)
theorem dL_law_21 : decode cL_law 21 = .ok (.iconst 5, 1) := bd8 (btAt dk23cloop_cL_law_0_a 3 rfl)
theorem dL_law_22 : decode cL_law 22 = .ok (.isub, 1) := bd100 (btAt dk23cloop_cL_law_0_a 4 rfl)
theorem dL_law_23 : decode cL_law 23 = .ok (.if_icmp .gt 1091, 3) := bd163 (a := 4) (b := 67) (btAt dk23cloop_cL_law_0_a 5 rfl)
theorem dL_law_26 : decode cL_law 26 = .ok (.aload_n 0, 1) := bd42 (btAt dk23cloop_cL_law_0_a 6 rfl)
theorem dL_law_27 : decode cL_law 27 = .ok (.iload_n 3, 1) := bd29 (btAt dk23cloop_cL_law_0_a 7 rfl)
theorem dL_law_28 : decode cL_law 28 = .ok (.iaload, 1) := bd46 (btAt dk23cloop_cL_law_0_a 8 rfl)
theorem dL_law_29 : decode cL_law 29 = .ok (.bipush 31, 2) := bd16 (a := 31) (btAt dk23cloop_cL_law_0_a 9 rfl)
theorem dL_law_31 : decode cL_law 31 = .ok (.iand, 1) := bd126 (btAt dk23cloop_cL_law_0_a 10 rfl)
theorem dL_law_1108 : decode cL_law 1108 = .ok (.iinc 3 5, 3) := bd132 (a := 3) (b := 5) (btAt dk23cloop_cL_law_0_a 11 rfl)
theorem dL_law_1111 : decode cL_law 1111 = .ok (.goto (-1093), 3) := bd167 (a := 251) (b := 187) (btAt dk23cloop_cL_law_0_a 12 rfl)
theorem dL_law_1114 : decode cL_law 1114 = .ok (.iconst 1, 1) := bd4 (btAt dk23cloop_cL_law_0_a 13 rfl)
theorem dL_law_1115 : decode cL_law 1115 = .ok (.ireturn, 1) := bd172 (btAt dk23cloop_cL_law_0_a 14 rfl)
set_option maxRecDepth 100000 in
theorem dL_law_32 : decode cL_law 32 = .ok (.tableswitch 1076 0 29 #[136, 159, 172, 225, 258, 281, 324, 357, 380, 403, 436, 469, 502, 535, 578, 601, 624, 667, 720, 773, 816, 849, 892, 915, 928, 971, 994, 1027, 1040, 1053], 136) := by decide +kernel
theorem lend_cmp {i L : Nat} (hL : L ≤ 320) (hi : L < i + 5) (hi2 : i ≤ 400) : nI L - 5 < nI i := by
  rcases Nat.lt_or_ge L 5 with q | q
  · have h : nI L - 5 < 0 := by
      have : L = 0 ∨ L = 1 ∨ L = 2 ∨ L = 3 ∨ L = 4 := by omega
      rcases this with rfl | rfl | rfl | rfl | rfl <;> decide
    exact Int32.lt_of_lt_of_le h (Int32.not_lt.mp (nI_pos (by omega)))
  · rw [show nI L - 5 = nI (L - 5) from pk_sub (a := L) (b := 5) q]
    exact nI_lt (by omega) (by omega)

set_option maxHeartbeats 8000000 in
set_option maxRecDepth 100000 in
theorem law_loop {p : Program} {l : Launch} {e : Env} {s : State} {m : MethodId} {below : List Frame} {meth : Method} {c : Code} {b L : Nat} {xs : Nat → Int32} {A : Nat → Prop} (hAe : A = fun q => s.heap.size ≤ q) (C0 : lw_At p s m meth c b L xs) (hL : L ≤ 320) (dC : Nat → ClassId) (dI : Nat → Nat → Nat) (gd : Nat → Nat) (kA : Nat) (ad : Nat → Nat) (cB bS : Nat) (sK sV : Nat → Nat) (Y : Nat → Prop) (h0 m0 : Nat) (T2 : List (ClassId × FieldType)) (hGA : GA gd kA ad cB bS sK sV A s) : ∀ (nF i : Nat), L + 5 - i < nF → i ≤ L + 5 → ∀ (cells slots : Nat), cells ≤ 1000 + 2 * i → slots ≤ 10000 + 40 * i → ∀ (ik : Int32) (vs kvs : VS) (tl : List Nat) (im : Int32) (vm kvm : VS) (tm : List Nat) (X : va_W) (T : List (ClassId × FieldType)) (M : va_W) (H : Heap) (locs : List Loc), Lst dC dI ad bS Y s A h0 m0 ik vs kvs tl im vm kvm tm X T M T2 H → (ik = im ∧ vs = vm ∧ (im = 0 ∨ kvs = kvm) ∧ tl = tm) → va_S A s.heap H locs → ∀ ls : Array Slot, lv_has ls 4 [(0, .ref b), (1, .ref h0), (2, .ref m0), (3, .int (nI i))] → W p l e room_1 s m #[Value.ref b] below meth c H locs cells slots (lw_Z below #[Value.ref b] s) (F0 m 18 ls []) := by
  obtain ⟨hx, hb, hr, hml, hown, hts0, hX, hbl, hlocks, hgv⟩ := id C0
  have hb : c.code = cL_law := hb
  have hA : ∀ q : Nat, s.heap.size ≤ q → A q := fun q h => by rw [hAe]; exact h
  have hbA : ¬ A b := by rw [hAe]; exact Nat.not_le.mpr hbl
  intro nF
  induction nF with
  | zero => intro i hm; exact absurd hm (Nat.not_lt_zero _)
  | succ nF ih =>
    intro i hm hi5 cells slots hc0 hs0 ik vs kvs tl im vm kvm tm X T M H locs hLS hcp hS ls hl
    refine lv_iload_n hx hb dL_law_18 rfl (lv_at hl 3 rfl) ?_
    refine lv_aload_n hx hb dL_law_19 rfl (lv_at hl 0 rfl) ?_
    refine va_slen hx hb hX hbl hbA hS dL_law_20 ?_
    refine qi_as (y := nI L) rfl ?_
    refine lv_iconst (v := 5) hx hb dL_law_21 (by decide) ?_
    refine lv_isub hx hb dL_law_22 ?_
    by_cases hi : i + 5 ≤ L
    · skip
      refine lv_icmp_gt (tgt := 1114) hx hb dL_law_23 (by decide) (fun c1 => absurd c1 (by rw [show nI L - 5 = nI (L - 5) from pk_sub (a := L) (b := 5) (by omega)]; exact nI_nlt (by omega) (by omega))) (fun _ => ?_)
      refine lv_aload_n hx hb dL_law_26 rfl (lv_at hl 0 rfl) ?_
      refine lv_iload_n hx hb dL_law_27 rfl (lv_at hl 3 rfl) ?_
      refine va_sld hx hb hX hbl hbA hS (vp_in_nI (n := i) (N := L) (by omega) (by omega)) dL_law_28 ?_
      refine lv_bipush (v := 31) hx hb dL_law_29 (by decide) ?_
      refine lv_iand hx hb dL_law_31 ?_
      obtain ⟨j, hj, ej⟩ := pk_andE (xs (nI i).toNatClampNeg) (m := 31) 5 (by decide)
      refine qi_as (y := nI j) ej ?_
      have hj : j < 32 := hj
      have kk : ∀ (ik : Int32) (vs kvs : VS) (tl : List Nat) (im : Int32) (vm kvm : VS) (tm : List Nat) (X : va_W) (T : List (ClassId × FieldType)) (M : va_W) (H : Heap) (locs : List Loc), Lst dC dI ad bS Y s A h0 m0 ik vs kvs tl im vm kvm tm X T M T2 H → (ik = im ∧ vs = vm ∧ (im = 0 ∨ kvs = kvm) ∧ tl = tm) → va_S A s.heap H locs → W p l e room_1 s m #[Value.ref b] below meth c H locs (cells + 8) (slots + 200) (lw_Z below #[Value.ref b] s) (F0 m 1108 ls []) := by
        intro ik vs kvs tl im vm kvm tm X T M H locs hLS hcp hS
        refine lv_iinc (v := nI (i + 5)) (lv' := [(3, .int (nI (i + 5))), (0, .ref b), (1, .ref h0), (2, .ref m0)]) hx hb dL_law_1108 hl (k := 3) rfl (nI_add i 5) (by decide) rfl (fun ls hl => ?_)
        refine lv_goto (tgt := 18) hx hb dL_law_1111 (by decide) ?_
        exact ih (i + 5) (by omega) (by omega) (cells + 8) (slots + 200) (by omega) (by omega) ik vs kvs tl im vm kvm tm X T M H locs hLS hcp hS ls (lv_sub hl [1, 2, 3, 0] rfl)
      have hj9 : j = 0 ∨ j = 1 ∨ j = 2 ∨ j = 3 ∨ j = 4 ∨ j = 5 ∨ j = 6 ∨ j = 7 ∨ j = 8 ∨ j = 9 ∨ j = 10 ∨ j = 11 ∨ j = 12 ∨ j = 13 ∨ j = 14 ∨ j = 15 ∨ j = 16 ∨ j = 17 ∨ j = 18 ∨ j = 19 ∨ j = 20 ∨ j = 21 ∨ j = 22 ∨ j = 23 ∨ j = 24 ∨ j = 25 ∨ j = 26 ∨ j = 27 ∨ j = 28 ∨ j = 29 ∨ j = 30 ∨ j = 31 := by omega
      rcases hj9 with rfl | rfl | rfl | rfl | rfl | rfl | rfl | rfl | rfl | rfl | rfl | rfl | rfl | rfl | rfl | rfl | rfl | rfl | rfl | rfl | rfl | rfl | rfl | rfl | rfl | rfl | rfl | rfl | rfl | rfl | rfl | rfl
      · refine lv_tableIn (tgt := 168) hx hb dL_law_32 (by decide) (by decide) rfl (by decide) ?_
        exact lc_0 hAe C0 dC dI gd kA ad cB bS sK sV Y h0 m0 ik vs kvs tl im vm kvm tm X T M T2 hGA i hi hL H locs hLS cells slots (by omega) (by omega) hS ls hl hcp kk
      · refine lv_tableIn (tgt := 191) hx hb dL_law_32 (by decide) (by decide) rfl (by decide) ?_
        exact lc_1 hAe C0 dC dI gd kA ad cB bS sK sV Y h0 m0 ik vs kvs tl im vm kvm tm X T M T2 hGA i hi hL H locs hLS cells slots (by omega) (by omega) hS ls hl hcp kk
      · refine lv_tableIn (tgt := 204) hx hb dL_law_32 (by decide) (by decide) rfl (by decide) ?_
        exact lc_2 hAe C0 dC dI gd kA ad cB bS sK sV Y h0 m0 ik vs kvs tl im vm kvm tm X T M T2 hGA i hi hL H locs hLS cells slots (by omega) (by omega) hS ls hl hcp kk
      · refine lv_tableIn (tgt := 257) hx hb dL_law_32 (by decide) (by decide) rfl (by decide) ?_
        exact lc_3 hAe C0 dC dI gd kA ad cB bS sK sV Y h0 m0 ik vs kvs tl im vm kvm tm X T M T2 hGA i hi hL H locs hLS cells slots (by omega) (by omega) hS ls hl hcp kk
      · refine lv_tableIn (tgt := 290) hx hb dL_law_32 (by decide) (by decide) rfl (by decide) ?_
        exact lc_4 hAe C0 dC dI gd kA ad cB bS sK sV Y h0 m0 ik vs kvs tl im vm kvm tm X T M T2 hGA i hi hL H locs hLS cells slots (by omega) (by omega) hS ls hl hcp kk
      · refine lv_tableIn (tgt := 313) hx hb dL_law_32 (by decide) (by decide) rfl (by decide) ?_
        exact lc_5 hAe C0 dC dI gd kA ad cB bS sK sV Y h0 m0 ik vs kvs tl im vm kvm tm X T M T2 hGA i hi hL H locs hLS cells slots (by omega) (by omega) hS ls hl hcp kk
      · refine lv_tableIn (tgt := 356) hx hb dL_law_32 (by decide) (by decide) rfl (by decide) ?_
        exact lc_6 hAe C0 dC dI gd kA ad cB bS sK sV Y h0 m0 ik vs kvs tl im vm kvm tm X T M T2 hGA i hi hL H locs hLS cells slots (by omega) (by omega) hS ls hl hcp kk
      · refine lv_tableIn (tgt := 389) hx hb dL_law_32 (by decide) (by decide) rfl (by decide) ?_
        exact lc_7 hAe C0 dC dI gd kA ad cB bS sK sV Y h0 m0 ik vs kvs tl im vm kvm tm X T M T2 hGA i hi hL H locs hLS cells slots (by omega) (by omega) hS ls hl hcp kk
      · refine lv_tableIn (tgt := 412) hx hb dL_law_32 (by decide) (by decide) rfl (by decide) ?_
        exact lc_8 hAe C0 dC dI gd kA ad cB bS sK sV Y h0 m0 ik vs kvs tl im vm kvm tm X T M T2 hGA i hi hL H locs hLS cells slots (by omega) (by omega) hS ls hl hcp kk
      · refine lv_tableIn (tgt := 435) hx hb dL_law_32 (by decide) (by decide) rfl (by decide) ?_
        exact lc_9 hAe C0 dC dI gd kA ad cB bS sK sV Y h0 m0 ik vs kvs tl im vm kvm tm X T M T2 hGA i hi hL H locs hLS cells slots (by omega) (by omega) hS ls hl hcp kk
      · refine lv_tableIn (tgt := 468) hx hb dL_law_32 (by decide) (by decide) rfl (by decide) ?_
        exact lc_10 hAe C0 dC dI gd kA ad cB bS sK sV Y h0 m0 ik vs kvs tl im vm kvm tm X T M T2 hGA i hi hL H locs hLS cells slots (by omega) (by omega) hS ls hl hcp kk
      · refine lv_tableIn (tgt := 501) hx hb dL_law_32 (by decide) (by decide) rfl (by decide) ?_
        exact lc_11 hAe C0 dC dI gd kA ad cB bS sK sV Y h0 m0 ik vs kvs tl im vm kvm tm X T M T2 hGA i hi hL H locs hLS cells slots (by omega) (by omega) hS ls hl hcp kk
      · refine lv_tableIn (tgt := 534) hx hb dL_law_32 (by decide) (by decide) rfl (by decide) ?_
        exact lc_12 hAe C0 dC dI gd kA ad cB bS sK sV Y h0 m0 ik vs kvs tl im vm kvm tm X T M T2 hGA i hi hL H locs hLS cells slots (by omega) (by omega) hS ls hl hcp kk
      · refine lv_tableIn (tgt := 567) hx hb dL_law_32 (by decide) (by decide) rfl (by decide) ?_
        exact lc_13 hAe C0 dC dI gd kA ad cB bS sK sV Y h0 m0 ik vs kvs tl im vm kvm tm X T M T2 hGA i hi hL H locs hLS cells slots (by omega) (by omega) hS ls hl hcp kk
      · refine lv_tableIn (tgt := 610) hx hb dL_law_32 (by decide) (by decide) rfl (by decide) ?_
        exact lc_14 hAe C0 dC dI gd kA ad cB bS sK sV Y h0 m0 ik vs kvs tl im vm kvm tm X T M T2 hGA i hi hL H locs hLS cells slots (by omega) (by omega) hS ls hl hcp kk
      · refine lv_tableIn (tgt := 633) hx hb dL_law_32 (by decide) (by decide) rfl (by decide) ?_
        exact lc_15 hAe C0 dC dI gd kA ad cB bS sK sV Y h0 m0 ik vs kvs tl im vm kvm tm X T M T2 hGA i hi hL H locs hLS cells slots (by omega) (by omega) hS ls hl hcp kk
      · refine lv_tableIn (tgt := 656) hx hb dL_law_32 (by decide) (by decide) rfl (by decide) ?_
        exact lc_16 hAe C0 dC dI gd kA ad cB bS sK sV Y h0 m0 ik vs kvs tl im vm kvm tm X T M T2 hGA i hi hL H locs hLS cells slots (by omega) (by omega) hS ls hl hcp kk
      · refine lv_tableIn (tgt := 699) hx hb dL_law_32 (by decide) (by decide) rfl (by decide) ?_
        exact lc_17 hAe C0 dC dI gd kA ad cB bS sK sV Y h0 m0 ik vs kvs tl im vm kvm tm X T M T2 hGA i hi hL H locs hLS cells slots (by omega) (by omega) hS ls hl hcp kk
      · refine lv_tableIn (tgt := 752) hx hb dL_law_32 (by decide) (by decide) rfl (by decide) ?_
        exact lc_18 hAe C0 dC dI gd kA ad cB bS sK sV Y h0 m0 ik vs kvs tl im vm kvm tm X T M T2 hGA i hi hL H locs hLS cells slots (by omega) (by omega) hS ls hl hcp kk
      · refine lv_tableIn (tgt := 805) hx hb dL_law_32 (by decide) (by decide) rfl (by decide) ?_
        exact lc_19 hAe C0 dC dI gd kA ad cB bS sK sV Y h0 m0 ik vs kvs tl im vm kvm tm X T M T2 hGA i hi hL H locs hLS cells slots (by omega) (by omega) hS ls hl hcp kk
      · refine lv_tableIn (tgt := 848) hx hb dL_law_32 (by decide) (by decide) rfl (by decide) ?_
        exact lc_20 hAe C0 dC dI gd kA ad cB bS sK sV Y h0 m0 ik vs kvs tl im vm kvm tm X T M T2 hGA i hi hL H locs hLS cells slots (by omega) (by omega) hS ls hl hcp kk
      · refine lv_tableIn (tgt := 881) hx hb dL_law_32 (by decide) (by decide) rfl (by decide) ?_
        exact lc_21 hAe C0 dC dI gd kA ad cB bS sK sV Y h0 m0 ik vs kvs tl im vm kvm tm X T M T2 hGA i hi hL H locs hLS cells slots (by omega) (by omega) hS ls hl hcp kk
      · refine lv_tableIn (tgt := 924) hx hb dL_law_32 (by decide) (by decide) rfl (by decide) ?_
        exact lc_22 hAe C0 dC dI gd kA ad cB bS sK sV Y h0 m0 ik vs kvs tl im vm kvm tm X T M T2 hGA i hi hL H locs hLS cells slots (by omega) (by omega) hS ls hl hcp kk
      · refine lv_tableIn (tgt := 947) hx hb dL_law_32 (by decide) (by decide) rfl (by decide) ?_
        exact lc_23 hAe C0 dC dI gd kA ad cB bS sK sV Y h0 m0 ik vs kvs tl im vm kvm tm X T M T2 hGA i hi hL H locs hLS cells slots (by omega) (by omega) hS ls hl hcp kk
      · refine lv_tableIn (tgt := 960) hx hb dL_law_32 (by decide) (by decide) rfl (by decide) ?_
        exact lc_24 hAe C0 dC dI gd kA ad cB bS sK sV Y h0 m0 ik vs kvs tl im vm kvm tm X T M T2 hGA i hi hL H locs hLS cells slots (by omega) (by omega) hS ls hl hcp kk
      · refine lv_tableIn (tgt := 1003) hx hb dL_law_32 (by decide) (by decide) rfl (by decide) ?_
        exact lc_25 hAe C0 dC dI gd kA ad cB bS sK sV Y h0 m0 ik vs kvs tl im vm kvm tm X T M T2 hGA i hi hL H locs hLS cells slots (by omega) (by omega) hS ls hl hcp kk
      · refine lv_tableIn (tgt := 1026) hx hb dL_law_32 (by decide) (by decide) rfl (by decide) ?_
        exact lc_26 hAe C0 dC dI gd kA ad cB bS sK sV Y h0 m0 ik vs kvs tl im vm kvm tm X T M T2 hGA i hi hL H locs hLS cells slots (by omega) (by omega) hS ls hl hcp kk
      · refine lv_tableIn (tgt := 1059) hx hb dL_law_32 (by decide) (by decide) rfl (by decide) ?_
        exact lc_27 hAe C0 dC dI gd kA ad cB bS sK sV Y h0 m0 ik vs kvs tl im vm kvm tm X T M T2 hGA i hi hL H locs hLS cells slots (by omega) (by omega) hS ls hl hcp kk
      · refine lv_tableIn (tgt := 1072) hx hb dL_law_32 (by decide) (by decide) rfl (by decide) ?_
        exact lc_28 hAe C0 dC dI gd kA ad cB bS sK sV Y h0 m0 ik vs kvs tl im vm kvm tm X T M T2 hGA i hi hL H locs hLS cells slots (by omega) (by omega) hS ls hl hcp kk
      · refine lv_tableIn (tgt := 1085) hx hb dL_law_32 (by decide) (by decide) rfl (by decide) ?_
        exact lc_29 hAe C0 dC dI gd kA ad cB bS sK sV Y h0 m0 ik vs kvs tl im vm kvm tm X T M T2 hGA i hi hL H locs hLS cells slots (by omega) (by omega) hS ls hl hcp kk
      · refine lv_tableOut (tgt := 1108) hx hb dL_law_32 (by decide) (by decide) ?_
        refine W.widen (k := cells + 8) (n := slots + 200) (by omega) (by omega) ?_
        exact (kk ik vs kvs tl im vm kvm tm X T M H locs hLS hcp hS)
      · refine lv_tableOut (tgt := 1108) hx hb dL_law_32 (by decide) (by decide) ?_
        refine W.widen (k := cells + 8) (n := slots + 200) (by omega) (by omega) ?_
        exact (kk ik vs kvs tl im vm kvm tm X T M H locs hLS hcp hS)
    · skip
      refine lv_icmp_gt (tgt := 1114) hx hb dL_law_23 (by decide) (fun _ => ?_) (fun c1 => absurd (lend_cmp hL (by omega) (by omega)) c1)
      refine lv_iconst (v := 1) hx hb dL_law_1114 (by decide) ?_
      refine va_forget (fun q hq => by have := hS.2.2 q hq; rw [hAe] at this; exact this) ?_
      refine W.widen (k := 600000) (n := 7302250) (by omega) (by omega) ?_
      exact lw_ret hx hb hr hlocks dL_law_1115
end mg23a
