
set_option maxHeartbeats 16000000 in
set_option maxRecDepth 100000 in
/-- what the Statement gives of the start: static rows, links, texts, boxes -/
theorem law_glob {p : Program} {s : State} {m : MethodId} {meth : Method} {c : Code} {b L : Nat} {xs : Nat → Int32} {A : Nat → Prop} (hAe : A = fun q => s.heap.size ≤ q) (C0 : lw_At p s m meth c b L xs) : ∃ (gd : Nat → Nat) (kA : Nat) (ad : Nat → Nat) (cB bS : Nat) (sK sV : Nat → Nat), GA gd kA ad cB bS sK sV A s := by
  obtain ⟨hx, hb, hr, hml, hown, hts0, hX, hbl, hlocks, hgv⟩ := id C0
  have hs := flat_of_before _ hgv
  have hAl : ∀ a : Nat, a < s.heap.size → ¬ A a := fun a h => by rw [hAe]; exact Nat.not_le.mpr h
  obtain ⟨tD, etD, TtD⟩ := va_Tof (args := #[Value.ref b]) (s := s) (tm := (Term.static "MistHeaps" "DOWN" "[I")) (ty := .int) (N := 8) (f := fun k => .int (fDown k)) (A := A) (by decide) (hs (.arrayOf (Term.static "MistHeaps" "DOWN" "[I") .int) (by decide +kernel)) (va_eqt (hs (.eq (.length (Term.static "MistHeaps" "DOWN" "[I")) (.int 8)) (by decide +kernel))) (fun j hj => by
    match j, hj with
    | 0, _ => exact va_eqt (hs (.eq (.elem (Term.static "MistHeaps" "DOWN" "[I") (.int 0)) (.int (-1))) (by decide +kernel))
    | 1, _ => exact va_eqt (hs (.eq (.elem (Term.static "MistHeaps" "DOWN" "[I") (.int 1)) (.int (-1))) (by decide +kernel))
    | 2, _ => exact va_eqt (hs (.eq (.elem (Term.static "MistHeaps" "DOWN" "[I") (.int 2)) (.int (0))) (by decide +kernel))
    | 3, _ => exact va_eqt (hs (.eq (.elem (Term.static "MistHeaps" "DOWN" "[I") (.int 3)) (.int (1))) (by decide +kernel))
    | 4, _ => exact va_eqt (hs (.eq (.elem (Term.static "MistHeaps" "DOWN" "[I") (.int 4)) (.int (1))) (by decide +kernel))
    | 5, _ => exact va_eqt (hs (.eq (.elem (Term.static "MistHeaps" "DOWN" "[I") (.int 5)) (.int (1))) (by decide +kernel))
    | 6, _ => exact va_eqt (hs (.eq (.elem (Term.static "MistHeaps" "DOWN" "[I") (.int 6)) (.int (0))) (by decide +kernel))
    | 7, _ => exact va_eqt (hs (.eq (.elem (Term.static "MistHeaps" "DOWN" "[I") (.int 7)) (.int (-1))) (by decide +kernel))
    | j + 8, hj => exact absurd hj (by omega)) hAl
  have ZtD := va_Zref (args := #[Value.ref b]) (s := s) (A := A) (hts0 (.laysStatic "MistHeaps" "DOWN" "[I") (by decide +kernel)) (hts0 (.initialized "MistHeaps") (by decide +kernel)) etD hAl
  obtain ⟨tR, etR, TtR⟩ := va_Tof (args := #[Value.ref b]) (s := s) (tm := (Term.static "MistHeaps" "RIGHT" "[I")) (ty := .int) (N := 8) (f := fun k => .int (fRight k)) (A := A) (by decide) (hs (.arrayOf (Term.static "MistHeaps" "RIGHT" "[I") .int) (by decide +kernel)) (va_eqt (hs (.eq (.length (Term.static "MistHeaps" "RIGHT" "[I")) (.int 8)) (by decide +kernel))) (fun j hj => by
    match j, hj with
    | 0, _ => exact va_eqt (hs (.eq (.elem (Term.static "MistHeaps" "RIGHT" "[I") (.int 0)) (.int (0))) (by decide +kernel))
    | 1, _ => exact va_eqt (hs (.eq (.elem (Term.static "MistHeaps" "RIGHT" "[I") (.int 1)) (.int (1))) (by decide +kernel))
    | 2, _ => exact va_eqt (hs (.eq (.elem (Term.static "MistHeaps" "RIGHT" "[I") (.int 2)) (.int (1))) (by decide +kernel))
    | 3, _ => exact va_eqt (hs (.eq (.elem (Term.static "MistHeaps" "RIGHT" "[I") (.int 3)) (.int (1))) (by decide +kernel))
    | 4, _ => exact va_eqt (hs (.eq (.elem (Term.static "MistHeaps" "RIGHT" "[I") (.int 4)) (.int (0))) (by decide +kernel))
    | 5, _ => exact va_eqt (hs (.eq (.elem (Term.static "MistHeaps" "RIGHT" "[I") (.int 5)) (.int (-1))) (by decide +kernel))
    | 6, _ => exact va_eqt (hs (.eq (.elem (Term.static "MistHeaps" "RIGHT" "[I") (.int 6)) (.int (-1))) (by decide +kernel))
    | 7, _ => exact va_eqt (hs (.eq (.elem (Term.static "MistHeaps" "RIGHT" "[I") (.int 7)) (.int (-1))) (by decide +kernel))
    | j + 8, hj => exact absurd hj (by omega)) hAl
  have ZtR := va_Zref (args := #[Value.ref b]) (s := s) (A := A) (hts0 (.laysStatic "MistHeaps" "RIGHT" "[I") (by decide +kernel)) (hts0 (.initialized "MistHeaps") (by decide +kernel)) etR hAl
  obtain ⟨tK, etK, TtK⟩ := va_Tof (args := #[Value.ref b]) (s := s) (tm := (Term.static "MistHeaps" "KIND_ABOVE" "[I")) (ty := .int) (N := 7) (f := fun k => .int (fAbove k)) (A := A) (by decide) (hs (.arrayOf (Term.static "MistHeaps" "KIND_ABOVE" "[I") .int) (by decide +kernel)) (va_eqt (hs (.eq (.length (Term.static "MistHeaps" "KIND_ABOVE" "[I")) (.int 7)) (by decide +kernel))) (fun j hj => by
    match j, hj with
    | 0, _ => exact va_eqt (hs (.eq (.elem (Term.static "MistHeaps" "KIND_ABOVE" "[I") (.int 0)) (.int (-1))) (by decide +kernel))
    | 1, _ => exact va_eqt (hs (.eq (.elem (Term.static "MistHeaps" "KIND_ABOVE" "[I") (.int 1)) (.int (0))) (by decide +kernel))
    | 2, _ => exact va_eqt (hs (.eq (.elem (Term.static "MistHeaps" "KIND_ABOVE" "[I") (.int 2)) (.int (0))) (by decide +kernel))
    | 3, _ => exact va_eqt (hs (.eq (.elem (Term.static "MistHeaps" "KIND_ABOVE" "[I") (.int 3)) (.int (0))) (by decide +kernel))
    | 4, _ => exact va_eqt (hs (.eq (.elem (Term.static "MistHeaps" "KIND_ABOVE" "[I") (.int 4)) (.int (1))) (by decide +kernel))
    | 5, _ => exact va_eqt (hs (.eq (.elem (Term.static "MistHeaps" "KIND_ABOVE" "[I") (.int 5)) (.int (2))) (by decide +kernel))
    | 6, _ => exact va_eqt (hs (.eq (.elem (Term.static "MistHeaps" "KIND_ABOVE" "[I") (.int 6)) (.int (3))) (by decide +kernel))
    | j + 7, hj => exact absurd hj (by omega)) hAl
  have ZtK := va_Zref (args := #[Value.ref b]) (s := s) (A := A) (hts0 (.laysStatic "MistHeaps" "KIND_ABOVE" "[I") (by decide +kernel)) (hts0 (.initialized "MistHeaps") (by decide +kernel)) etK hAl
  obtain ⟨bS, ebS, TbS⟩ := va_Tof (args := #[Value.ref b]) (s := s) (tm := (Term.static "java/util/ArrayList" "DEFAULTCAPACITY_EMPTY_ELEMENTDATA" "[Ljava/lang/Object;")) (ty := .object "java/lang/Object") (N := 0) (f := fun _ => .null) (A := A) (by decide) (hs (.arrayOf (Term.static "java/util/ArrayList" "DEFAULTCAPACITY_EMPTY_ELEMENTDATA" "[Ljava/lang/Object;") (.object "java/lang/Object")) (by decide +kernel)) (va_eqt (hs (.eq (.length (Term.static "java/util/ArrayList" "DEFAULTCAPACITY_EMPTY_ELEMENTDATA" "[Ljava/lang/Object;")) (.int 0)) (by decide +kernel))) (fun j hj => absurd hj (Nat.not_lt_zero j)) hAl
  have ZB := va_Zref (args := #[Value.ref b]) (s := s) (A := A) (hts0 (.laysStatic "java/util/ArrayList" "DEFAULTCAPACITY_EMPTY_ELEMENTDATA" "[Ljava/lang/Object;") (by decide +kernel)) (hts0 (.initialized "java/util/ArrayList") (by decide +kernel)) ebS hAl
  have hlen : (Term.length (Term.static "java/lang/Integer$IntegerCache" "cache" "[Ljava/lang/Integer;")).eval #[Value.ref b] s none [] s = some (.int (Int32.ofNat 256)) := va_eqt (hs (.eq (.length (Term.static "java/lang/Integer$IntegerCache" "cache" "[Ljava/lang/Integer;")) (.int 256)) (by decide +kernel))
  obtain ⟨ad, hCc, hel⟩ := vb_Cof (args := #[Value.ref b]) (s := s) (A := A) (st := (Term.static "java/lang/Integer$IntegerCache" "cache" "[Ljava/lang/Integer;")) (by decide) hlen (hs (.all (Term.static "java/lang/Integer$IntegerCache" "cache" "[Ljava/lang/Integer;") (.and (.exactly (.elem (Term.static "java/lang/Integer$IntegerCache" "cache" "[Ljava/lang/Integer;") (.index 0)) "java/lang/Integer") (.eq (.field (.elem (Term.static "java/lang/Integer$IntegerCache" "cache" "[Ljava/lang/Integer;") (.index 0)) "java/lang/Integer" "value" "I") (.sub (.index 0) (.int 128))))) (by decide +kernel)) hAl
  obtain ⟨cB, ecB, TcB⟩ := va_Tof (args := #[Value.ref b]) (s := s) (tm := (Term.static "java/lang/Integer$IntegerCache" "cache" "[Ljava/lang/Integer;")) (ty := .object "java/lang/Integer") (N := 256) (f := fun k => .ref (ad k)) (A := A) (by decide) (hs (.arrayOf (Term.static "java/lang/Integer$IntegerCache" "cache" "[Ljava/lang/Integer;") (.object "java/lang/Integer")) (by decide +kernel)) hlen hel hAl
  have ZcB := va_Zref (args := #[Value.ref b]) (s := s) (A := A) (hts0 (.laysStatic "java/lang/Integer$IntegerCache" "cache" "[Ljava/lang/Integer;") (by decide +kernel)) (hts0 (.initialized "java/lang/Integer$IntegerCache") (by decide +kernel)) ecB hAl
  have Zhi := va_Zof (args := #[Value.ref b]) (s := s) (A := A) (hts0 (.laysStatic "java/lang/Integer$IntegerCache" "high" "I") (by decide +kernel)) (hts0 (.initialized "java/lang/Integer$IntegerCache") (by decide +kernel)) (va_eqi (hs (.eq (.static "java/lang/Integer$IntegerCache" "high" "I") (.int 127)) (by decide +kernel))) hAl
  obtain ⟨k0, v0, hSt0, heK0⟩ := vk_Sof (args := #[Value.ref b]) (s := s) (N := 1) (tm := fun _ => (Term.string "MistHeaps$Hill" 81)) (len := [4]) (byt := [[115, 101, 101, 32]]) (A := A) (fun i hi => by obtain rfl : i = 0 := (by omega); decide) (fun i hi => by obtain rfl : i = 0 := (by omega); exact hs (.exactly (Term.string "MistHeaps$Hill" 81) "java/lang/String") (by decide +kernel)) (fun i hi => by obtain rfl : i = 0 := (by omega); exact hs (.eq (.field (Term.string "MistHeaps$Hill" 81) "java/lang/String" "coder" "B") (.int 0)) (by decide +kernel)) (fun i hi => by obtain rfl : i = 0 := (by omega); exact hs (.arrayOf (.field (Term.string "MistHeaps$Hill" 81) "java/lang/String" "value" "[B") .byte) (by decide +kernel)) (fun i hi => by obtain rfl : i = 0 := (by omega); exact hs (.eq (.length (.field (Term.string "MistHeaps$Hill" 81) "java/lang/String" "value" "[B")) (.int 4)) (by decide +kernel)) (fun i hi => by
    obtain rfl : i = 0 := (by omega)
    intro j hj
    match j, hj with
    | 0, _ => exact hs (.eq (.elem (.field (Term.string "MistHeaps$Hill" 81) "java/lang/String" "value" "[B") (.int 0)) (.int 115)) (by decide +kernel)
    | 1, _ => exact hs (.eq (.elem (.field (Term.string "MistHeaps$Hill" 81) "java/lang/String" "value" "[B") (.int 1)) (.int 101)) (by decide +kernel)
    | 2, _ => exact hs (.eq (.elem (.field (Term.string "MistHeaps$Hill" 81) "java/lang/String" "value" "[B") (.int 2)) (.int 101)) (by decide +kernel)
    | 3, _ => exact hs (.eq (.elem (.field (Term.string "MistHeaps$Hill" 81) "java/lang/String" "value" "[B") (.int 3)) (.int 32)) (by decide +kernel)
    | j + 4, hj => exact absurd hj (by simp)) (fun i j hi hj h => absurd (show i = j by omega) h) hAl
  obtain ⟨k1, v1, hSt1, heK1⟩ := vk_Sof (args := #[Value.ref b]) (s := s) (N := 1) (tm := fun _ => (Term.string "MistHeaps$Hill" 83)) (len := [5]) (byt := [[104, 105, 100, 101, 32]]) (A := A) (fun i hi => by obtain rfl : i = 0 := (by omega); decide) (fun i hi => by obtain rfl : i = 0 := (by omega); exact hs (.exactly (Term.string "MistHeaps$Hill" 83) "java/lang/String") (by decide +kernel)) (fun i hi => by obtain rfl : i = 0 := (by omega); exact hs (.eq (.field (Term.string "MistHeaps$Hill" 83) "java/lang/String" "coder" "B") (.int 0)) (by decide +kernel)) (fun i hi => by obtain rfl : i = 0 := (by omega); exact hs (.arrayOf (.field (Term.string "MistHeaps$Hill" 83) "java/lang/String" "value" "[B") .byte) (by decide +kernel)) (fun i hi => by obtain rfl : i = 0 := (by omega); exact hs (.eq (.length (.field (Term.string "MistHeaps$Hill" 83) "java/lang/String" "value" "[B")) (.int 5)) (by decide +kernel)) (fun i hi => by
    obtain rfl : i = 0 := (by omega)
    intro j hj
    match j, hj with
    | 0, _ => exact hs (.eq (.elem (.field (Term.string "MistHeaps$Hill" 83) "java/lang/String" "value" "[B") (.int 0)) (.int 104)) (by decide +kernel)
    | 1, _ => exact hs (.eq (.elem (.field (Term.string "MistHeaps$Hill" 83) "java/lang/String" "value" "[B") (.int 1)) (.int 105)) (by decide +kernel)
    | 2, _ => exact hs (.eq (.elem (.field (Term.string "MistHeaps$Hill" 83) "java/lang/String" "value" "[B") (.int 2)) (.int 100)) (by decide +kernel)
    | 3, _ => exact hs (.eq (.elem (.field (Term.string "MistHeaps$Hill" 83) "java/lang/String" "value" "[B") (.int 3)) (.int 101)) (by decide +kernel)
    | 4, _ => exact hs (.eq (.elem (.field (Term.string "MistHeaps$Hill" 83) "java/lang/String" "value" "[B") (.int 4)) (.int 32)) (by decide +kernel)
    | j + 5, hj => exact absurd hj (by simp)) (fun i j hi hj h => absurd (show i = j by omega) h) hAl
  obtain ⟨k2, v2, hSt2, heK2⟩ := vk_Sof (args := #[Value.ref b]) (s := s) (N := 1) (tm := fun _ => (Term.string "MistHeaps$Hill" 85)) (len := [6]) (byt := [[115, 105, 103, 104, 116, 32]]) (A := A) (fun i hi => by obtain rfl : i = 0 := (by omega); decide) (fun i hi => by obtain rfl : i = 0 := (by omega); exact hs (.exactly (Term.string "MistHeaps$Hill" 85) "java/lang/String") (by decide +kernel)) (fun i hi => by obtain rfl : i = 0 := (by omega); exact hs (.eq (.field (Term.string "MistHeaps$Hill" 85) "java/lang/String" "coder" "B") (.int 0)) (by decide +kernel)) (fun i hi => by obtain rfl : i = 0 := (by omega); exact hs (.arrayOf (.field (Term.string "MistHeaps$Hill" 85) "java/lang/String" "value" "[B") .byte) (by decide +kernel)) (fun i hi => by obtain rfl : i = 0 := (by omega); exact hs (.eq (.length (.field (Term.string "MistHeaps$Hill" 85) "java/lang/String" "value" "[B")) (.int 6)) (by decide +kernel)) (fun i hi => by
    obtain rfl : i = 0 := (by omega)
    intro j hj
    match j, hj with
    | 0, _ => exact hs (.eq (.elem (.field (Term.string "MistHeaps$Hill" 85) "java/lang/String" "value" "[B") (.int 0)) (.int 115)) (by decide +kernel)
    | 1, _ => exact hs (.eq (.elem (.field (Term.string "MistHeaps$Hill" 85) "java/lang/String" "value" "[B") (.int 1)) (.int 105)) (by decide +kernel)
    | 2, _ => exact hs (.eq (.elem (.field (Term.string "MistHeaps$Hill" 85) "java/lang/String" "value" "[B") (.int 2)) (.int 103)) (by decide +kernel)
    | 3, _ => exact hs (.eq (.elem (.field (Term.string "MistHeaps$Hill" 85) "java/lang/String" "value" "[B") (.int 3)) (.int 104)) (by decide +kernel)
    | 4, _ => exact hs (.eq (.elem (.field (Term.string "MistHeaps$Hill" 85) "java/lang/String" "value" "[B") (.int 4)) (.int 116)) (by decide +kernel)
    | 5, _ => exact hs (.eq (.elem (.field (Term.string "MistHeaps$Hill" 85) "java/lang/String" "value" "[B") (.int 5)) (.int 32)) (by decide +kernel)
    | j + 6, hj => exact absurd hj (by simp)) (fun i j hi hj h => absurd (show i = j by omega) h) hAl
  obtain ⟨k3, v3, hSt3, heK3⟩ := vk_Sof (args := #[Value.ref b]) (s := s) (N := 1) (tm := fun _ => (Term.string "MistHeaps$Hill" 87)) (len := [6]) (byt := [[100, 114, 105, 102, 116, 32]]) (A := A) (fun i hi => by obtain rfl : i = 0 := (by omega); decide) (fun i hi => by obtain rfl : i = 0 := (by omega); exact hs (.exactly (Term.string "MistHeaps$Hill" 87) "java/lang/String") (by decide +kernel)) (fun i hi => by obtain rfl : i = 0 := (by omega); exact hs (.eq (.field (Term.string "MistHeaps$Hill" 87) "java/lang/String" "coder" "B") (.int 0)) (by decide +kernel)) (fun i hi => by obtain rfl : i = 0 := (by omega); exact hs (.arrayOf (.field (Term.string "MistHeaps$Hill" 87) "java/lang/String" "value" "[B") .byte) (by decide +kernel)) (fun i hi => by obtain rfl : i = 0 := (by omega); exact hs (.eq (.length (.field (Term.string "MistHeaps$Hill" 87) "java/lang/String" "value" "[B")) (.int 6)) (by decide +kernel)) (fun i hi => by
    obtain rfl : i = 0 := (by omega)
    intro j hj
    match j, hj with
    | 0, _ => exact hs (.eq (.elem (.field (Term.string "MistHeaps$Hill" 87) "java/lang/String" "value" "[B") (.int 0)) (.int 100)) (by decide +kernel)
    | 1, _ => exact hs (.eq (.elem (.field (Term.string "MistHeaps$Hill" 87) "java/lang/String" "value" "[B") (.int 1)) (.int 114)) (by decide +kernel)
    | 2, _ => exact hs (.eq (.elem (.field (Term.string "MistHeaps$Hill" 87) "java/lang/String" "value" "[B") (.int 2)) (.int 105)) (by decide +kernel)
    | 3, _ => exact hs (.eq (.elem (.field (Term.string "MistHeaps$Hill" 87) "java/lang/String" "value" "[B") (.int 3)) (.int 102)) (by decide +kernel)
    | 4, _ => exact hs (.eq (.elem (.field (Term.string "MistHeaps$Hill" 87) "java/lang/String" "value" "[B") (.int 4)) (.int 116)) (by decide +kernel)
    | 5, _ => exact hs (.eq (.elem (.field (Term.string "MistHeaps$Hill" 87) "java/lang/String" "value" "[B") (.int 5)) (.int 32)) (by decide +kernel)
    | j + 6, hj => exact absurd hj (by simp)) (fun i j hi hj h => absurd (show i = j by omega) h) hAl
  obtain ⟨k4, v4, hSt4, heK4⟩ := vk_Sof (args := #[Value.ref b]) (s := s) (N := 1) (tm := fun _ => (Term.string "MistHeaps$Hill" 112)) (len := [6]) (byt := [[104, 107, 114, 99, 109, 115]]) (A := A) (fun i hi => by obtain rfl : i = 0 := (by omega); decide) (fun i hi => by obtain rfl : i = 0 := (by omega); exact hs (.exactly (Term.string "MistHeaps$Hill" 112) "java/lang/String") (by decide +kernel)) (fun i hi => by obtain rfl : i = 0 := (by omega); exact hs (.eq (.field (Term.string "MistHeaps$Hill" 112) "java/lang/String" "coder" "B") (.int 0)) (by decide +kernel)) (fun i hi => by obtain rfl : i = 0 := (by omega); exact hs (.arrayOf (.field (Term.string "MistHeaps$Hill" 112) "java/lang/String" "value" "[B") .byte) (by decide +kernel)) (fun i hi => by obtain rfl : i = 0 := (by omega); exact hs (.eq (.length (.field (Term.string "MistHeaps$Hill" 112) "java/lang/String" "value" "[B")) (.int 6)) (by decide +kernel)) (fun i hi => by
    obtain rfl : i = 0 := (by omega)
    intro j hj
    match j, hj with
    | 0, _ => exact hs (.eq (.elem (.field (Term.string "MistHeaps$Hill" 112) "java/lang/String" "value" "[B") (.int 0)) (.int 104)) (by decide +kernel)
    | 1, _ => exact hs (.eq (.elem (.field (Term.string "MistHeaps$Hill" 112) "java/lang/String" "value" "[B") (.int 1)) (.int 107)) (by decide +kernel)
    | 2, _ => exact hs (.eq (.elem (.field (Term.string "MistHeaps$Hill" 112) "java/lang/String" "value" "[B") (.int 2)) (.int 114)) (by decide +kernel)
    | 3, _ => exact hs (.eq (.elem (.field (Term.string "MistHeaps$Hill" 112) "java/lang/String" "value" "[B") (.int 3)) (.int 99)) (by decide +kernel)
    | 4, _ => exact hs (.eq (.elem (.field (Term.string "MistHeaps$Hill" 112) "java/lang/String" "value" "[B") (.int 4)) (.int 109)) (by decide +kernel)
    | 5, _ => exact hs (.eq (.elem (.field (Term.string "MistHeaps$Hill" 112) "java/lang/String" "value" "[B") (.int 5)) (.int 115)) (by decide +kernel)
    | j + 6, hj => exact absurd hj (by simp)) (fun i j hi hj h => absurd (show i = j by omega) h) hAl
  obtain ⟨k5, v5, hSt5, heK5⟩ := vk_Sof (args := #[Value.ref b]) (s := s) (N := 1) (tm := fun _ => (Term.string "MistHeaps$Hill" 118)) (len := [3]) (byt := [[60, 61, 62]]) (A := A) (fun i hi => by obtain rfl : i = 0 := (by omega); decide) (fun i hi => by obtain rfl : i = 0 := (by omega); exact hs (.exactly (Term.string "MistHeaps$Hill" 118) "java/lang/String") (by decide +kernel)) (fun i hi => by obtain rfl : i = 0 := (by omega); exact hs (.eq (.field (Term.string "MistHeaps$Hill" 118) "java/lang/String" "coder" "B") (.int 0)) (by decide +kernel)) (fun i hi => by obtain rfl : i = 0 := (by omega); exact hs (.arrayOf (.field (Term.string "MistHeaps$Hill" 118) "java/lang/String" "value" "[B") .byte) (by decide +kernel)) (fun i hi => by obtain rfl : i = 0 := (by omega); exact hs (.eq (.length (.field (Term.string "MistHeaps$Hill" 118) "java/lang/String" "value" "[B")) (.int 3)) (by decide +kernel)) (fun i hi => by
    obtain rfl : i = 0 := (by omega)
    intro j hj
    match j, hj with
    | 0, _ => exact hs (.eq (.elem (.field (Term.string "MistHeaps$Hill" 118) "java/lang/String" "value" "[B") (.int 0)) (.int 60)) (by decide +kernel)
    | 1, _ => exact hs (.eq (.elem (.field (Term.string "MistHeaps$Hill" 118) "java/lang/String" "value" "[B") (.int 1)) (.int 61)) (by decide +kernel)
    | 2, _ => exact hs (.eq (.elem (.field (Term.string "MistHeaps$Hill" 118) "java/lang/String" "value" "[B") (.int 2)) (.int 62)) (by decide +kernel)
    | j + 3, hj => exact absurd hj (by simp)) (fun i j hi hj h => absurd (show i = j by omega) h) hAl
  obtain ⟨k6, v6, hSt6, heK6⟩ := vk_Sof (args := #[Value.ref b]) (s := s) (N := 1) (tm := fun _ => (Term.string "MistHeapsModel" 101)) (len := [6]) (byt := [[104, 107, 114, 99, 109, 115]]) (A := A) (fun i hi => by obtain rfl : i = 0 := (by omega); decide) (fun i hi => by obtain rfl : i = 0 := (by omega); exact hs (.exactly (Term.string "MistHeapsModel" 101) "java/lang/String") (by decide +kernel)) (fun i hi => by obtain rfl : i = 0 := (by omega); exact hs (.eq (.field (Term.string "MistHeapsModel" 101) "java/lang/String" "coder" "B") (.int 0)) (by decide +kernel)) (fun i hi => by obtain rfl : i = 0 := (by omega); exact hs (.arrayOf (.field (Term.string "MistHeapsModel" 101) "java/lang/String" "value" "[B") .byte) (by decide +kernel)) (fun i hi => by obtain rfl : i = 0 := (by omega); exact hs (.eq (.length (.field (Term.string "MistHeapsModel" 101) "java/lang/String" "value" "[B")) (.int 6)) (by decide +kernel)) (fun i hi => by
    obtain rfl : i = 0 := (by omega)
    intro j hj
    match j, hj with
    | 0, _ => exact hs (.eq (.elem (.field (Term.string "MistHeapsModel" 101) "java/lang/String" "value" "[B") (.int 0)) (.int 104)) (by decide +kernel)
    | 1, _ => exact hs (.eq (.elem (.field (Term.string "MistHeapsModel" 101) "java/lang/String" "value" "[B") (.int 1)) (.int 107)) (by decide +kernel)
    | 2, _ => exact hs (.eq (.elem (.field (Term.string "MistHeapsModel" 101) "java/lang/String" "value" "[B") (.int 2)) (.int 114)) (by decide +kernel)
    | 3, _ => exact hs (.eq (.elem (.field (Term.string "MistHeapsModel" 101) "java/lang/String" "value" "[B") (.int 3)) (.int 99)) (by decide +kernel)
    | 4, _ => exact hs (.eq (.elem (.field (Term.string "MistHeapsModel" 101) "java/lang/String" "value" "[B") (.int 4)) (.int 109)) (by decide +kernel)
    | 5, _ => exact hs (.eq (.elem (.field (Term.string "MistHeapsModel" 101) "java/lang/String" "value" "[B") (.int 5)) (.int 115)) (by decide +kernel)
    | j + 6, hj => exact absurd hj (by simp)) (fun i j hi hj h => absurd (show i = j by omega) h) hAl
  obtain ⟨k7, v7, hSt7, heK7⟩ := vk_Sof (args := #[Value.ref b]) (s := s) (N := 1) (tm := fun _ => (Term.string "MistHeapsModel" 107)) (len := [3]) (byt := [[60, 61, 62]]) (A := A) (fun i hi => by obtain rfl : i = 0 := (by omega); decide) (fun i hi => by obtain rfl : i = 0 := (by omega); exact hs (.exactly (Term.string "MistHeapsModel" 107) "java/lang/String") (by decide +kernel)) (fun i hi => by obtain rfl : i = 0 := (by omega); exact hs (.eq (.field (Term.string "MistHeapsModel" 107) "java/lang/String" "coder" "B") (.int 0)) (by decide +kernel)) (fun i hi => by obtain rfl : i = 0 := (by omega); exact hs (.arrayOf (.field (Term.string "MistHeapsModel" 107) "java/lang/String" "value" "[B") .byte) (by decide +kernel)) (fun i hi => by obtain rfl : i = 0 := (by omega); exact hs (.eq (.length (.field (Term.string "MistHeapsModel" 107) "java/lang/String" "value" "[B")) (.int 3)) (by decide +kernel)) (fun i hi => by
    obtain rfl : i = 0 := (by omega)
    intro j hj
    match j, hj with
    | 0, _ => exact hs (.eq (.elem (.field (Term.string "MistHeapsModel" 107) "java/lang/String" "value" "[B") (.int 0)) (.int 60)) (by decide +kernel)
    | 1, _ => exact hs (.eq (.elem (.field (Term.string "MistHeapsModel" 107) "java/lang/String" "value" "[B") (.int 1)) (.int 61)) (by decide +kernel)
    | 2, _ => exact hs (.eq (.elem (.field (Term.string "MistHeapsModel" 107) "java/lang/String" "value" "[B") (.int 2)) (.int 62)) (by decide +kernel)
    | j + 3, hj => exact absurd hj (by simp)) (fun i j hi hj h => absurd (show i = j by omega) h) hAl
  obtain ⟨k8, v8, hSt8, heK8⟩ := vk_Sof (args := #[Value.ref b]) (s := s) (N := 1) (tm := fun _ => (Term.string "MistHeapsModel" 119)) (len := [3]) (byt := [[101, 101, 32]]) (A := A) (fun i hi => by obtain rfl : i = 0 := (by omega); decide) (fun i hi => by obtain rfl : i = 0 := (by omega); exact hs (.exactly (Term.string "MistHeapsModel" 119) "java/lang/String") (by decide +kernel)) (fun i hi => by obtain rfl : i = 0 := (by omega); exact hs (.eq (.field (Term.string "MistHeapsModel" 119) "java/lang/String" "coder" "B") (.int 0)) (by decide +kernel)) (fun i hi => by obtain rfl : i = 0 := (by omega); exact hs (.arrayOf (.field (Term.string "MistHeapsModel" 119) "java/lang/String" "value" "[B") .byte) (by decide +kernel)) (fun i hi => by obtain rfl : i = 0 := (by omega); exact hs (.eq (.length (.field (Term.string "MistHeapsModel" 119) "java/lang/String" "value" "[B")) (.int 3)) (by decide +kernel)) (fun i hi => by
    obtain rfl : i = 0 := (by omega)
    intro j hj
    match j, hj with
    | 0, _ => exact hs (.eq (.elem (.field (Term.string "MistHeapsModel" 119) "java/lang/String" "value" "[B") (.int 0)) (.int 101)) (by decide +kernel)
    | 1, _ => exact hs (.eq (.elem (.field (Term.string "MistHeapsModel" 119) "java/lang/String" "value" "[B") (.int 1)) (.int 101)) (by decide +kernel)
    | 2, _ => exact hs (.eq (.elem (.field (Term.string "MistHeapsModel" 119) "java/lang/String" "value" "[B") (.int 2)) (.int 32)) (by decide +kernel)
    | j + 3, hj => exact absurd hj (by simp)) (fun i j hi hj h => absurd (show i = j by omega) h) hAl
  obtain ⟨k9, v9, hSt9, heK9⟩ := vk_Sof (args := #[Value.ref b]) (s := s) (N := 1) (tm := fun _ => (Term.string "MistHeapsModel" 125)) (len := [5]) (byt := [[105, 103, 104, 116, 32]]) (A := A) (fun i hi => by obtain rfl : i = 0 := (by omega); decide) (fun i hi => by obtain rfl : i = 0 := (by omega); exact hs (.exactly (Term.string "MistHeapsModel" 125) "java/lang/String") (by decide +kernel)) (fun i hi => by obtain rfl : i = 0 := (by omega); exact hs (.eq (.field (Term.string "MistHeapsModel" 125) "java/lang/String" "coder" "B") (.int 0)) (by decide +kernel)) (fun i hi => by obtain rfl : i = 0 := (by omega); exact hs (.arrayOf (.field (Term.string "MistHeapsModel" 125) "java/lang/String" "value" "[B") .byte) (by decide +kernel)) (fun i hi => by obtain rfl : i = 0 := (by omega); exact hs (.eq (.length (.field (Term.string "MistHeapsModel" 125) "java/lang/String" "value" "[B")) (.int 5)) (by decide +kernel)) (fun i hi => by
    obtain rfl : i = 0 := (by omega)
    intro j hj
    match j, hj with
    | 0, _ => exact hs (.eq (.elem (.field (Term.string "MistHeapsModel" 125) "java/lang/String" "value" "[B") (.int 0)) (.int 105)) (by decide +kernel)
    | 1, _ => exact hs (.eq (.elem (.field (Term.string "MistHeapsModel" 125) "java/lang/String" "value" "[B") (.int 1)) (.int 103)) (by decide +kernel)
    | 2, _ => exact hs (.eq (.elem (.field (Term.string "MistHeapsModel" 125) "java/lang/String" "value" "[B") (.int 2)) (.int 104)) (by decide +kernel)
    | 3, _ => exact hs (.eq (.elem (.field (Term.string "MistHeapsModel" 125) "java/lang/String" "value" "[B") (.int 3)) (.int 116)) (by decide +kernel)
    | 4, _ => exact hs (.eq (.elem (.field (Term.string "MistHeapsModel" 125) "java/lang/String" "value" "[B") (.int 4)) (.int 32)) (by decide +kernel)
    | j + 5, hj => exact absurd hj (by simp)) (fun i j hi hj h => absurd (show i = j by omega) h) hAl
  obtain ⟨k10, v10, hSt10, heK10⟩ := vk_Sof (args := #[Value.ref b]) (s := s) (N := 1) (tm := fun _ => (Term.string "MistHeapsModel" 130)) (len := [5]) (byt := [[104, 105, 100, 101, 32]]) (A := A) (fun i hi => by obtain rfl : i = 0 := (by omega); decide) (fun i hi => by obtain rfl : i = 0 := (by omega); exact hs (.exactly (Term.string "MistHeapsModel" 130) "java/lang/String") (by decide +kernel)) (fun i hi => by obtain rfl : i = 0 := (by omega); exact hs (.eq (.field (Term.string "MistHeapsModel" 130) "java/lang/String" "coder" "B") (.int 0)) (by decide +kernel)) (fun i hi => by obtain rfl : i = 0 := (by omega); exact hs (.arrayOf (.field (Term.string "MistHeapsModel" 130) "java/lang/String" "value" "[B") .byte) (by decide +kernel)) (fun i hi => by obtain rfl : i = 0 := (by omega); exact hs (.eq (.length (.field (Term.string "MistHeapsModel" 130) "java/lang/String" "value" "[B")) (.int 5)) (by decide +kernel)) (fun i hi => by
    obtain rfl : i = 0 := (by omega)
    intro j hj
    match j, hj with
    | 0, _ => exact hs (.eq (.elem (.field (Term.string "MistHeapsModel" 130) "java/lang/String" "value" "[B") (.int 0)) (.int 104)) (by decide +kernel)
    | 1, _ => exact hs (.eq (.elem (.field (Term.string "MistHeapsModel" 130) "java/lang/String" "value" "[B") (.int 1)) (.int 105)) (by decide +kernel)
    | 2, _ => exact hs (.eq (.elem (.field (Term.string "MistHeapsModel" 130) "java/lang/String" "value" "[B") (.int 2)) (.int 100)) (by decide +kernel)
    | 3, _ => exact hs (.eq (.elem (.field (Term.string "MistHeapsModel" 130) "java/lang/String" "value" "[B") (.int 3)) (.int 101)) (by decide +kernel)
    | 4, _ => exact hs (.eq (.elem (.field (Term.string "MistHeapsModel" 130) "java/lang/String" "value" "[B") (.int 4)) (.int 32)) (by decide +kernel)
    | j + 5, hj => exact absurd hj (by simp)) (fun i j hi hj h => absurd (show i = j by omega) h) hAl
  obtain ⟨k11, v11, hSt11, heK11⟩ := vk_Sof (args := #[Value.ref b]) (s := s) (N := 1) (tm := fun _ => (Term.string "MistHeapsModel" 132)) (len := [6]) (byt := [[100, 114, 105, 102, 116, 32]]) (A := A) (fun i hi => by obtain rfl : i = 0 := (by omega); decide) (fun i hi => by obtain rfl : i = 0 := (by omega); exact hs (.exactly (Term.string "MistHeapsModel" 132) "java/lang/String") (by decide +kernel)) (fun i hi => by obtain rfl : i = 0 := (by omega); exact hs (.eq (.field (Term.string "MistHeapsModel" 132) "java/lang/String" "coder" "B") (.int 0)) (by decide +kernel)) (fun i hi => by obtain rfl : i = 0 := (by omega); exact hs (.arrayOf (.field (Term.string "MistHeapsModel" 132) "java/lang/String" "value" "[B") .byte) (by decide +kernel)) (fun i hi => by obtain rfl : i = 0 := (by omega); exact hs (.eq (.length (.field (Term.string "MistHeapsModel" 132) "java/lang/String" "value" "[B")) (.int 6)) (by decide +kernel)) (fun i hi => by
    obtain rfl : i = 0 := (by omega)
    intro j hj
    match j, hj with
    | 0, _ => exact hs (.eq (.elem (.field (Term.string "MistHeapsModel" 132) "java/lang/String" "value" "[B") (.int 0)) (.int 100)) (by decide +kernel)
    | 1, _ => exact hs (.eq (.elem (.field (Term.string "MistHeapsModel" 132) "java/lang/String" "value" "[B") (.int 1)) (.int 114)) (by decide +kernel)
    | 2, _ => exact hs (.eq (.elem (.field (Term.string "MistHeapsModel" 132) "java/lang/String" "value" "[B") (.int 2)) (.int 105)) (by decide +kernel)
    | 3, _ => exact hs (.eq (.elem (.field (Term.string "MistHeapsModel" 132) "java/lang/String" "value" "[B") (.int 3)) (.int 102)) (by decide +kernel)
    | 4, _ => exact hs (.eq (.elem (.field (Term.string "MistHeapsModel" 132) "java/lang/String" "value" "[B") (.int 4)) (.int 116)) (by decide +kernel)
    | 5, _ => exact hs (.eq (.elem (.field (Term.string "MistHeapsModel" 132) "java/lang/String" "value" "[B") (.int 5)) (.int 32)) (by decide +kernel)
    | j + 6, hj => exact absurd hj (by simp)) (fun i j hi hj h => absurd (show i = j by omega) h) hAl
  have Zcs := va_Zof (args := #[Value.ref b]) (s := s) (A := A) (hts0 (.laysStatic "java/lang/String" "COMPACT_STRINGS" "Z") (by decide +kernel)) (hts0 (.initialized "java/lang/String") (by decide +kernel)) (va_eqi (hs (.eq (.static "java/lang/String" "COMPACT_STRINGS" "Z") (.int 1)) (by decide +kernel))) hAl
  obtain ⟨vf, evf, hvf⟩ := Cond.isRef_spec (hs (.isRef (.static "jdk/internal/util/Preconditions" "SIOOBE_FORMATTER" "Ljava/util/function/BiFunction;")) (by decide +kernel))
  obtain ⟨fz, ff, eff⟩ : ∃ fz ff : Nat, vf = va_rf (if fz = 0 then none else some ff) := by
    cases vf with
    | ref z9 => exact ⟨1, z9, rfl⟩
    | null => exact ⟨0, 0, rfl⟩
    | _ => cases hvf
  have Zff := va_Zof (args := #[Value.ref b]) (s := s) (A := A) (hts0 (.laysStatic "jdk/internal/util/Preconditions" "SIOOBE_FORMATTER" "Ljava/util/function/BiFunction;") (by decide +kernel)) (hts0 (.initialized "jdk/internal/util/Preconditions") (by decide +kernel)) evf hAl
  rw [eff] at Zff
  have okN : ∀ w ∈ lw_tbl, okW w → w.before #[] s = true := fun w hw hok => word_at (State.WarmedH.refl s) hok (hts0 w hw)
  refine ⟨fun k => if k = 0 then tD else tR, tK, ad, cB, bS, fun i => [k0 0, k1 0, k2 0, k3 0, k4 0, k5 0, k6 0, k7 0, k8 0, k9 0, k10 0, k11 0].getD i 0, fun i => [v0 0, v1 0, v2 0, v3 0, v4 0, v5 0, v6 0, v7 0, v8 0, v9 0, v10 0, v11 0, fz, ff].getD i 0, ?_, ?_, ?_, ?_, ?_, ?_, ?_⟩
  · exact ⟨fun w hw => va_Nw.of (nestW_tab w hw) (hts0 w (nestW_in w hw)), ZtD, TtD, ZtR, TtR⟩
  · exact fun w hw => okN w (tin_old w hw) (oldW_ok w hw)
  · exact ⟨fun w hw => va_Nw.of (nestF_tab w hw) (hts0 w (nestF_in w hw)), ZtK, TtK⟩
  · exact ⟨hCc, Zhi, ZcB, TcB, va_Nw.of rfl (hts0 (.castable "java/lang/Integer" "java/lang/Object") (by decide +kernel)), ZB, TbS, va_AO.of (hts0 (.arrayOver (.object "java/lang/Object")) (by decide +kernel))⟩
  · exact fun w hw => okN w (tin_beg w hw) (begW_ok w hw)
  · exact ⟨va_AO.of (hts0 (.arrayOver (.object "MistHeaps$Heap")) (by decide +kernel)), hts0 (.arrayOver (.array .long)) (by decide +kernel), hts0 (.arrayOver (.array .int)) (by decide +kernel), fun w hw => va_Nw.of (castW_tab w hw) (hts0 w (castW_in w hw)), ZB⟩
  · refine ⟨fun i hi => ?_, fun i hi => ?_, Zcs, Zff⟩
    · match i, hi with
      | 0, _ => exact vk_R.of (A := #[Value.ref b]) (hts0 (.stringRef RX5 81 "see ") (by decide +kernel)) (heK0 0 (by omega))
      | 1, _ => exact vk_R.of (A := #[Value.ref b]) (hts0 (.stringRef RX5 83 "hide ") (by decide +kernel)) (heK1 0 (by omega))
      | 2, _ => exact vk_R.of (A := #[Value.ref b]) (hts0 (.stringRef RX5 85 "sight ") (by decide +kernel)) (heK2 0 (by omega))
      | 3, _ => exact vk_R.of (A := #[Value.ref b]) (hts0 (.stringRef RX5 87 "drift ") (by decide +kernel)) (heK3 0 (by omega))
      | 4, _ => exact vk_R.of (A := #[Value.ref b]) (hts0 (.stringRef RX5 112 "hkrcms") (by decide +kernel)) (heK4 0 (by omega))
      | 5, _ => exact vk_R.of (A := #[Value.ref b]) (hts0 (.stringRef RX5 118 "<=>") (by decide +kernel)) (heK5 0 (by omega))
      | 6, _ => exact vk_R.of (A := #[Value.ref b]) (hts0 (.stringRef RX12 101 "hkrcms") (by decide +kernel)) (heK6 0 (by omega))
      | 7, _ => exact vk_R.of (A := #[Value.ref b]) (hts0 (.stringRef RX12 107 "<=>") (by decide +kernel)) (heK7 0 (by omega))
      | 8, _ => exact vk_R.of (A := #[Value.ref b]) (hts0 (.stringRef RX12 119 "ee ") (by decide +kernel)) (heK8 0 (by omega))
      | 9, _ => exact vk_R.of (A := #[Value.ref b]) (hts0 (.stringRef RX12 125 "ight ") (by decide +kernel)) (heK9 0 (by omega))
      | 10, _ => exact vk_R.of (A := #[Value.ref b]) (hts0 (.stringRef RX12 130 "hide ") (by decide +kernel)) (heK10 0 (by omega))
      | 11, _ => exact vk_R.of (A := #[Value.ref b]) (hts0 (.stringRef RX12 132 "drift ") (by decide +kernel)) (heK11 0 (by omega))
      | i + 12, hi => exact absurd hi (by omega)
    · match i, hi with
      | 0, _ =>
        obtain ⟨a1, a2, a3, a4⟩ := hSt0.1 0 (by omega)
        exact ⟨a1, a2, a3, va_T_cong a4 (fun j hj => congrArg Value.int ((by decide : ∀ j, j < 4 → (([[115, 101, 101, 32]] : List (List Int32)).getD 0 []).getD j 0 = nI ((sTx 0).getD j 0)) j hj))⟩
      | 1, _ =>
        obtain ⟨a1, a2, a3, a4⟩ := hSt1.1 0 (by omega)
        exact ⟨a1, a2, a3, va_T_cong a4 (fun j hj => congrArg Value.int ((by decide : ∀ j, j < 5 → (([[104, 105, 100, 101, 32]] : List (List Int32)).getD 0 []).getD j 0 = nI ((sTx 1).getD j 0)) j hj))⟩
      | 2, _ =>
        obtain ⟨a1, a2, a3, a4⟩ := hSt2.1 0 (by omega)
        exact ⟨a1, a2, a3, va_T_cong a4 (fun j hj => congrArg Value.int ((by decide : ∀ j, j < 6 → (([[115, 105, 103, 104, 116, 32]] : List (List Int32)).getD 0 []).getD j 0 = nI ((sTx 2).getD j 0)) j hj))⟩
      | 3, _ =>
        obtain ⟨a1, a2, a3, a4⟩ := hSt3.1 0 (by omega)
        exact ⟨a1, a2, a3, va_T_cong a4 (fun j hj => congrArg Value.int ((by decide : ∀ j, j < 6 → (([[100, 114, 105, 102, 116, 32]] : List (List Int32)).getD 0 []).getD j 0 = nI ((sTx 3).getD j 0)) j hj))⟩
      | 4, _ =>
        obtain ⟨a1, a2, a3, a4⟩ := hSt4.1 0 (by omega)
        exact ⟨a1, a2, a3, va_T_cong a4 (fun j hj => congrArg Value.int ((by decide : ∀ j, j < 6 → (([[104, 107, 114, 99, 109, 115]] : List (List Int32)).getD 0 []).getD j 0 = nI ((sTx 4).getD j 0)) j hj))⟩
      | 5, _ =>
        obtain ⟨a1, a2, a3, a4⟩ := hSt5.1 0 (by omega)
        exact ⟨a1, a2, a3, va_T_cong a4 (fun j hj => congrArg Value.int ((by decide : ∀ j, j < 3 → (([[60, 61, 62]] : List (List Int32)).getD 0 []).getD j 0 = nI ((sTx 5).getD j 0)) j hj))⟩
      | 6, _ =>
        obtain ⟨a1, a2, a3, a4⟩ := hSt6.1 0 (by omega)
        exact ⟨a1, a2, a3, va_T_cong a4 (fun j hj => congrArg Value.int ((by decide : ∀ j, j < 6 → (([[104, 107, 114, 99, 109, 115]] : List (List Int32)).getD 0 []).getD j 0 = nI ((sTx 6).getD j 0)) j hj))⟩
      | 7, _ =>
        obtain ⟨a1, a2, a3, a4⟩ := hSt7.1 0 (by omega)
        exact ⟨a1, a2, a3, va_T_cong a4 (fun j hj => congrArg Value.int ((by decide : ∀ j, j < 3 → (([[60, 61, 62]] : List (List Int32)).getD 0 []).getD j 0 = nI ((sTx 7).getD j 0)) j hj))⟩
      | 8, _ =>
        obtain ⟨a1, a2, a3, a4⟩ := hSt8.1 0 (by omega)
        exact ⟨a1, a2, a3, va_T_cong a4 (fun j hj => congrArg Value.int ((by decide : ∀ j, j < 3 → (([[101, 101, 32]] : List (List Int32)).getD 0 []).getD j 0 = nI ((sTx 8).getD j 0)) j hj))⟩
      | 9, _ =>
        obtain ⟨a1, a2, a3, a4⟩ := hSt9.1 0 (by omega)
        exact ⟨a1, a2, a3, va_T_cong a4 (fun j hj => congrArg Value.int ((by decide : ∀ j, j < 5 → (([[105, 103, 104, 116, 32]] : List (List Int32)).getD 0 []).getD j 0 = nI ((sTx 9).getD j 0)) j hj))⟩
      | 10, _ =>
        obtain ⟨a1, a2, a3, a4⟩ := hSt10.1 0 (by omega)
        exact ⟨a1, a2, a3, va_T_cong a4 (fun j hj => congrArg Value.int ((by decide : ∀ j, j < 5 → (([[104, 105, 100, 101, 32]] : List (List Int32)).getD 0 []).getD j 0 = nI ((sTx 10).getD j 0)) j hj))⟩
      | 11, _ =>
        obtain ⟨a1, a2, a3, a4⟩ := hSt11.1 0 (by omega)
        exact ⟨a1, a2, a3, va_T_cong a4 (fun j hj => congrArg Value.int ((by decide : ∀ j, j < 6 → (([[100, 114, 105, 102, 116, 32]] : List (List Int32)).getD 0 []).getD j 0 = nI ((sTx 11).getD j 0)) j hj))⟩
      | i + 12, hi => exact absurd hi (by omega)
