noncomputable def lw_good : List Cond := lw_tbl.filter goodWord
theorem goodIn_r {big : List Cond} (ws : List Cond) (ps : List Nat) (hp : ws = ps.filterMap (fun i => big[i]?)) (h : ws.all goodWord = true) : GoodIn big ws := by
  intro w hw
  have h1 := List.all_eq_true.mp h w hw
  rw [hp] at hw
  obtain ⟨i, -, hi⟩ := List.mem_filterMap.mp hw
  have hm : w ∈ big := by first | exact List.mem_of_getElem? hi | exact List.getElem?_mem hi
  exact ⟨hm, good_of_word h1⟩
theorem goodIn_app {big a b : List Cond} (ha : GoodIn big a) (hb : GoodIn big b) : GoodIn big (a ++ b) := fun w h => (List.mem_append.mp h).elim (ha w) (hb w)
theorem goodIn_ca {big a b : List Cond} {c : Cond} (ha : GoodIn big (c :: a)) (hb : GoodIn big b) : GoodIn big (c :: (a ++ b)) := fun w h => (List.mem_cons.mp h).elim (fun e => ha w (List.mem_cons.mpr (Or.inl e))) (fun h => (List.mem_append.mp h).elim (fun h => ha w (List.mem_cons.mpr (Or.inr h))) (hb w))
theorem goodIn_sub {big ws : List Cond} (hm : ∀ w ∈ ws, w ∈ big) (h : ws.all goodWord = true) : GoodIn big ws := fun w hw => ⟨hm w hw, good_of_word (List.all_eq_true.mp h w hw)⟩
/-! ===== END ===== -/

/-! ===== BEGIN new T[n][m]: the outer array a place, the inner ones among the pooled ===== -/
noncomputable def RX0 : String := "MistHeaps$Chances"
noncomputable def TX0 : u_T := fun k => match k with
  | 0 => ("MistHeaps$Chances", "foundTimes", "J", false)
  | 1 => ("MistHeaps$Chances", "foundRow", "I", false)
  | 2 => ("MistHeaps$Chances", "drifts", "[I", true)
  | 3 => ("MistHeaps$Chances", "times", "[[J", true)
  | _ => ("MistHeaps$Chances", "hits", "[[I", true)
noncomputable def tyX0 : Nat → FieldType := fun k => match k with
  | 0 => .long
  | 1 => .int
  | 2 => .array .int
  | 3 => .array (.array .long)
  | _ => .array (.array .int)
noncomputable abbrev wsX00 : List Cond := u_ws RX0 TX0 5
theorem nmX0 : ∀ a, a < 5 → ∀ b, b < 5 → a ≠ b → (TX0 a).2.1 ≠ (TX0 b).2.1 := by decide +kernel
theorem tyX0_ok : ∀ k, k < 5 → parseFieldDescriptor (TX0 k).2.2.1 = some (tyX0 k) := by decide +kernel
noncomputable abbrev cX0_init : ByteArray := prog_2_method_1_code
noncomputable def yX0_init : MethodName := ⟨RX0, "<init>", "()V"⟩
noncomputable abbrev cX0_timesOf : ByteArray := prog_2_method_2_code
noncomputable def yX0_timesOf : MethodName := ⟨RX0, "timesOf", "(I)J"⟩
noncomputable abbrev cX0_walked : ByteArray := prog_2_method_3_code
noncomputable def yX0_walked : MethodName := ⟨RX0, "walked", "(LMistHeaps$Scene;IJ)J"⟩
noncomputable abbrev cX0_begin : ByteArray := prog_2_method_4_code
noncomputable def yX0_begin : MethodName := ⟨RX0, "begin", "(LMistHeaps$Scene;I)V"⟩
noncomputable abbrev cX0_spread : ByteArray := prog_2_method_5_code
noncomputable def yX0_spread : MethodName := ⟨RX0, "spread", "(LMistHeaps$Scene;[JI[J)V"⟩
noncomputable abbrev cX0_search : ByteArray := prog_2_method_6_code
noncomputable def yX0_search : MethodName := ⟨RX0, "search", "(LMistHeaps$Scene;IJI)V"⟩
noncomputable abbrev cX0_tellHits : ByteArray := prog_2_method_7_code
noncomputable def yX0_tellHits : MethodName := ⟨RX0, "tellHits", "(LMistHeaps$Scene;J)V"⟩
noncomputable abbrev cX0_hit : ByteArray := prog_2_method_8_code
noncomputable def yX0_hit : MethodName := ⟨RX0, "hit", "(JI)I"⟩
noncomputable abbrev cX0_tryLast : ByteArray := prog_2_method_9_code
noncomputable def yX0_tryLast : MethodName := ⟨RX0, "tryLast", "([JI)V"⟩
noncomputable abbrev cX0_foundWay : ByteArray := prog_2_method_10_code
noncomputable def yX0_foundWay : MethodName := ⟨RX0, "foundWay", "(II)I"⟩
noncomputable def RX1 : String := "MistHeaps$False"
noncomputable def TX1 : u_T := fun k => match k with
  | 0 => ("MistHeaps$Heap", "kind", "I", true)
  | 1 => ("MistHeaps$Heap", "number", "I", false)
  | 2 => ("MistHeaps$Heap", "v", "I", true)
  | _ => ("MistHeaps$Heap", "cell", "I", false)
noncomputable def tyX1 : Nat → FieldType := fun k => match k with
  | 0 => .int
  | 1 => .int
  | 2 => .int
  | _ => .int
noncomputable abbrev wsX10 : List Cond := u_ws RX1 TX1 4
theorem nmX1 : ∀ a, a < 4 → ∀ b, b < 4 → a ≠ b → (TX1 a).2.1 ≠ (TX1 b).2.1 := by decide +kernel
theorem tyX1_ok : ∀ k, k < 4 → parseFieldDescriptor (TX1 k).2.2.1 = some (tyX1 k) := by decide +kernel
noncomputable abbrev cX1_init : ByteArray := prog_3_method_1_code
noncomputable def yX1_init : MethodName := ⟨RX1, "<init>", "(IIII)V"⟩
noncomputable abbrev cX1_leadsTo : ByteArray := prog_3_method_2_code
noncomputable def yX1_leadsTo : MethodName := ⟨RX1, "leadsTo", "(I)Z"⟩
noncomputable abbrev cX1_doLooks : ByteArray := prog_3_method_3_code
noncomputable def yX1_doLooks : MethodName := ⟨RX1, "doLooks", "(ILjava/util/ArrayList;)I"⟩
noncomputable def RX2 : String := "MistHeaps$Goings"
noncomputable def TX2 : u_T := fun k => match k with
  | 0 => ("MistHeaps$Goings", "reach", "[I", true)
  | 1 => ("MistHeaps$Goings", "onward", "[I", true)
  | 2 => ("MistHeaps$Goings", "linked", "I", false)
  | _ => ("MistHeaps$Goings", "spare", "LMistHeaps$Heap;", true)
noncomputable def tyX2 : Nat → FieldType := fun k => match k with
  | 0 => .array .int
  | 1 => .array .int
  | 2 => .int
  | _ => .object "MistHeaps$Heap"
noncomputable abbrev wsX20 : List Cond := u_ws RX2 TX2 4
theorem nmX2 : ∀ a, a < 4 → ∀ b, b < 4 → a ≠ b → (TX2 a).2.1 ≠ (TX2 b).2.1 := by decide +kernel
theorem tyX2_ok : ∀ k, k < 4 → parseFieldDescriptor (TX2 k).2.2.1 = some (tyX2 k) := by decide +kernel
noncomputable abbrev cX2_init : ByteArray := prog_4_method_1_code
noncomputable def yX2_init : MethodName := ⟨RX2, "<init>", "()V"⟩
noncomputable abbrev cX2_measure : ByteArray := prog_4_method_2_code
noncomputable def yX2_measure : MethodName := ⟨RX2, "measure", "(LMistHeaps$Scene;I)V"⟩
noncomputable abbrev cX2_seenFrom : ByteArray := prog_4_method_3_code
noncomputable def yX2_seenFrom : MethodName := ⟨RX2, "seenFrom", "(LMistHeaps$Scene;I)I"⟩
noncomputable abbrev cX2_link : ByteArray := prog_4_method_4_code
noncomputable def yX2_link : MethodName := ⟨RX2, "link", "(LMistHeaps$Scene;I)V"⟩
noncomputable abbrev cX2_tellGoing : ByteArray := prog_4_method_5_code
noncomputable def yX2_tellGoing : MethodName := ⟨RX2, "tellGoing", "(LMistHeaps$Heap;LMistHeaps$Heap;)V"⟩
noncomputable abbrev cX2_isGoing : ByteArray := prog_4_method_6_code
noncomputable def yX2_isGoing : MethodName := ⟨RX2, "isGoing", "(II)Z"⟩
noncomputable abbrev cX2_fewest : ByteArray := prog_4_method_7_code
noncomputable def yX2_fewest : MethodName := ⟨RX2, "fewest", "(III)I"⟩
noncomputable abbrev cX2_onwardFrom : ByteArray := prog_4_method_8_code
noncomputable def yX2_onwardFrom : MethodName := ⟨RX2, "onwardFrom", "(I)I"⟩
noncomputable abbrev cX2_first : ByteArray := prog_4_method_9_code
noncomputable def yX2_first : MethodName := ⟨RX2, "first", "(II)I"⟩
noncomputable abbrev cX2_breaks : ByteArray := prog_4_method_10_code
noncomputable def yX2_breaks : MethodName := ⟨RX2, "breaks", "(II)I"⟩
noncomputable abbrev cX2_bestCell : ByteArray := prog_4_method_11_code
noncomputable def yX2_bestCell : MethodName := ⟨RX2, "bestCell", "(LMistHeaps$Scene;II)I"⟩
noncomputable abbrev cX2_join : ByteArray := prog_4_method_12_code
noncomputable def yX2_join : MethodName := ⟨RX2, "join", "(LMistHeaps$Scene;I)V"⟩
noncomputable def RX3 : String := "MistHeaps$Heap"
noncomputable def TX3 : u_T := fun k => match k with
  | 0 => ("MistHeaps$Heap", "kind", "I", true)
  | 1 => ("MistHeaps$Heap", "number", "I", false)
  | 2 => ("MistHeaps$Heap", "v", "I", true)
  | _ => ("MistHeaps$Heap", "cell", "I", false)
noncomputable def tyX3 : Nat → FieldType := fun k => match k with
  | 0 => .int
  | 1 => .int
  | 2 => .int
  | _ => .int
noncomputable abbrev wsX30 : List Cond := u_ws RX3 TX3 4
theorem nmX3 : ∀ a, a < 4 → ∀ b, b < 4 → a ≠ b → (TX3 a).2.1 ≠ (TX3 b).2.1 := by decide +kernel
theorem tyX3_ok : ∀ k, k < 4 → parseFieldDescriptor (TX3 k).2.2.1 = some (tyX3 k) := by decide +kernel
noncomputable abbrev cX3_init : ByteArray := prog_5_method_1_code
noncomputable def yX3_init : MethodName := ⟨RX3, "<init>", "(IIII)V"⟩
noncomputable abbrev cX3_isOfKind : ByteArray := prog_5_method_2_code
noncomputable def yX3_isOfKind : MethodName := ⟨RX3, "isOfKind", "(I)Z"⟩
noncomputable abbrev cX3_reachBy : ByteArray := prog_5_method_3_code
noncomputable def yX3_reachBy : MethodName := ⟨RX3, "reachBy", "(II)I"⟩
noncomputable abbrev cX3_leadsTo : ByteArray := prog_5_method_4_code
noncomputable def yX3_leadsTo : MethodName := ⟨RX3, "leadsTo", "(I)Z"⟩
noncomputable abbrev cX3_doSees : ByteArray := prog_5_method_5_code
noncomputable def yX3_doSees : MethodName := ⟨RX3, "doSees", "(ILjava/util/ArrayList;)I"⟩
noncomputable abbrev cX3_doGoes : ByteArray := prog_5_method_6_code
noncomputable def yX3_doGoes : MethodName := ⟨RX3, "doGoes", "(ILjava/util/ArrayList;)I"⟩
noncomputable abbrev cX3_doLooks : ByteArray := prog_5_method_7_code
noncomputable def yX3_doLooks : MethodName := ⟨RX3, "doLooks", "(ILjava/util/ArrayList;)I"⟩
noncomputable abbrev cX3_begin : ByteArray := prog_5_method_8_code
noncomputable def yX3_begin : MethodName := ⟨RX3, "begin", "(ILjava/util/ArrayList;)V"⟩
noncomputable def RX4 : String := "MistHeaps$High"
noncomputable def TX4 : u_T := fun k => match k with
  | 0 => ("MistHeaps$Heap", "kind", "I", true)
  | 1 => ("MistHeaps$Heap", "number", "I", false)
  | 2 => ("MistHeaps$Heap", "v", "I", true)
  | _ => ("MistHeaps$Heap", "cell", "I", false)
noncomputable def tyX4 : Nat → FieldType := fun k => match k with
  | 0 => .int
  | 1 => .int
  | 2 => .int
  | _ => .int
noncomputable abbrev wsX40 : List Cond := u_ws RX4 TX4 4
theorem nmX4 : ∀ a, a < 4 → ∀ b, b < 4 → a ≠ b → (TX4 a).2.1 ≠ (TX4 b).2.1 := by decide +kernel
theorem tyX4_ok : ∀ k, k < 4 → parseFieldDescriptor (TX4 k).2.2.1 = some (tyX4 k) := by decide +kernel
noncomputable abbrev cX4_init : ByteArray := prog_6_method_1_code
noncomputable def yX4_init : MethodName := ⟨RX4, "<init>", "(IIII)V"⟩
noncomputable abbrev cX4_reachBy : ByteArray := prog_6_method_2_code
noncomputable def yX4_reachBy : MethodName := ⟨RX4, "reachBy", "(II)I"⟩
noncomputable abbrev cX4_doSees : ByteArray := prog_6_method_3_code
noncomputable def yX4_doSees : MethodName := ⟨RX4, "doSees", "(ILjava/util/ArrayList;)I"⟩
noncomputable def RX5 : String := "MistHeaps$Hill"
noncomputable def TX5 : u_T := fun k => match k with
  | 0 => ("MistHeaps$Hill", "sight", "I", false)
  | 1 => ("MistHeaps$Hill", "clauses", "I", false)
  | 2 => ("MistHeaps$Hill", "words", "[I", true)
  | 3 => ("MistHeaps$Hill", "amounts", "[I", true)
  | 4 => ("MistHeaps$Hill", "ends", "[I", true)
  | 5 => ("MistHeaps$Hill", "codes", "[I", true)
  | 6 => ("MistHeaps$Hill", "coded", "I", false)
  | 7 => ("MistHeaps$Hill", "tape", "[I", false)
  | 8 => ("MistHeaps$Hill", "size", "I", false)
  | 9 => ("MistHeaps$Hill", "at", "I", false)
  | _ => ("MistHeaps$Hill", "number", "I", false)
noncomputable def tyX5 : Nat → FieldType := fun k => match k with
  | 0 => .int
  | 1 => .int
  | 2 => .array .int
  | 3 => .array .int
  | 4 => .array .int
  | 5 => .array .int
  | 6 => .int
  | 7 => .array .int
  | 8 => .int
  | 9 => .int
  | _ => .int
noncomputable abbrev wsX50 : List Cond := u_ws RX5 TX5 11
theorem nmX5 : ∀ a, a < 11 → ∀ b, b < 11 → a ≠ b → (TX5 a).2.1 ≠ (TX5 b).2.1 := by decide +kernel
theorem tyX5_ok : ∀ k, k < 11 → parseFieldDescriptor (TX5 k).2.2.1 = some (tyX5 k) := by decide +kernel
noncomputable abbrev cX5_init : ByteArray := prog_7_method_1_code
noncomputable def yX5_init : MethodName := ⟨RX5, "<init>", "()V"⟩
noncomputable abbrev cX5_read : ByteArray := prog_7_method_2_code
noncomputable def yX5_read : MethodName := ⟨RX5, "read", "([II)I"⟩
noncomputable abbrev cX5_readWord : ByteArray := prog_7_method_3_code
noncomputable def yX5_readWord : MethodName := ⟨RX5, "readWord", "()I"⟩
noncomputable abbrev cX5_textOf : ByteArray := prog_7_method_4_code
noncomputable def yX5_textOf : MethodName := ⟨RX5, "textOf", "(I)Ljava/lang/String;"⟩
noncomputable abbrev cX5_sameSigns : ByteArray := prog_7_method_5_code
noncomputable def yX5_sameSigns : MethodName := ⟨RX5, "sameSigns", "(Ljava/lang/String;)I"⟩
noncomputable abbrev cX5_readNumber : ByteArray := prog_7_method_6_code
noncomputable def yX5_readNumber : MethodName := ⟨RX5, "readNumber", "()Z"⟩
noncomputable abbrev cX5_isDigit : ByteArray := prog_7_method_7_code
noncomputable def yX5_isDigit : MethodName := ⟨RX5, "isDigit", "(I)Z"⟩
noncomputable abbrev cX5_sign : ByteArray := prog_7_method_8_code
noncomputable def yX5_sign : MethodName := ⟨RX5, "sign", "()I"⟩
noncomputable abbrev cX5_readSign : ByteArray := prog_7_method_9_code
noncomputable def yX5_readSign : MethodName := ⟨RX5, "readSign", "(C)Z"⟩
noncomputable abbrev cX5_readEither : ByteArray := prog_7_method_10_code
noncomputable def yX5_readEither : MethodName := ⟨RX5, "readEither", "(I)Z"⟩
noncomputable abbrev cX5_readBoth : ByteArray := prog_7_method_11_code
noncomputable def yX5_readBoth : MethodName := ⟨RX5, "readBoth", "(I)Z"⟩
noncomputable abbrev cX5_readPlain : ByteArray := prog_7_method_12_code
noncomputable def yX5_readPlain : MethodName := ⟨RX5, "readPlain", "(I)Z"⟩
noncomputable abbrev cX5_readTest : ByteArray := prog_7_method_13_code
noncomputable def yX5_readTest : MethodName := ⟨RX5, "readTest", "()Z"⟩
noncomputable abbrev cX5_code : ByteArray := prog_7_method_14_code
noncomputable def yX5_code : MethodName := ⟨RX5, "code", "(I)V"⟩
noncomputable abbrev cX5_total : ByteArray := prog_7_method_15_code
noncomputable def yX5_total : MethodName := ⟨RX5, "total", "(I[I)I"⟩
noncomputable abbrev cX5_holds : ByteArray := prog_7_method_16_code
noncomputable def yX5_holds : MethodName := ⟨RX5, "holds", "(I[I)Z"⟩
noncomputable abbrev cX5_isSo : ByteArray := prog_7_method_17_code
noncomputable def yX5_isSo : MethodName := ⟨RX5, "isSo", "(I[I)Z"⟩
noncomputable def RX6 : String := "MistHeaps$Low"
noncomputable def TX6 : u_T := fun k => match k with
  | 0 => ("MistHeaps$Heap", "kind", "I", true)
  | 1 => ("MistHeaps$Heap", "number", "I", false)
  | 2 => ("MistHeaps$Heap", "v", "I", true)
  | _ => ("MistHeaps$Heap", "cell", "I", false)
noncomputable def tyX6 : Nat → FieldType := fun k => match k with
  | 0 => .int
  | 1 => .int
  | 2 => .int
  | _ => .int
noncomputable abbrev wsX60 : List Cond := u_ws RX6 TX6 4
theorem nmX6 : ∀ a, a < 4 → ∀ b, b < 4 → a ≠ b → (TX6 a).2.1 ≠ (TX6 b).2.1 := by decide +kernel
theorem tyX6_ok : ∀ k, k < 4 → parseFieldDescriptor (TX6 k).2.2.1 = some (tyX6 k) := by decide +kernel
noncomputable abbrev cX6_init : ByteArray := prog_8_method_1_code
noncomputable def yX6_init : MethodName := ⟨RX6, "<init>", "(IIII)V"⟩
noncomputable abbrev cX6_reachBy : ByteArray := prog_8_method_2_code
noncomputable def yX6_reachBy : MethodName := ⟨RX6, "reachBy", "(II)I"⟩
noncomputable abbrev cX6_doGoes : ByteArray := prog_8_method_3_code
noncomputable def yX6_doGoes : MethodName := ⟨RX6, "doGoes", "(ILjava/util/ArrayList;)I"⟩
noncomputable def RX7 : String := "MistHeaps$Old"
noncomputable def TX7 : u_T := fun k => match k with
  | 0 => ("MistHeaps$Heap", "kind", "I", true)
  | 1 => ("MistHeaps$Heap", "number", "I", false)
  | 2 => ("MistHeaps$Heap", "v", "I", true)
  | _ => ("MistHeaps$Heap", "cell", "I", false)
noncomputable def tyX7 : Nat → FieldType := fun k => match k with
  | 0 => .int
  | 1 => .int
  | 2 => .int
  | _ => .int
noncomputable abbrev wsX70 : List Cond := u_ws RX7 TX7 4
theorem nmX7 : ∀ a, a < 4 → ∀ b, b < 4 → a ≠ b → (TX7 a).2.1 ≠ (TX7 b).2.1 := by decide +kernel
theorem tyX7_ok : ∀ k, k < 4 → parseFieldDescriptor (TX7 k).2.2.1 = some (tyX7 k) := by decide +kernel
noncomputable abbrev cX7_init : ByteArray := prog_9_method_1_code
noncomputable def yX7_init : MethodName := ⟨RX7, "<init>", "(IIII)V"⟩
noncomputable abbrev cX7_reachBy : ByteArray := prog_9_method_2_code
noncomputable def yX7_reachBy : MethodName := ⟨RX7, "reachBy", "(II)I"⟩
noncomputable abbrev cX7_doGoes : ByteArray := prog_9_method_3_code
noncomputable def yX7_doGoes : MethodName := ⟨RX7, "doGoes", "(ILjava/util/ArrayList;)I"⟩
noncomputable def RX8 : String := "MistHeaps$Scene"
noncomputable def TX8 : u_T := fun k => match k with
  | 0 => ("MistHeaps$Scene", "tape", "[I", true)
  | 1 => ("MistHeaps$Scene", "tapeSize", "I", false)
  | 2 => ("MistHeaps$Scene", "hill", "LMistHeaps$Hill;", false)
  | 3 => ("MistHeaps$Scene", "hills", "I", false)
  | 4 => ("MistHeaps$Scene", "edges", "J", false)
  | 5 => ("MistHeaps$Scene", "mist", "I", false)
  | 6 => ("MistHeaps$Scene", "snow", "I", false)
  | 7 => ("MistHeaps$Scene", "heaps", "[LMistHeaps$Heap;", true)
  | 8 => ("MistHeaps$Scene", "heapCount", "I", false)
  | 9 => ("MistHeaps$Scene", "walk", "[I", true)
  | 10 => ("MistHeaps$Scene", "walkSize", "I", false)
  | 11 => ("MistHeaps$Scene", "book", "[I", true)
  | 12 => ("MistHeaps$Scene", "bookSize", "I", false)
  | _ => ("MistHeaps$Scene", "facts", "[I", true)
noncomputable def tyX8 : Nat → FieldType := fun k => match k with
  | 0 => .array .int
  | 1 => .int
  | 2 => .object "MistHeaps$Hill"
  | 3 => .int
  | 4 => .long
  | 5 => .int
  | 6 => .int
  | 7 => .array (.object "MistHeaps$Heap")
  | 8 => .int
  | 9 => .array .int
  | 10 => .int
  | 11 => .array .int
  | 12 => .int
  | _ => .array .int
noncomputable abbrev wsX80 : List Cond := u_ws RX8 TX8 14
theorem nmX8 : ∀ a, a < 14 → ∀ b, b < 14 → a ≠ b → (TX8 a).2.1 ≠ (TX8 b).2.1 := by decide +kernel
theorem tyX8_ok : ∀ k, k < 14 → parseFieldDescriptor (TX8 k).2.2.1 = some (tyX8 k) := by decide +kernel
noncomputable abbrev cX8_init : ByteArray := prog_10_method_1_code
noncomputable def yX8_init : MethodName := ⟨RX8, "<init>", "()V"⟩
noncomputable abbrev cX8_copyFrom : ByteArray := prog_10_method_2_code
noncomputable def yX8_copyFrom : MethodName := ⟨RX8, "copyFrom", "(LMistHeaps$Scene;)V"⟩
noncomputable abbrev cX8_heapAt : ByteArray := prog_10_method_3_code
noncomputable def yX8_heapAt : MethodName := ⟨RX8, "heapAt", "(I)LMistHeaps$Heap;"⟩
noncomputable abbrev cX8_areHeaps : ByteArray := prog_10_method_4_code
noncomputable def yX8_areHeaps : MethodName := ⟨RX8, "areHeaps", "(II)Z"⟩
noncomputable abbrev cX8_isTaken : ByteArray := prog_10_method_5_code
noncomputable def yX8_isTaken : MethodName := ⟨RX8, "isTaken", "(I)Z"⟩
noncomputable abbrev cX8_reachOf : ByteArray := prog_10_method_6_code
noncomputable def yX8_reachOf : MethodName := ⟨RX8, "reachOf", "(LMistHeaps$Heap;I)I"⟩
noncomputable abbrev cX8_driftOn : ByteArray := prog_10_method_7_code
noncomputable def yX8_driftOn : MethodName := ⟨RX8, "driftOn", "(I)I"⟩
noncomputable abbrev cX8_tellFacts : ByteArray := prog_10_method_8_code
noncomputable def yX8_tellFacts : MethodName := ⟨RX8, "tellFacts", "(IIII)V"⟩
noncomputable abbrev cX8_cellsSeeing : ByteArray := prog_10_method_9_code
noncomputable def yX8_cellsSeeing : MethodName := ⟨RX8, "cellsSeeing", "(I)J"⟩
noncomputable def RX9 : String := "MistHeaps$Snowed"
noncomputable def TX9 : u_T := fun k => match k with
  | 0 => ("MistHeaps$Heap", "kind", "I", true)
  | 1 => ("MistHeaps$Heap", "number", "I", false)
  | 2 => ("MistHeaps$Heap", "v", "I", true)
  | _ => ("MistHeaps$Heap", "cell", "I", false)
noncomputable def tyX9 : Nat → FieldType := fun k => match k with
  | 0 => .int
  | 1 => .int
  | 2 => .int
  | _ => .int
noncomputable abbrev wsX90 : List Cond := u_ws RX9 TX9 4
theorem nmX9 : ∀ a, a < 4 → ∀ b, b < 4 → a ≠ b → (TX9 a).2.1 ≠ (TX9 b).2.1 := by decide +kernel
theorem tyX9_ok : ∀ k, k < 4 → parseFieldDescriptor (TX9 k).2.2.1 = some (tyX9 k) := by decide +kernel
noncomputable abbrev cX9_init : ByteArray := prog_11_method_1_code
noncomputable def yX9_init : MethodName := ⟨RX9, "<init>", "(IIII)V"⟩
noncomputable abbrev cX9_reachBy : ByteArray := prog_11_method_2_code
noncomputable def yX9_reachBy : MethodName := ⟨RX9, "reachBy", "(II)I"⟩
noncomputable abbrev cX9_doSees : ByteArray := prog_11_method_3_code
noncomputable def yX9_doSees : MethodName := ⟨RX9, "doSees", "(ILjava/util/ArrayList;)I"⟩
noncomputable def RX10 : String := "MistHeaps$Turning"
noncomputable def TX10 : u_T := fun k => match k with
  | 0 => ("MistHeaps$Heap", "kind", "I", true)
  | 1 => ("MistHeaps$Heap", "number", "I", false)
  | 2 => ("MistHeaps$Heap", "v", "I", true)
  | _ => ("MistHeaps$Heap", "cell", "I", false)
noncomputable def tyX10 : Nat → FieldType := fun k => match k with
  | 0 => .int
  | 1 => .int
  | 2 => .int
  | _ => .int
noncomputable abbrev wsX100 : List Cond := u_ws RX10 TX10 4
theorem nmX10 : ∀ a, a < 4 → ∀ b, b < 4 → a ≠ b → (TX10 a).2.1 ≠ (TX10 b).2.1 := by decide +kernel
theorem tyX10_ok : ∀ k, k < 4 → parseFieldDescriptor (TX10 k).2.2.1 = some (tyX10 k) := by decide +kernel
noncomputable abbrev cX10_init : ByteArray := prog_12_method_1_code
noncomputable def yX10_init : MethodName := ⟨RX10, "<init>", "(IIII)V"⟩
noncomputable abbrev cX10_leadsTo : ByteArray := prog_12_method_2_code
noncomputable def yX10_leadsTo : MethodName := ⟨RX10, "leadsTo", "(I)Z"⟩
noncomputable abbrev cX10_isOnSide : ByteArray := prog_12_method_3_code
noncomputable def yX10_isOnSide : MethodName := ⟨RX10, "isOnSide", "(II)Z"⟩
noncomputable abbrev cX10_doLooks : ByteArray := prog_12_method_4_code
noncomputable def yX10_doLooks : MethodName := ⟨RX10, "doLooks", "(ILjava/util/ArrayList;)I"⟩
noncomputable def RX11 : String := "MistHeaps"
noncomputable def TX11 : u_T := fun k => match k with
  | 0 => ("MistHeaps", "scene", "LMistHeaps$Scene;", true)
  | 1 => ("MistHeaps", "kept", "LMistHeaps$Scene;", true)
  | 2 => ("MistHeaps", "isKept", "Z", false)
  | 3 => ("MistHeaps", "blank", "LMistHeaps$Hill;", false)
  | 4 => ("MistHeaps", "goings", "LMistHeaps$Goings;", true)
  | 5 => ("MistHeaps", "chances", "LMistHeaps$Chances;", true)
  | _ => ("MistHeaps", "bodies", "Ljava/util/ArrayList;", true)
noncomputable def tyX11 : Nat → FieldType := fun k => match k with
  | 0 => .object "MistHeaps$Scene"
  | 1 => .object "MistHeaps$Scene"
  | 2 => .boolean
  | 3 => .object "MistHeaps$Hill"
  | 4 => .object "MistHeaps$Goings"
  | 5 => .object "MistHeaps$Chances"
  | _ => .object "java/util/ArrayList"
noncomputable abbrev wsX110 : List Cond := u_ws RX11 TX11 7
theorem nmX11 : ∀ a, a < 7 → ∀ b, b < 7 → a ≠ b → (TX11 a).2.1 ≠ (TX11 b).2.1 := by decide +kernel
theorem tyX11_ok : ∀ k, k < 7 → parseFieldDescriptor (TX11 k).2.2.1 = some (tyX11 k) := by decide +kernel
noncomputable abbrev cX11_init : ByteArray := prog_1_method_1_code
noncomputable def yX11_init : MethodName := ⟨RX11, "<init>", "()V"⟩
noncomputable abbrev cX11_feed : ByteArray := prog_1_method_2_code
noncomputable def yX11_feed : MethodName := ⟨RX11, "feed", "(I)I"⟩
noncomputable abbrev cX11_hill : ByteArray := prog_1_method_3_code
noncomputable def yX11_hill : MethodName := ⟨RX11, "hill", "()I"⟩
noncomputable abbrev cX11_edges : ByteArray := prog_1_method_4_code
noncomputable def yX11_edges : MethodName := ⟨RX11, "edges", "(J)I"⟩
noncomputable abbrev cX11_set : ByteArray := prog_1_method_5_code
noncomputable def yX11_set : MethodName := ⟨RX11, "set", "(II)I"⟩
noncomputable abbrev cX11_told : ByteArray := prog_1_method_6_code
noncomputable def yX11_told : MethodName := ⟨RX11, "told", "(I)I"⟩
noncomputable abbrev cX11_heap : ByteArray := prog_1_method_7_code
noncomputable def yX11_heap : MethodName := ⟨RX11, "heap", "(III)I"⟩
noncomputable abbrev cX11_of : ByteArray := prog_1_method_8_code
noncomputable def yX11_of : MethodName := ⟨RX11, "of", "(II)I"⟩
noncomputable abbrev cX11_sees : ByteArray := prog_1_method_9_code
noncomputable def yX11_sees : MethodName := ⟨RX11, "sees", "(I)I"⟩
noncomputable abbrev cX11_where : ByteArray := prog_1_method_10_code
noncomputable def yX11_where : MethodName := ⟨RX11, "where", "(I)J"⟩
noncomputable abbrev cX11_steps : ByteArray := prog_1_method_11_code
noncomputable def yX11_steps : MethodName := ⟨RX11, "steps", "(II)I"⟩
noncomputable abbrev cX11_via : ByteArray := prog_1_method_12_code
noncomputable def yX11_via : MethodName := ⟨RX11, "via", "(II)I"⟩
noncomputable abbrev cX11_cuts : ByteArray := prog_1_method_13_code
noncomputable def yX11_cuts : MethodName := ⟨RX11, "cuts", "(II)I"⟩
noncomputable abbrev cX11_bears : ByteArray := prog_1_method_14_code
noncomputable def yX11_bears : MethodName := ⟨RX11, "bears", "(II)I"⟩
noncomputable abbrev cX11_build : ByteArray := prog_1_method_15_code
noncomputable def yX11_build : MethodName := ⟨RX11, "build", "(III)I"⟩
noncomputable abbrev cX11_drift : ByteArray := prog_1_method_16_code
noncomputable def yX11_drift : MethodName := ⟨RX11, "drift", "(I)I"⟩
noncomputable abbrev cX11_walk : ByteArray := prog_1_method_17_code
noncomputable def yX11_walk : MethodName := ⟨RX11, "walk", "(I)I"⟩
noncomputable abbrev cX11_odds : ByteArray := prog_1_method_18_code
noncomputable def yX11_odds : MethodName := ⟨RX11, "odds", "(III)J"⟩
noncomputable abbrev cX11_best : ByteArray := prog_1_method_19_code
noncomputable def yX11_best : MethodName := ⟨RX11, "best", "(IIII)I"⟩
noncomputable abbrev cX11_bestOdds : ByteArray := prog_1_method_20_code
noncomputable def yX11_bestOdds : MethodName := ⟨RX11, "bestOdds", "(IIII)J"⟩
noncomputable abbrev cX11_safe : ByteArray := prog_1_method_21_code
noncomputable def yX11_safe : MethodName := ⟨RX11, "safe", "(III)I"⟩
noncomputable abbrev cX11_line : ByteArray := prog_1_method_22_code
noncomputable def yX11_line : MethodName := ⟨RX11, "line", "(II)I"⟩
noncomputable abbrev cX11_next : ByteArray := prog_1_method_23_code
noncomputable def yX11_next : MethodName := ⟨RX11, "next", "(III)I"⟩
noncomputable abbrev cX11_book : ByteArray := prog_1_method_24_code
noncomputable def yX11_book : MethodName := ⟨RX11, "book", "(I)I"⟩
noncomputable abbrev cX11_looked : ByteArray := prog_1_method_25_code
noncomputable def yX11_looked : MethodName := ⟨RX11, "looked", "()I"⟩
noncomputable abbrev cX11_act : ByteArray := prog_1_method_26_code
noncomputable def yX11_act : MethodName := ⟨RX11, "act", "(III)I"⟩
noncomputable abbrev cX11_trace : ByteArray := prog_1_method_27_code
noncomputable def yX11_trace : MethodName := ⟨RX11, "trace", "(I)I"⟩
noncomputable abbrev cX11_as : ByteArray := prog_1_method_28_code
noncomputable def yX11_as : MethodName := ⟨RX11, "as", "(II)I"⟩
noncomputable abbrev cX11_image : ByteArray := prog_1_method_29_code
noncomputable def yX11_image : MethodName := ⟨RX11, "image", "()I"⟩
noncomputable abbrev cX11_undo : ByteArray := prog_1_method_30_code
noncomputable def yX11_undo : MethodName := ⟨RX11, "undo", "()I"⟩
noncomputable abbrev cX11_count : ByteArray := prog_1_method_31_code
noncomputable def yX11_count : MethodName := ⟨RX11, "count", "(I)I"⟩
noncomputable abbrev cX11_isCell : ByteArray := prog_1_method_32_code
noncomputable def yX11_isCell : MethodName := ⟨RX11, "isCell", "(I)Z"⟩
noncomputable abbrev cX11_rowOf : ByteArray := prog_1_method_33_code
noncomputable def yX11_rowOf : MethodName := ⟨RX11, "rowOf", "(I)I"⟩
noncomputable abbrev cX11_columnOf : ByteArray := prog_1_method_34_code
noncomputable def yX11_columnOf : MethodName := ⟨RX11, "columnOf", "(I)I"⟩
noncomputable abbrev cX11_isOnHill : ByteArray := prog_1_method_35_code
noncomputable def yX11_isOnHill : MethodName := ⟨RX11, "isOnHill", "(II)Z"⟩
noncomputable abbrev cX11_apart : ByteArray := prog_1_method_36_code
noncomputable def yX11_apart : MethodName := ⟨RX11, "apart", "(II)I"⟩
noncomputable abbrev cX11_besideOrSame : ByteArray := prog_1_method_37_code
noncomputable def yX11_besideOrSame : MethodName := ⟨RX11, "besideOrSame", "(II)I"⟩
noncomputable abbrev cX11_isIn : ByteArray := prog_1_method_38_code
noncomputable def yX11_isIn : MethodName := ⟨RX11, "isIn", "(JI)Z"⟩
noncomputable abbrev cX11_partOf : ByteArray := prog_1_method_39_code
noncomputable def yX11_partOf : MethodName := ⟨RX11, "partOf", "(JJI)J"⟩
noncomputable abbrev cX11_commonDivisor : ByteArray := prog_1_method_40_code
noncomputable def yX11_commonDivisor : MethodName := ⟨RX11, "commonDivisor", "(JJ)J"⟩
noncomputable abbrev cX11_heapOfKind : ByteArray := prog_1_method_41_code
noncomputable def yX11_heapOfKind : MethodName := ⟨RX11, "heapOfKind", "(IIII)LMistHeaps$Heap;"⟩
noncomputable def RX12 : String := "MistHeapsModel"
noncomputable def TX12 : u_T := fun k => match k with
  | 0 => ("MistHeapsModel", "thrown", "I", false)
  | 1 => ("MistHeapsModel", "s", "[I", true)
  | 2 => ("MistHeapsModel", "image", "[I", true)
  | 3 => ("MistHeapsModel", "hasImage", "Z", false)
  | 4 => ("MistHeapsModel", "act", "I", false)
  | 5 => ("MistHeapsModel", "spot", "I", false)
  | 6 => ("MistHeapsModel", "end", "I", false)
  | 7 => ("MistHeapsModel", "isWrong", "Z", false)
  | 8 => ("MistHeapsModel", "open", "I", false)
  | 9 => ("MistHeapsModel", "by", "[I", true)
  | 10 => ("MistHeapsModel", "truths", "[Z", true)
  | 11 => ("MistHeapsModel", "seeing", "I", false)
  | 12 => ("MistHeapsModel", "drifting", "I", false)
  | 13 => ("MistHeapsModel", "goes", "[I", true)
  | 14 => ("MistHeapsModel", "often", "[J", true)
  | 15 => ("MistHeapsModel", "then", "[J", true)
  | 16 => ("MistHeapsModel", "drifts", "[I", true)
  | 17 => ("MistHeapsModel", "bestOften", "J", false)
  | 18 => ("MistHeapsModel", "bodies", "[I", true)
  | 19 => ("MistHeapsModel", "ran", "I", false)
  | 20 => ("MistHeapsModel", "kind", "I", false)
  | 21 => ("MistHeapsModel", "number", "I", false)
  | _ => ("MistHeapsModel", "tellsV", "I", false)
noncomputable def tyX12 : Nat → FieldType := fun k => match k with
  | 0 => .int
  | 1 => .array .int
  | 2 => .array .int
  | 3 => .boolean
  | 4 => .int
  | 5 => .int
  | 6 => .int
  | 7 => .boolean
  | 8 => .int
  | 9 => .array .int
  | 10 => .array .boolean
  | 11 => .int
  | 12 => .int
  | 13 => .array .int
  | 14 => .array .long
  | 15 => .array .long
  | 16 => .array .int
  | 17 => .long
  | 18 => .array .int
  | 19 => .int
  | 20 => .int
  | 21 => .int
  | _ => .int
noncomputable abbrev wsX120 : List Cond := u_ws RX12 TX12 23
theorem nmX12 : ∀ a, a < 23 → ∀ b, b < 23 → a ≠ b → (TX12 a).2.1 ≠ (TX12 b).2.1 := by decide +kernel
theorem tyX12_ok : ∀ k, k < 23 → parseFieldDescriptor (TX12 k).2.2.1 = some (tyX12 k) := by decide +kernel
noncomputable abbrev cX12_init : ByteArray := prog_14_method_1_code
noncomputable def yX12_init : MethodName := ⟨RX12, "<init>", "()V"⟩
noncomputable abbrev cX12_in : ByteArray := prog_14_method_3_code
noncomputable def yX12_in : MethodName := ⟨RX12, "in", "(III)Z"⟩
noncomputable abbrev cX12_size : ByteArray := prog_14_method_4_code
noncomputable def yX12_size : MethodName := ⟨RX12, "size", "(I)I"⟩
noncomputable abbrev cX12_isCell : ByteArray := prog_14_method_5_code
noncomputable def yX12_isCell : MethodName := ⟨RX12, "isCell", "(I)Z"⟩
noncomputable abbrev cX12_isHeap : ByteArray := prog_14_method_6_code
noncomputable def yX12_isHeap : MethodName := ⟨RX12, "isHeap", "(I)Z"⟩
noncomputable abbrev cX12_apart : ByteArray := prog_14_method_7_code
noncomputable def yX12_apart : MethodName := ⟨RX12, "apart", "(II)I"⟩
noncomputable abbrev cX12_rowsOf : ByteArray := prog_14_method_8_code
noncomputable def yX12_rowsOf : MethodName := ⟨RX12, "rowsOf", "(I)I"⟩
noncomputable abbrev cX12_columnsOf : ByteArray := prog_14_method_9_code
noncomputable def yX12_columnsOf : MethodName := ⟨RX12, "columnsOf", "(I)I"⟩
noncomputable abbrev cX12_nextTo : ByteArray := prog_14_method_10_code
noncomputable def yX12_nextTo : MethodName := ⟨RX12, "nextTo", "(II)I"⟩
noncomputable abbrev cX12_feed : ByteArray := prog_14_method_11_code
noncomputable def yX12_feed : MethodName := ⟨RX12, "feed", "(I)I"⟩
noncomputable abbrev cX12_here : ByteArray := prog_14_method_12_code
noncomputable def yX12_here : MethodName := ⟨RX12, "here", "()I"⟩
noncomputable abbrev cX12_must : ByteArray := prog_14_method_13_code
noncomputable def yX12_must : MethodName := ⟨RX12, "must", "(I)V"⟩
noncomputable abbrev cX12_spells : ByteArray := prog_14_method_14_code
noncomputable def yX12_spells : MethodName := ⟨RX12, "spells", "(Ljava/lang/String;)V"⟩
noncomputable abbrev cX12_figures : ByteArray := prog_14_method_15_code
noncomputable def yX12_figures : MethodName := ⟨RX12, "figures", "()I"⟩
noncomputable abbrev cX12_among : ByteArray := prog_14_method_16_code
noncomputable def yX12_among : MethodName := ⟨RX12, "among", "(Ljava/lang/String;)I"⟩
noncomputable abbrev cX12_emits : ByteArray := prog_14_method_17_code
noncomputable def yX12_emits : MethodName := ⟨RX12, "emits", "(I)V"⟩
noncomputable abbrev cX12_factor : ByteArray := prog_14_method_18_code
noncomputable def yX12_factor : MethodName := ⟨RX12, "factor", "()V"⟩
noncomputable abbrev cX12_every : ByteArray := prog_14_method_19_code
noncomputable def yX12_every : MethodName := ⟨RX12, "every", "()V"⟩
noncomputable abbrev cX12_some : ByteArray := prog_14_method_20_code
noncomputable def yX12_some : MethodName := ⟨RX12, "some", "()V"⟩
noncomputable abbrev cX12_much : ByteArray := prog_14_method_21_code
noncomputable def yX12_much : MethodName := ⟨RX12, "much", "(ILjava/lang/String;)V"⟩
noncomputable abbrev cX12_clauseOfS : ByteArray := prog_14_method_22_code
noncomputable def yX12_clauseOfS : MethodName := ⟨RX12, "clauseOfS", "()V"⟩
noncomputable abbrev cX12_clauseHere : ByteArray := prog_14_method_23_code
noncomputable def yX12_clauseHere : MethodName := ⟨RX12, "clauseHere", "()V"⟩
noncomputable abbrev cX12_hill : ByteArray := prog_14_method_24_code
noncomputable def yX12_hill : MethodName := ⟨RX12, "hill", "()I"⟩
noncomputable abbrev cX12_sight : ByteArray := prog_14_method_25_code
noncomputable def yX12_sight : MethodName := ⟨RX12, "sight", "()I"⟩
noncomputable abbrev cX12_edges : ByteArray := prog_14_method_26_code
noncomputable def yX12_edges : MethodName := ⟨RX12, "edges", "(J)I"⟩
noncomputable abbrev cX12_edgesMany : ByteArray := prog_14_method_27_code
noncomputable def yX12_edgesMany : MethodName := ⟨RX12, "edgesMany", "()I"⟩
noncomputable abbrev cX12_set : ByteArray := prog_14_method_28_code
noncomputable def yX12_set : MethodName := ⟨RX12, "set", "(II)I"⟩
noncomputable abbrev cX12_told : ByteArray := prog_14_method_29_code
noncomputable def yX12_told : MethodName := ⟨RX12, "told", "(I)I"⟩
noncomputable abbrev cX12_looks : ByteArray := prog_14_method_30_code
noncomputable def yX12_looks : MethodName := ⟨RX12, "looks", "(III)V"⟩
noncomputable abbrev cX12_heap : ByteArray := prog_14_method_31_code
noncomputable def yX12_heap : MethodName := ⟨RX12, "heap", "(III)I"⟩
noncomputable abbrev cX12_puts : ByteArray := prog_14_method_32_code
noncomputable def yX12_puts : MethodName := ⟨RX12, "puts", "(III)I"⟩
noncomputable abbrev cX12_heapOn : ByteArray := prog_14_method_33_code
noncomputable def yX12_heapOn : MethodName := ⟨RX12, "heapOn", "(I)I"⟩
noncomputable abbrev cX12_reachOf : ByteArray := prog_14_method_34_code
noncomputable def yX12_reachOf : MethodName := ⟨RX12, "reachOf", "(I)I"⟩
noncomputable abbrev cX12_of : ByteArray := prog_14_method_35_code
noncomputable def yX12_of : MethodName := ⟨RX12, "of", "(II)I"⟩
noncomputable abbrev cX12_isSeen : ByteArray := prog_14_method_36_code
noncomputable def yX12_isSeen : MethodName := ⟨RX12, "isSeen", "(II)Z"⟩
noncomputable abbrev cX12_seesOf : ByteArray := prog_14_method_37_code
noncomputable def yX12_seesOf : MethodName := ⟨RX12, "seesOf", "(I)I"⟩
noncomputable abbrev cX12_sees : ByteArray := prog_14_method_38_code
noncomputable def yX12_sees : MethodName := ⟨RX12, "sees", "(I)I"⟩
noncomputable abbrev cX12_where : ByteArray := prog_14_method_39_code
noncomputable def yX12_where : MethodName := ⟨RX12, "where", "(I)J"⟩
noncomputable abbrev cX12_isThatSide : ByteArray := prog_14_method_40_code
noncomputable def yX12_isThatSide : MethodName := ⟨RX12, "isThatSide", "(III)Z"⟩
noncomputable abbrev cX12_doesGo : ByteArray := prog_14_method_41_code
noncomputable def yX12_doesGo : MethodName := ⟨RX12, "doesGo", "(II)Z"⟩
noncomputable abbrev cX12_looksForGoings : ByteArray := prog_14_method_42_code
noncomputable def yX12_looksForGoings : MethodName := ⟨RX12, "looksForGoings", "()V"⟩
noncomputable abbrev cX12_spread : ByteArray := prog_14_method_43_code
noncomputable def yX12_spread : MethodName := ⟨RX12, "spread", "(I)I"⟩
noncomputable abbrev cX12_stepsBut : ByteArray := prog_14_method_44_code
noncomputable def yX12_stepsBut : MethodName := ⟨RX12, "stepsBut", "(III)I"⟩
noncomputable abbrev cX12_stepsOf : ByteArray := prog_14_method_45_code
noncomputable def yX12_stepsOf : MethodName := ⟨RX12, "stepsOf", "(II)I"⟩
noncomputable abbrev cX12_steps : ByteArray := prog_14_method_46_code
noncomputable def yX12_steps : MethodName := ⟨RX12, "steps", "(II)I"⟩
noncomputable abbrev cX12_via : ByteArray := prog_14_method_47_code
noncomputable def yX12_via : MethodName := ⟨RX12, "via", "(II)I"⟩
noncomputable abbrev cX12_cuts : ByteArray := prog_14_method_48_code
noncomputable def yX12_cuts : MethodName := ⟨RX12, "cuts", "(II)I"⟩
noncomputable abbrev cX12_bears : ByteArray := prog_14_method_49_code
noncomputable def yX12_bears : MethodName := ⟨RX12, "bears", "(II)I"⟩
noncomputable abbrev cX12_build : ByteArray := prog_14_method_50_code
noncomputable def yX12_build : MethodName := ⟨RX12, "build", "(III)I"⟩
noncomputable abbrev cX12_driftOf : ByteArray := prog_14_method_51_code
noncomputable def yX12_driftOf : MethodName := ⟨RX12, "driftOf", "(I)I"⟩
noncomputable abbrev cX12_drift : ByteArray := prog_14_method_52_code
noncomputable def yX12_drift : MethodName := ⟨RX12, "drift", "(I)I"⟩
noncomputable abbrev cX12_looksForDrifts : ByteArray := prog_14_method_53_code
noncomputable def yX12_looksForDrifts : MethodName := ⟨RX12, "looksForDrifts", "()V"⟩
noncomputable abbrev cX12_begins : ByteArray := prog_14_method_54_code
noncomputable def yX12_begins : MethodName := ⟨RX12, "begins", "(I)V"⟩
noncomputable abbrev cX12_goesOn : ByteArray := prog_14_method_55_code
noncomputable def yX12_goesOn : MethodName := ⟨RX12, "goesOn", "(I)V"⟩
noncomputable abbrev cX12_over : ByteArray := prog_14_method_56_code
noncomputable def yX12_over : MethodName := ⟨RX12, "over", "()J"⟩
noncomputable abbrev cX12_seen : ByteArray := prog_14_method_57_code
noncomputable def yX12_seen : MethodName := ⟨RX12, "seen", "(I)J"⟩
noncomputable abbrev cX12_lowest : ByteArray := prog_14_method_58_code
noncomputable def yX12_lowest : MethodName := ⟨RX12, "lowest", "(JJI)J"⟩
noncomputable abbrev cX12_twenties : ByteArray := prog_14_method_59_code
noncomputable def yX12_twenties : MethodName := ⟨RX12, "twenties", "(I)J"⟩
noncomputable abbrev cX12_walk : ByteArray := prog_14_method_60_code
noncomputable def yX12_walk : MethodName := ⟨RX12, "walk", "(I)I"⟩
noncomputable abbrev cX12_odds : ByteArray := prog_14_method_61_code
noncomputable def yX12_odds : MethodName := ⟨RX12, "odds", "(III)J"⟩
noncomputable abbrev cX12_goesBy : ByteArray := prog_14_method_62_code
noncomputable def yX12_goesBy : MethodName := ⟨RX12, "goesBy", "(III)V"⟩
noncomputable abbrev cX12_bestRow : ByteArray := prog_14_method_63_code
noncomputable def yX12_bestRow : MethodName := ⟨RX12, "bestRow", "(III)I"⟩
noncomputable abbrev cX12_wayOf : ByteArray := prog_14_method_64_code
noncomputable def yX12_wayOf : MethodName := ⟨RX12, "wayOf", "(III)I"⟩
noncomputable abbrev cX12_best : ByteArray := prog_14_method_65_code
noncomputable def yX12_best : MethodName := ⟨RX12, "best", "(IIII)I"⟩
noncomputable abbrev cX12_bestOdds : ByteArray := prog_14_method_66_code
noncomputable def yX12_bestOdds : MethodName := ⟨RX12, "bestOdds", "(IIII)J"⟩
noncomputable abbrev cX12_safe : ByteArray := prog_14_method_67_code
noncomputable def yX12_safe : MethodName := ⟨RX12, "safe", "(III)I"⟩
noncomputable abbrev cX12_line : ByteArray := prog_14_method_68_code
noncomputable def yX12_line : MethodName := ⟨RX12, "line", "(II)I"⟩
noncomputable abbrev cX12_next : ByteArray := prog_14_method_69_code
noncomputable def yX12_next : MethodName := ⟨RX12, "next", "(III)I"⟩
noncomputable abbrev cX12_book : ByteArray := prog_14_method_70_code
noncomputable def yX12_book : MethodName := ⟨RX12, "book", "(I)I"⟩
noncomputable abbrev cX12_looked : ByteArray := prog_14_method_71_code
noncomputable def yX12_looked : MethodName := ⟨RX12, "looked", "()I"⟩
noncomputable abbrev cX12_ranBody : ByteArray := prog_14_method_72_code
noncomputable def yX12_ranBody : MethodName := ⟨RX12, "ranBody", "(I)V"⟩
noncomputable abbrev cX12_isUnder : ByteArray := prog_14_method_73_code
noncomputable def yX12_isUnder : MethodName := ⟨RX12, "isUnder", "(II)Z"⟩
noncomputable abbrev cX12_plainSees : ByteArray := prog_14_method_74_code
noncomputable def yX12_plainSees : MethodName := ⟨RX12, "plainSees", "(I)I"⟩
noncomputable abbrev cX12_seesActs : ByteArray := prog_14_method_75_code
noncomputable def yX12_seesActs : MethodName := ⟨RX12, "seesActs", "(I)I"⟩
noncomputable abbrev cX12_plainGoes : ByteArray := prog_14_method_76_code
noncomputable def yX12_plainGoes : MethodName := ⟨RX12, "plainGoes", "(I)I"⟩
noncomputable abbrev cX12_goesActs : ByteArray := prog_14_method_77_code
noncomputable def yX12_goesActs : MethodName := ⟨RX12, "goesActs", "(I)I"⟩
noncomputable abbrev cX12_plainLooks : ByteArray := prog_14_method_78_code
noncomputable def yX12_plainLooks : MethodName := ⟨RX12, "plainLooks", "(I)I"⟩
noncomputable abbrev cX12_looksActs : ByteArray := prog_14_method_79_code
noncomputable def yX12_looksActs : MethodName := ⟨RX12, "looksActs", "(I)I"⟩
noncomputable abbrev cX12_act : ByteArray := prog_14_method_80_code
noncomputable def yX12_act : MethodName := ⟨RX12, "act", "(III)I"⟩
noncomputable abbrev cX12_trace : ByteArray := prog_14_method_81_code
noncomputable def yX12_trace : MethodName := ⟨RX12, "trace", "(I)I"⟩
noncomputable abbrev cX12_as : ByteArray := prog_14_method_82_code
noncomputable def yX12_as : MethodName := ⟨RX12, "as", "(II)I"⟩
noncomputable abbrev cX12_image : ByteArray := prog_14_method_83_code
noncomputable def yX12_image : MethodName := ⟨RX12, "image", "()I"⟩
noncomputable abbrev cX12_undo : ByteArray := prog_14_method_84_code
noncomputable def yX12_undo : MethodName := ⟨RX12, "undo", "()I"⟩
noncomputable abbrev cX12_count : ByteArray := prog_14_method_85_code
noncomputable def yX12_count : MethodName := ⟨RX12, "count", "(I)I"⟩
noncomputable def RJx145de : String := "java/io/Serializable"
noncomputable def TJx145de : u_T := fun k => match k with
  | _ => ("", "", "", false)
noncomputable def tyJx145de : Nat → FieldType := fun k => match k with
  | _ => .int
noncomputable abbrev wsJx145de0 : List Cond := u_ws RJx145de TJx145de 0
theorem nmJx145de : ∀ a, a < 0 → ∀ b, b < 0 → a ≠ b → (TJx145de a).2.1 ≠ (TJx145de b).2.1 := by decide +kernel
theorem tyJx145de_ok : ∀ k, k < 0 → parseFieldDescriptor (TJx145de k).2.2.1 = some (tyJx145de k) := by decide +kernel
noncomputable def RJx9f9b0 : String := "java/lang/CharSequence"
noncomputable def TJx9f9b0 : u_T := fun k => match k with
  | _ => ("", "", "", false)
noncomputable def tyJx9f9b0 : Nat → FieldType := fun k => match k with
  | _ => .int
noncomputable abbrev wsJx9f9b00 : List Cond := u_ws RJx9f9b0 TJx9f9b0 0
theorem nmJx9f9b0 : ∀ a, a < 0 → ∀ b, b < 0 → a ≠ b → (TJx9f9b0 a).2.1 ≠ (TJx9f9b0 b).2.1 := by decide +kernel
theorem tyJx9f9b0_ok : ∀ k, k < 0 → parseFieldDescriptor (TJx9f9b0 k).2.2.1 = some (tyJx9f9b0 k) := by decide +kernel
noncomputable def RJ11 : String := "java/lang/Character"
noncomputable def TJ11 : u_T := fun k => match k with
  | _ => ("", "", "", false)
noncomputable def tyJ11 : Nat → FieldType := fun k => match k with
  | _ => .int
noncomputable abbrev wsJ110 : List Cond := u_ws RJ11 TJ11 0
theorem nmJ11 : ∀ a, a < 0 → ∀ b, b < 0 → a ≠ b → (TJ11 a).2.1 ≠ (TJ11 b).2.1 := by decide +kernel
theorem tyJ11_ok : ∀ k, k < 0 → parseFieldDescriptor (TJ11 k).2.2.1 = some (tyJ11 k) := by decide +kernel
noncomputable abbrev cJ11_isValidCodePoint_9a6ad : ByteArray := prog_17_method_11_code
noncomputable def yJ11_isValidCodePoint_9a6ad : MethodName := ⟨RJ11, "isValidCodePoint", "(I)Z"⟩
noncomputable abbrev cJ11_highSurrogate_5068e : ByteArray := prog_17_method_28_code
noncomputable def yJ11_highSurrogate_5068e : MethodName := ⟨RJ11, "highSurrogate", "(I)C"⟩
noncomputable abbrev cJ11_lowSurrogate_5068e : ByteArray := prog_17_method_29_code
noncomputable def yJ11_lowSurrogate_5068e : MethodName := ⟨RJ11, "lowSurrogate", "(I)C"⟩
noncomputable def RJx8e188 : String := "java/lang/Cloneable"
noncomputable def TJx8e188 : u_T := fun k => match k with
  | _ => ("", "", "", false)
noncomputable def tyJx8e188 : Nat → FieldType := fun k => match k with
  | _ => .int
noncomputable abbrev wsJx8e1880 : List Cond := u_ws RJx8e188 TJx8e188 0
theorem nmJx8e188 : ∀ a, a < 0 → ∀ b, b < 0 → a ≠ b → (TJx8e188 a).2.1 ≠ (TJx8e188 b).2.1 := by decide +kernel
theorem tyJx8e188_ok : ∀ k, k < 0 → parseFieldDescriptor (TJx8e188 k).2.2.1 = some (tyJx8e188 k) := by decide +kernel
noncomputable def RJxb160c : String := "java/lang/Comparable"
noncomputable def TJxb160c : u_T := fun k => match k with
  | _ => ("", "", "", false)
noncomputable def tyJxb160c : Nat → FieldType := fun k => match k with
  | _ => .int
noncomputable abbrev wsJxb160c0 : List Cond := u_ws RJxb160c TJxb160c 0
theorem nmJxb160c : ∀ a, a < 0 → ∀ b, b < 0 → a ≠ b → (TJxb160c a).2.1 ≠ (TJxb160c b).2.1 := by decide +kernel
theorem tyJxb160c_ok : ∀ k, k < 0 → parseFieldDescriptor (TJxb160c k).2.2.1 = some (tyJxb160c k) := by decide +kernel
noncomputable def RJxabbfe : String := "java/lang/Integer$IntegerCache"
noncomputable def TJxabbfe : u_T := fun k => match k with
  | _ => ("", "", "", false)
noncomputable def tyJxabbfe : Nat → FieldType := fun k => match k with
  | _ => .int
noncomputable abbrev wsJxabbfe0 : List Cond := u_ws RJxabbfe TJxabbfe 0
theorem nmJxabbfe : ∀ a, a < 0 → ∀ b, b < 0 → a ≠ b → (TJxabbfe a).2.1 ≠ (TJxabbfe b).2.1 := by decide +kernel
theorem tyJxabbfe_ok : ∀ k, k < 0 → parseFieldDescriptor (TJxabbfe k).2.2.1 = some (tyJxabbfe k) := by decide +kernel
noncomputable def RJ6 : String := "java/lang/Integer"
noncomputable def TJ6 : u_T := fun k => match k with
  | _ => ("java/lang/Integer", "value", "I", true)
noncomputable def tyJ6 : Nat → FieldType := fun k => match k with
  | _ => .int
noncomputable abbrev wsJ60 : List Cond := u_ws RJ6 TJ6 1
theorem nmJ6 : ∀ a, a < 1 → ∀ b, b < 1 → a ≠ b → (TJ6 a).2.1 ≠ (TJ6 b).2.1 := by decide +kernel
theorem tyJ6_ok : ∀ k, k < 1 → parseFieldDescriptor (TJ6 k).2.2.1 = some (tyJ6 k) := by decide +kernel
noncomputable abbrev cJ6_valueOf_2dffe : ByteArray := prog_20_method_22_code
noncomputable def yJ6_valueOf_2dffe : MethodName := ⟨RJ6, "valueOf", "(I)Ljava/lang/Integer;"⟩
noncomputable abbrev cJ6_init_d00df : ByteArray := prog_20_method_23_code
noncomputable def yJ6_init_d00df : MethodName := ⟨RJ6, "<init>", "(I)V"⟩
noncomputable abbrev cJ6_intValue_8abf5 : ByteArray := prog_20_method_27_code
noncomputable def yJ6_intValue_8abf5 : MethodName := ⟨RJ6, "intValue", "()I"⟩
noncomputable def RJxab1ab : String := "java/lang/Iterable"
noncomputable def TJxab1ab : u_T := fun k => match k with
  | _ => ("", "", "", false)
noncomputable def tyJxab1ab : Nat → FieldType := fun k => match k with
  | _ => .int
noncomputable abbrev wsJxab1ab0 : List Cond := u_ws RJxab1ab TJxab1ab 0
theorem nmJxab1ab : ∀ a, a < 0 → ∀ b, b < 0 → a ≠ b → (TJxab1ab a).2.1 ≠ (TJxab1ab b).2.1 := by decide +kernel
theorem tyJxab1ab_ok : ∀ k, k < 0 → parseFieldDescriptor (TJxab1ab k).2.2.1 = some (tyJxab1ab k) := by decide +kernel
noncomputable def RJ13 : String := "java/lang/Long"
noncomputable def TJ13 : u_T := fun k => match k with
  | _ => ("", "", "", false)
noncomputable def tyJ13 : Nat → FieldType := fun k => match k with
  | _ => .int
noncomputable abbrev wsJ130 : List Cond := u_ws RJ13 TJ13 0
theorem nmJ13 : ∀ a, a < 0 → ∀ b, b < 0 → a ≠ b → (TJ13 a).2.1 ≠ (TJ13 b).2.1 := by decide +kernel
theorem tyJ13_ok : ∀ k, k < 0 → parseFieldDescriptor (TJ13 k).2.2.1 = some (tyJ13 k) := by decide +kernel
noncomputable abbrev cJ13_bitCount_95d88 : ByteArray := prog_23_method_50_code
noncomputable def yJ13_bitCount_95d88 : MethodName := ⟨RJ13, "bitCount", "(J)I"⟩
noncomputable def RJ9 : String := "java/lang/Math"
noncomputable def TJ9 : u_T := fun k => match k with
  | _ => ("", "", "", false)
noncomputable def tyJ9 : Nat → FieldType := fun k => match k with
  | _ => .int
noncomputable abbrev wsJ90 : List Cond := u_ws RJ9 TJ9 0
theorem nmJ9 : ∀ a, a < 0 → ∀ b, b < 0 → a ≠ b → (TJ9 a).2.1 ≠ (TJ9 b).2.1 := by decide +kernel
theorem tyJ9_ok : ∀ k, k < 0 → parseFieldDescriptor (TJ9 k).2.2.1 = some (tyJ9 k) := by decide +kernel
noncomputable abbrev cJ9_abs_0f7a4 : ByteArray := prog_24_method_59_code
noncomputable def yJ9_abs_0f7a4 : MethodName := ⟨RJ9, "abs", "(I)I"⟩
noncomputable abbrev cJ9_max_7cf53 : ByteArray := prog_24_method_65_code
noncomputable def yJ9_max_7cf53 : MethodName := ⟨RJ9, "max", "(II)I"⟩
noncomputable abbrev cJ9_min_7cf53 : ByteArray := prog_24_method_69_code
noncomputable def yJ9_min_7cf53 : MethodName := ⟨RJ9, "min", "(II)I"⟩
noncomputable def RJxd2413 : String := "java/lang/Number"
noncomputable def TJxd2413 : u_T := fun k => match k with
  | _ => ("", "", "", false)
noncomputable def tyJxd2413 : Nat → FieldType := fun k => match k with
  | _ => .int
noncomputable abbrev wsJxd24130 : List Cond := u_ws RJxd2413 TJxd2413 0
theorem nmJxd2413 : ∀ a, a < 0 → ∀ b, b < 0 → a ≠ b → (TJxd2413 a).2.1 ≠ (TJxd2413 b).2.1 := by decide +kernel
theorem tyJxd2413_ok : ∀ k, k < 0 → parseFieldDescriptor (TJxd2413 k).2.2.1 = some (tyJxd2413 k) := by decide +kernel
noncomputable abbrev cJxd2413_init_da8c8 : ByteArray := prog_25_method_1_code
noncomputable def yJxd2413_init_da8c8 : MethodName := ⟨RJxd2413, "<init>", "()V"⟩
noncomputable def RJ0 : String := "java/lang/String"
noncomputable def TJ0 : u_T := fun k => match k with
  | _ => ("", "", "", false)
noncomputable def tyJ0 : Nat → FieldType := fun k => match k with
  | _ => .int
noncomputable abbrev wsJ00 : List Cond := u_ws RJ0 TJ0 0
theorem nmJ0 : ∀ a, a < 0 → ∀ b, b < 0 → a ≠ b → (TJ0 a).2.1 ≠ (TJ0 b).2.1 := by decide +kernel
theorem tyJ0_ok : ∀ k, k < 0 → parseFieldDescriptor (TJ0 k).2.2.1 = some (tyJ0 k) := by decide +kernel
noncomputable abbrev cJ0_length_8abf5 : ByteArray := prog_26_method_54_code
noncomputable def yJ0_length_8abf5 : MethodName := ⟨RJ0, "length", "()I"⟩
noncomputable abbrev cJ0_charAt_5068e : ByteArray := prog_26_method_56_code
noncomputable def yJ0_charAt_5068e : MethodName := ⟨RJ0, "charAt", "(I)C"⟩
noncomputable abbrev cJ0_indexOf_0f7a4 : ByteArray := prog_26_method_79_code
noncomputable def yJ0_indexOf_0f7a4 : MethodName := ⟨RJ0, "indexOf", "(I)I"⟩
noncomputable abbrev cJ0_indexOf_7cf53 : ByteArray := prog_26_method_80_code
noncomputable def yJ0_indexOf_7cf53 : MethodName := ⟨RJ0, "indexOf", "(II)I"⟩
noncomputable abbrev cJ0_coder_7d493 : ByteArray := prog_26_method_152_code
noncomputable def yJ0_coder_7d493 : MethodName := ⟨RJ0, "coder", "()B"⟩
noncomputable abbrev cJ0_isLatin1_aae02 : ByteArray := prog_26_method_154_code
noncomputable def yJ0_isLatin1_aae02 : MethodName := ⟨RJ0, "isLatin1", "()Z"⟩
noncomputable abbrev cJ0_checkIndex_df160 : ByteArray := prog_26_method_155_code
noncomputable def yJ0_checkIndex_df160 : MethodName := ⟨RJ0, "checkIndex", "(II)V"⟩
noncomputable abbrev cJ0_checkBoundsBeginEnd_23922 : ByteArray := prog_26_method_158_code
noncomputable def yJ0_checkBoundsBeginEnd_23922 : MethodName := ⟨RJ0, "checkBoundsBeginEnd", "(III)V"⟩
noncomputable def RJ1 : String := "java/lang/StringLatin1"
noncomputable def TJ1 : u_T := fun k => match k with
  | _ => ("", "", "", false)
noncomputable def tyJ1 : Nat → FieldType := fun k => match k with
  | _ => .int
noncomputable abbrev wsJ10 : List Cond := u_ws RJ1 TJ1 0
theorem nmJ1 : ∀ a, a < 0 → ∀ b, b < 0 → a ≠ b → (TJ1 a).2.1 ≠ (TJ1 b).2.1 := by decide +kernel
theorem tyJ1_ok : ∀ k, k < 0 → parseFieldDescriptor (TJ1 k).2.2.1 = some (tyJ1 k) := by decide +kernel
noncomputable abbrev cJ1_charAt_3b067 : ByteArray := prog_27_method_2_code
noncomputable def yJ1_charAt_3b067 : MethodName := ⟨RJ1, "charAt", "([BI)C"⟩
noncomputable abbrev cJ1_canEncode_9a6ad : ByteArray := prog_27_method_4_code
noncomputable def yJ1_canEncode_9a6ad : MethodName := ⟨RJ1, "canEncode", "(I)Z"⟩
noncomputable abbrev cJ1_indexOf_4cfef : ByteArray := prog_27_method_22_code
noncomputable def yJ1_indexOf_4cfef : MethodName := ⟨RJ1, "indexOf", "([BIII)I"⟩
noncomputable abbrev cJ1_indexOfChar_4cfef : ByteArray := prog_27_method_23_code
noncomputable def yJ1_indexOfChar_4cfef : MethodName := ⟨RJ1, "indexOfChar", "([BIII)I"⟩
noncomputable def RJ2 : String := "java/lang/StringUTF16"
noncomputable def TJ2 : u_T := fun k => match k with
  | _ => ("", "", "", false)
noncomputable def tyJ2 : Nat → FieldType := fun k => match k with
  | _ => .int
noncomputable abbrev wsJ20 : List Cond := u_ws RJ2 TJ2 0
theorem nmJ2 : ∀ a, a < 0 → ∀ b, b < 0 → a ≠ b → (TJ2 a).2.1 ≠ (TJ2 b).2.1 := by decide +kernel
theorem tyJ2_ok : ∀ k, k < 0 → parseFieldDescriptor (TJ2 k).2.2.1 = some (tyJ2 k) := by decide +kernel
noncomputable abbrev cJ2_getChar_3b067 : ByteArray := prog_28_method_5_code
noncomputable def yJ2_getChar_3b067 : MethodName := ⟨RJ2, "getChar", "([BI)C"⟩
noncomputable abbrev cJ2_length_9d52b : ByteArray := prog_28_method_6_code
noncomputable def yJ2_length_9d52b : MethodName := ⟨RJ2, "length", "([B)I"⟩
noncomputable abbrev cJ2_indexOf_4cfef : ByteArray := prog_28_method_40_code
noncomputable def yJ2_indexOf_4cfef : MethodName := ⟨RJ2, "indexOf", "([BIII)I"⟩
noncomputable abbrev cJ2_indexOfChar_4cfef : ByteArray := prog_28_method_47_code
noncomputable def yJ2_indexOfChar_4cfef : MethodName := ⟨RJ2, "indexOfChar", "([BIII)I"⟩
noncomputable abbrev cJ2_indexOfCharUnsafe_4cfef : ByteArray := prog_28_method_48_code
noncomputable def yJ2_indexOfCharUnsafe_4cfef : MethodName := ⟨RJ2, "indexOfCharUnsafe", "([BIII)I"⟩
noncomputable abbrev cJ2_indexOfSupplementary_4cfef : ByteArray := prog_28_method_49_code
noncomputable def yJ2_indexOfSupplementary_4cfef : MethodName := ⟨RJ2, "indexOfSupplementary", "([BIII)I"⟩
noncomputable abbrev cJ2_charAt_3b067 : ByteArray := prog_28_method_83_code
noncomputable def yJ2_charAt_3b067 : MethodName := ⟨RJ2, "charAt", "([BI)C"⟩
noncomputable abbrev cJ2_checkIndex_2214a : ByteArray := prog_28_method_91_code
noncomputable def yJ2_checkIndex_2214a : MethodName := ⟨RJ2, "checkIndex", "(I[B)V"⟩
noncomputable abbrev cJ2_checkBoundsBeginEnd_d044e : ByteArray := prog_28_method_93_code
noncomputable def yJ2_checkBoundsBeginEnd_d044e : MethodName := ⟨RJ2, "checkBoundsBeginEnd", "(II[B)V"⟩
noncomputable def RJ10 : String := "java/lang/System"
noncomputable def TJ10 : u_T := fun k => match k with
  | _ => ("", "", "", false)
noncomputable def tyJ10 : Nat → FieldType := fun k => match k with
  | _ => .int
noncomputable abbrev wsJ100 : List Cond := u_ws RJ10 TJ10 0
theorem nmJ10 : ∀ a, a < 0 → ∀ b, b < 0 → a ≠ b → (TJ10 a).2.1 ≠ (TJ10 b).2.1 := by decide +kernel
theorem tyJ10_ok : ∀ k, k < 0 → parseFieldDescriptor (TJ10 k).2.2.1 = some (tyJ10 k) := by decide +kernel
noncomputable def RJxfd54e : String := "java/lang/constant/Constable"
noncomputable def TJxfd54e : u_T := fun k => match k with
  | _ => ("", "", "", false)
noncomputable def tyJxfd54e : Nat → FieldType := fun k => match k with
  | _ => .int
noncomputable abbrev wsJxfd54e0 : List Cond := u_ws RJxfd54e TJxfd54e 0
theorem nmJxfd54e : ∀ a, a < 0 → ∀ b, b < 0 → a ≠ b → (TJxfd54e a).2.1 ≠ (TJxfd54e b).2.1 := by decide +kernel
theorem tyJxfd54e_ok : ∀ k, k < 0 → parseFieldDescriptor (TJxfd54e k).2.2.1 = some (tyJxfd54e k) := by decide +kernel
noncomputable def RJx3cf43 : String := "java/lang/constant/ConstantDesc"
noncomputable def TJx3cf43 : u_T := fun k => match k with
  | _ => ("", "", "", false)
noncomputable def tyJx3cf43 : Nat → FieldType := fun k => match k with
  | _ => .int
noncomputable abbrev wsJx3cf430 : List Cond := u_ws RJx3cf43 TJx3cf43 0
theorem nmJx3cf43 : ∀ a, a < 0 → ∀ b, b < 0 → a ≠ b → (TJx3cf43 a).2.1 ≠ (TJx3cf43 b).2.1 := by decide +kernel
theorem tyJx3cf43_ok : ∀ k, k < 0 → parseFieldDescriptor (TJx3cf43 k).2.2.1 = some (tyJx3cf43 k) := by decide +kernel
noncomputable def RJxa1e45 : String := "java/util/AbstractCollection"
noncomputable def TJxa1e45 : u_T := fun k => match k with
  | _ => ("", "", "", false)
noncomputable def tyJxa1e45 : Nat → FieldType := fun k => match k with
  | _ => .int
noncomputable abbrev wsJxa1e450 : List Cond := u_ws RJxa1e45 TJxa1e45 0
theorem nmJxa1e45 : ∀ a, a < 0 → ∀ b, b < 0 → a ≠ b → (TJxa1e45 a).2.1 ≠ (TJxa1e45 b).2.1 := by decide +kernel
theorem tyJxa1e45_ok : ∀ k, k < 0 → parseFieldDescriptor (TJxa1e45 k).2.2.1 = some (tyJxa1e45 k) := by decide +kernel
noncomputable abbrev cJxa1e45_init_da8c8 : ByteArray := prog_32_method_1_code
noncomputable def yJxa1e45_init_da8c8 : MethodName := ⟨RJxa1e45, "<init>", "()V"⟩
noncomputable def RJxc12de : String := "java/util/AbstractList"
noncomputable def TJxc12de : u_T := fun k => match k with
  | _ => ("", "", "", false)
noncomputable def tyJxc12de : Nat → FieldType := fun k => match k with
  | _ => .int
noncomputable abbrev wsJxc12de0 : List Cond := u_ws RJxc12de TJxc12de 0
theorem nmJxc12de : ∀ a, a < 0 → ∀ b, b < 0 → a ≠ b → (TJxc12de a).2.1 ≠ (TJxc12de b).2.1 := by decide +kernel
theorem tyJxc12de_ok : ∀ k, k < 0 → parseFieldDescriptor (TJxc12de k).2.2.1 = some (tyJxc12de k) := by decide +kernel
noncomputable abbrev cJxc12de_init_da8c8 : ByteArray := prog_33_method_1_code
noncomputable def yJxc12de_init_da8c8 : MethodName := ⟨RJxc12de, "<init>", "()V"⟩
noncomputable def RJx4a65c : String := "java/util/ArrayList"
noncomputable def TJx4a65c : u_T := fun k => match k with
  | 0 => ("java/util/AbstractList", "modCount", "I", false)
  | 1 => ("java/util/ArrayList", "elementData", "[Ljava/lang/Object;", false)
  | _ => ("java/util/ArrayList", "size", "I", false)
noncomputable def tyJx4a65c : Nat → FieldType := fun k => match k with
  | 0 => .int
  | 1 => .array (.object "java/lang/Object")
  | _ => .int
noncomputable abbrev wsJx4a65c0 : List Cond := u_ws RJx4a65c TJx4a65c 3
theorem nmJx4a65c : ∀ a, a < 3 → ∀ b, b < 3 → a ≠ b → (TJx4a65c a).2.1 ≠ (TJx4a65c b).2.1 := by decide +kernel
theorem tyJx4a65c_ok : ∀ k, k < 3 → parseFieldDescriptor (TJx4a65c k).2.2.1 = some (tyJx4a65c k) := by decide +kernel
noncomputable abbrev cJx4a65c_init_da8c8 : ByteArray := prog_34_method_2_code
noncomputable def yJx4a65c_init_da8c8 : MethodName := ⟨RJx4a65c, "<init>", "()V"⟩
noncomputable abbrev cJx4a65c_grow_92f84 : ByteArray := prog_34_method_6_code
noncomputable def yJx4a65c_grow_92f84 : MethodName := ⟨RJx4a65c, "grow", "(I)[Ljava/lang/Object;"⟩
noncomputable abbrev cJx4a65c_grow_d5877 : ByteArray := prog_34_method_7_code
noncomputable def yJx4a65c_grow_d5877 : MethodName := ⟨RJx4a65c, "grow", "()[Ljava/lang/Object;"⟩
noncomputable abbrev cJx4a65c_size_8abf5 : ByteArray := prog_34_method_8_code
noncomputable def yJx4a65c_size_8abf5 : MethodName := ⟨RJx4a65c, "size", "()I"⟩
noncomputable abbrev cJx4a65c_elementData_915e3 : ByteArray := prog_34_method_18_code
noncomputable def yJx4a65c_elementData_915e3 : MethodName := ⟨RJx4a65c, "elementData", "(I)Ljava/lang/Object;"⟩
noncomputable abbrev cJx4a65c_get_915e3 : ByteArray := prog_34_method_20_code
noncomputable def yJx4a65c_get_915e3 : MethodName := ⟨RJx4a65c, "get", "(I)Ljava/lang/Object;"⟩
noncomputable abbrev cJx4a65c_add_72be8 : ByteArray := prog_34_method_24_code
noncomputable def yJx4a65c_add_72be8 : MethodName := ⟨RJx4a65c, "add", "(Ljava/lang/Object;[Ljava/lang/Object;I)V"⟩
noncomputable abbrev cJx4a65c_add_9ea2d : ByteArray := prog_34_method_25_code
noncomputable def yJx4a65c_add_9ea2d : MethodName := ⟨RJx4a65c, "add", "(Ljava/lang/Object;)Z"⟩
noncomputable abbrev cJx4a65c_clear_da8c8 : ByteArray := prog_34_method_40_code
noncomputable def yJx4a65c_clear_da8c8 : MethodName := ⟨RJx4a65c, "clear", "()V"⟩
noncomputable def RJ7 : String := "java/util/Arrays"
noncomputable def TJ7 : u_T := fun k => match k with
  | _ => ("", "", "", false)
noncomputable def tyJ7 : Nat → FieldType := fun k => match k with
  | _ => .int
noncomputable abbrev wsJ70 : List Cond := u_ws RJ7 TJ7 0
theorem nmJ7 : ∀ a, a < 0 → ∀ b, b < 0 → a ≠ b → (TJ7 a).2.1 ≠ (TJ7 b).2.1 := by decide +kernel
theorem tyJ7_ok : ∀ k, k < 0 → parseFieldDescriptor (TJ7 k).2.2.1 = some (tyJ7 k) := by decide +kernel
noncomputable abbrev cJ7_copyOf_1904c : ByteArray := prog_35_method_119_code
noncomputable def yJ7_copyOf_1904c : MethodName := ⟨RJ7, "copyOf", "([Ljava/lang/Object;I)[Ljava/lang/Object;"⟩
noncomputable abbrev cJ7_copyOf_6403c : ByteArray := prog_35_method_120_code
noncomputable def yJ7_copyOf_6403c : MethodName := ⟨RJ7, "copyOf", "([Ljava/lang/Object;ILjava/lang/Class;)[Ljava/lang/Object;"⟩
noncomputable def RJx5ef63 : String := "java/util/Collection"
noncomputable def TJx5ef63 : u_T := fun k => match k with
  | _ => ("", "", "", false)
noncomputable def tyJx5ef63 : Nat → FieldType := fun k => match k with
  | _ => .int
noncomputable abbrev wsJx5ef630 : List Cond := u_ws RJx5ef63 TJx5ef63 0
theorem nmJx5ef63 : ∀ a, a < 0 → ∀ b, b < 0 → a ≠ b → (TJx5ef63 a).2.1 ≠ (TJx5ef63 b).2.1 := by decide +kernel
theorem tyJx5ef63_ok : ∀ k, k < 0 → parseFieldDescriptor (TJx5ef63 k).2.2.1 = some (tyJx5ef63 k) := by decide +kernel
noncomputable def RJxbd725 : String := "java/util/List"
noncomputable def TJxbd725 : u_T := fun k => match k with
  | _ => ("", "", "", false)
noncomputable def tyJxbd725 : Nat → FieldType := fun k => match k with
  | _ => .int
noncomputable abbrev wsJxbd7250 : List Cond := u_ws RJxbd725 TJxbd725 0
theorem nmJxbd725 : ∀ a, a < 0 → ∀ b, b < 0 → a ≠ b → (TJxbd725 a).2.1 ≠ (TJxbd725 b).2.1 := by decide +kernel
theorem tyJxbd725_ok : ∀ k, k < 0 → parseFieldDescriptor (TJxbd725 k).2.2.1 = some (tyJxbd725 k) := by decide +kernel
noncomputable def RJ15 : String := "java/util/Objects"
noncomputable def TJ15 : u_T := fun k => match k with
  | _ => ("", "", "", false)
noncomputable def tyJ15 : Nat → FieldType := fun k => match k with
  | _ => .int
noncomputable abbrev wsJ150 : List Cond := u_ws RJ15 TJ15 0
theorem nmJ15 : ∀ a, a < 0 → ∀ b, b < 0 → a ≠ b → (TJ15 a).2.1 ≠ (TJ15 b).2.1 := by decide +kernel
theorem tyJ15_ok : ∀ k, k < 0 → parseFieldDescriptor (TJ15 k).2.2.1 = some (tyJ15 k) := by decide +kernel
noncomputable abbrev cJ15_checkIndex_7cf53 : ByteArray := prog_38_method_17_code
noncomputable def yJ15_checkIndex_7cf53 : MethodName := ⟨RJ15, "checkIndex", "(II)I"⟩
noncomputable def RJxf0a74 : String := "java/util/RandomAccess"
noncomputable def TJxf0a74 : u_T := fun k => match k with
  | _ => ("", "", "", false)
noncomputable def tyJxf0a74 : Nat → FieldType := fun k => match k with
  | _ => .int
noncomputable abbrev wsJxf0a740 : List Cond := u_ws RJxf0a74 TJxf0a74 0
theorem nmJxf0a74 : ∀ a, a < 0 → ∀ b, b < 0 → a ≠ b → (TJxf0a74 a).2.1 ≠ (TJxf0a74 b).2.1 := by decide +kernel
theorem tyJxf0a74_ok : ∀ k, k < 0 → parseFieldDescriptor (TJxf0a74 k).2.2.1 = some (tyJxf0a74 k) := by decide +kernel
noncomputable def RJxa66e6 : String := "java/util/SequencedCollection"
noncomputable def TJxa66e6 : u_T := fun k => match k with
  | _ => ("", "", "", false)
noncomputable def tyJxa66e6 : Nat → FieldType := fun k => match k with
  | _ => .int
noncomputable abbrev wsJxa66e60 : List Cond := u_ws RJxa66e6 TJxa66e6 0
theorem nmJxa66e6 : ∀ a, a < 0 → ∀ b, b < 0 → a ≠ b → (TJxa66e6 a).2.1 ≠ (TJxa66e6 b).2.1 := by decide +kernel
theorem tyJxa66e6_ok : ∀ k, k < 0 → parseFieldDescriptor (TJxa66e6 k).2.2.1 = some (tyJxa66e6 k) := by decide +kernel
noncomputable def RJ8 : String := "jdk/internal/util/ArraysSupport"
noncomputable def TJ8 : u_T := fun k => match k with
  | _ => ("", "", "", false)
noncomputable def tyJ8 : Nat → FieldType := fun k => match k with
  | _ => .int
noncomputable abbrev wsJ80 : List Cond := u_ws RJ8 TJ8 0
theorem nmJ8 : ∀ a, a < 0 → ∀ b, b < 0 → a ≠ b → (TJ8 a).2.1 ≠ (TJ8 b).2.1 := by decide +kernel
theorem tyJ8_ok : ∀ k, k < 0 → parseFieldDescriptor (TJ8 k).2.2.1 = some (tyJ8 k) := by decide +kernel
noncomputable abbrev cJ8_newLength_cabcc : ByteArray := prog_41_method_27_code
noncomputable def yJ8_newLength_cabcc : MethodName := ⟨RJ8, "newLength", "(III)I"⟩
noncomputable abbrev cJ8_hugeLength_7cf53 : ByteArray := prog_41_method_28_code
noncomputable def yJ8_hugeLength_7cf53 : MethodName := ⟨RJ8, "hugeLength", "(II)I"⟩
noncomputable def RJ3 : String := "jdk/internal/util/Preconditions"
noncomputable def TJ3 : u_T := fun k => match k with
  | _ => ("", "", "", false)
noncomputable def tyJ3 : Nat → FieldType := fun k => match k with
  | _ => .int
noncomputable abbrev wsJ30 : List Cond := u_ws RJ3 TJ3 0
theorem nmJ3 : ∀ a, a < 0 → ∀ b, b < 0 → a ≠ b → (TJ3 a).2.1 ≠ (TJ3 b).2.1 := by decide +kernel
theorem tyJ3_ok : ∀ k, k < 0 → parseFieldDescriptor (TJ3 k).2.2.1 = some (tyJ3 k) := by decide +kernel
noncomputable abbrev cJ3_checkIndex_8e157 : ByteArray := prog_42_method_11_code
noncomputable def yJ3_checkIndex_8e157 : MethodName := ⟨RJ3, "checkIndex", "(IILjava/util/function/BiFunction;)I"⟩
noncomputable abbrev cJ3_checkFromToIndex_8c36e : ByteArray := prog_42_method_12_code
noncomputable def yJ3_checkFromToIndex_8c36e : MethodName := ⟨RJ3, "checkFromToIndex", "(IIILjava/util/function/BiFunction;)I"⟩
noncomputable def RL : String := "MistHeapsLaw"
noncomputable abbrev cL_law : ByteArray := code
noncomputable def yL_law : MethodName := ⟨RL, "law", "([I)Z"⟩
noncomputable def wsX0_init : List Cond := .code yX0_init cX0_init 1 none :: lw_good
noncomputable def wsX0_timesOf : List Cond := .code yX0_timesOf cX0_timesOf 4 (some .long) :: lw_good
noncomputable def wsX11_rowOf : List Cond := .code yX11_rowOf cX11_rowOf 1 (some .int) :: lw_good
noncomputable def wsX11_columnOf : List Cond := .code yX11_columnOf cX11_columnOf 1 (some .int) :: lw_good
noncomputable def wsX8_tellFacts : List Cond := .code yX8_tellFacts cX8_tellFacts 5 none :: lw_good
noncomputable def wsX5_isSo : List Cond := .code yX5_isSo cX5_isSo 4 (some .boolean) :: lw_good
noncomputable def wsX5_holds : List Cond := .code yX5_holds cX5_holds 7 (some .boolean) :: lw_good
noncomputable def wsX5_total : List Cond := .code yX5_total cX5_total 5 (some .int) :: lw_good
noncomputable def wsX8_driftOn : List Cond := .code yX8_driftOn cX8_driftOn 2 (some .int) :: lw_good
noncomputable def wsX0_begin : List Cond := .code yX0_begin cX0_begin 4 none :: lw_good
noncomputable def wsX11_isIn : List Cond := .code yX11_isIn cX11_isIn 3 (some .boolean) :: lw_good
noncomputable def wsX11_isOnHill : List Cond := .code yX11_isOnHill cX11_isOnHill 2 (some .boolean) :: lw_good
noncomputable def wsX11_besideOrSame : List Cond := .code yX11_besideOrSame cX11_besideOrSame 4 (some .int) :: lw_good
noncomputable def wsX0_spread : List Cond := .code yX0_spread cX0_spread 9 none :: lw_good
noncomputable def wsX0_walked : List Cond := .code yX0_walked cX0_walked 9 (some .long) :: lw_good
noncomputable def wsX0_hit : List Cond := .code yX0_hit cX0_hit 3 (some .int) :: lw_good
noncomputable def wsX0_tellHits : List Cond := .code yX0_tellHits cX0_tellHits 6 none :: lw_good
noncomputable def wsX0_tryLast : List Cond := .code yX0_tryLast cX0_tryLast 7 none :: lw_good
noncomputable def wsX0_search : List Cond := .code yX0_search cX0_search 11 none :: lw_good
noncomputable def wsX0_foundWay : List Cond := .code yX0_foundWay cX0_foundWay 3 (some .int) :: lw_good
noncomputable def wsX3_init : List Cond := .code yX3_init cX3_init 5 none :: lw_good
noncomputable def wsX1_init : List Cond := .code yX1_init cX1_init 5 none :: lw_good
noncomputable def wsX1_leadsTo : List Cond := .code yX1_leadsTo cX1_leadsTo 2 (some .boolean) :: lw_good
noncomputable def wsJx4a65c_size_8abf5 : List Cond := .code yJx4a65c_size_8abf5 cJx4a65c_size_8abf5 1 (some .int) :: lw_good
noncomputable def wsJxd2413_init_da8c8 : List Cond := .code yJxd2413_init_da8c8 cJxd2413_init_da8c8 1 none :: lw_good
noncomputable def wsJ6_init_d00df : List Cond := .code yJ6_init_d00df cJ6_init_d00df 2 none :: lw_good
noncomputable def wsJ6_valueOf_2dffe : List Cond := .code yJ6_valueOf_2dffe cJ6_valueOf_2dffe 1 (some (.object "java/lang/Integer")) :: lw_good
noncomputable def wsJ8_hugeLength_7cf53 : List Cond := .code yJ8_hugeLength_7cf53 cJ8_hugeLength_7cf53 3 (some .int) :: lw_good
noncomputable def wsJ8_newLength_cabcc : List Cond := .code yJ8_newLength_cabcc cJ8_newLength_cabcc 4 (some .int) :: lw_good
noncomputable def wsJ7_copyOf_6403c : List Cond := .code yJ7_copyOf_6403c cJ7_copyOf_6403c 4 (some (.array (.object "java/lang/Object"))) :: lw_good
noncomputable def wsJ7_copyOf_1904c : List Cond := .code yJ7_copyOf_1904c cJ7_copyOf_1904c 2 (some (.array (.object "java/lang/Object"))) :: lw_good
noncomputable def wsJx4a65c_grow_92f84 : List Cond := .code yJx4a65c_grow_92f84 cJx4a65c_grow_92f84 4 (some (.array (.object "java/lang/Object"))) :: lw_good
noncomputable def wsJx4a65c_grow_d5877 : List Cond := .code yJx4a65c_grow_d5877 cJx4a65c_grow_d5877 1 (some (.array (.object "java/lang/Object"))) :: lw_good
noncomputable def wsJx4a65c_add_72be8 : List Cond := .code yJx4a65c_add_72be8 cJx4a65c_add_72be8 4 none :: lw_good
noncomputable def wsJx4a65c_add_9ea2d : List Cond := .code yJx4a65c_add_9ea2d cJx4a65c_add_9ea2d 2 (some .boolean) :: lw_good
noncomputable def wsX3_begin : List Cond := .code yX3_begin cX3_begin 2 none :: lw_good
noncomputable def wsX3_doSees : List Cond := .code yX3_doSees cX3_doSees 3 (some .int) :: lw_good
noncomputable def wsX4_doSees : List Cond := .code yX4_doSees cX4_doSees 3 (some .int) :: lw_good
noncomputable def wsX9_doSees : List Cond := .code yX9_doSees cX9_doSees 3 (some .int) :: lw_good
noncomputable def wsX3_doGoes : List Cond := .code yX3_doGoes cX3_doGoes 3 (some .int) :: lw_good
noncomputable def wsX6_doGoes : List Cond := .code yX6_doGoes cX6_doGoes 3 (some .int) :: lw_good
noncomputable def wsX7_doGoes : List Cond := .code yX7_doGoes cX7_doGoes 3 (some .int) :: lw_good
noncomputable def wsX3_doLooks : List Cond := .code yX3_doLooks cX3_doLooks 3 (some .int) :: lw_good
noncomputable def wsX1_doLooks : List Cond := .code yX1_doLooks cX1_doLooks 3 (some .int) :: lw_good
noncomputable def wsX2_init : List Cond := .code yX2_init cX2_init 1 none :: lw_good
noncomputable def wsX3_reachBy : List Cond := .code yX3_reachBy cX3_reachBy 3 (some .int) :: lw_good
noncomputable def wsX4_reachBy : List Cond := .code yX4_reachBy cX4_reachBy 3 (some .int) :: lw_good
noncomputable def wsX6_reachBy : List Cond := .code yX6_reachBy cX6_reachBy 3 (some .int) :: lw_good
noncomputable def wsX7_reachBy : List Cond := .code yX7_reachBy cX7_reachBy 3 (some .int) :: lw_good
noncomputable def wsX9_reachBy : List Cond := .code yX9_reachBy cX9_reachBy 3 (some .int) :: lw_good
noncomputable def wsX8_reachOf : List Cond := .code yX8_reachOf cX8_reachOf 4 (some .int) :: lw_good
noncomputable def wsX2_measure : List Cond := .code yX2_measure cX2_measure 4 none :: lw_good
noncomputable def wsX11_apart : List Cond := .code yX11_apart cX11_apart 2 (some .int) :: lw_good
noncomputable def wsX2_seenFrom : List Cond := .code yX2_seenFrom cX2_seenFrom 5 (some .int) :: lw_good
noncomputable def wsX3_leadsTo : List Cond := .code yX3_leadsTo cX3_leadsTo 2 (some .boolean) :: lw_good
noncomputable def wsX10_isOnSide : List Cond := .code yX10_isOnSide cX10_isOnSide 2 (some .boolean) :: lw_good
noncomputable def wsX10_leadsTo : List Cond := .code yX10_leadsTo cX10_leadsTo 3 (some .boolean) :: lw_good
noncomputable def wsX2_tellGoing : List Cond := .code yX2_tellGoing cX2_tellGoing 5 none :: lw_good
noncomputable def wsX2_link : List Cond := .code yX2_link cX2_link 5 none :: lw_good
noncomputable def wsX2_isGoing : List Cond := .code yX2_isGoing cX2_isGoing 3 (some .boolean) :: lw_good
noncomputable def wsX2_onwardFrom : List Cond := .code yX2_onwardFrom cX2_onwardFrom 4 (some .int) :: lw_good
noncomputable def wsX2_fewest : List Cond := .code yX2_fewest cX2_fewest 7 (some .int) :: lw_good
noncomputable def wsX2_first : List Cond := .code yX2_first cX2_first 5 (some .int) :: lw_good
noncomputable def wsX2_breaks : List Cond := .code yX2_breaks cX2_breaks 5 (some .int) :: lw_good
noncomputable def wsX8_isTaken : List Cond := .code yX8_isTaken cX8_isTaken 3 (some .boolean) :: lw_good
noncomputable def wsX2_join : List Cond := .code yX2_join cX2_join 5 none :: lw_good
noncomputable def wsX2_bestCell : List Cond := .code yX2_bestCell cX2_bestCell 8 (some .int) :: lw_good
noncomputable def wsX3_isOfKind : List Cond := .code yX3_isOfKind cX3_isOfKind 4 (some .boolean) :: lw_good
noncomputable def wsX4_init : List Cond := .code yX4_init cX4_init 5 none :: lw_good
noncomputable def wsX5_init : List Cond := .code yX5_init cX5_init 1 none :: lw_good
noncomputable def wsX5_textOf : List Cond := .code yX5_textOf cX5_textOf 1 (some (.object "java/lang/String")) :: lw_good
noncomputable def wsJ0_coder_7d493 : List Cond := .code yJ0_coder_7d493 cJ0_coder_7d493 1 (some .byte) :: lw_good
noncomputable def wsJ0_length_8abf5 : List Cond := .code yJ0_length_8abf5 cJ0_length_8abf5 1 (some .int) :: lw_good
noncomputable def wsJ0_isLatin1_aae02 : List Cond := .code yJ0_isLatin1_aae02 cJ0_isLatin1_aae02 1 (some .boolean) :: lw_good
noncomputable def wsJ3_checkIndex_8e157 : List Cond := .code yJ3_checkIndex_8e157 cJ3_checkIndex_8e157 3 (some .int) :: lw_good
noncomputable def wsJ0_checkIndex_df160 : List Cond := .code yJ0_checkIndex_df160 cJ0_checkIndex_df160 2 none :: lw_good
noncomputable def wsJ1_charAt_3b067 : List Cond := .code yJ1_charAt_3b067 cJ1_charAt_3b067 2 (some .char) :: lw_good
noncomputable def wsJ2_length_9d52b : List Cond := .code yJ2_length_9d52b cJ2_length_9d52b 1 (some .int) :: lw_good
noncomputable def wsJ2_checkIndex_2214a : List Cond := .code yJ2_checkIndex_2214a cJ2_checkIndex_2214a 2 none :: lw_good
noncomputable def wsJ2_getChar_3b067 : List Cond := .code yJ2_getChar_3b067 cJ2_getChar_3b067 2 (some .char) :: lw_good
noncomputable def wsJ2_charAt_3b067 : List Cond := .code yJ2_charAt_3b067 cJ2_charAt_3b067 2 (some .char) :: lw_good
noncomputable def wsJ0_charAt_5068e : List Cond := .code yJ0_charAt_5068e cJ0_charAt_5068e 2 (some .char) :: lw_good
noncomputable def wsX5_sameSigns : List Cond := .code yX5_sameSigns cX5_sameSigns 3 (some .int) :: lw_good
noncomputable def wsX5_readWord : List Cond := .code yX5_readWord cX5_readWord 5 (some .int) :: lw_good
noncomputable def wsX5_sign : List Cond := .code yX5_sign cX5_sign 1 (some .int) :: lw_good
noncomputable def wsX5_isDigit : List Cond := .code yX5_isDigit cX5_isDigit 1 (some .boolean) :: lw_good
noncomputable def wsX5_readNumber : List Cond := .code yX5_readNumber cX5_readNumber 1 (some .boolean) :: lw_good
noncomputable def wsX5_readSign : List Cond := .code yX5_readSign cX5_readSign 2 (some .boolean) :: lw_good
noncomputable def wsX5_code : List Cond := .code yX5_code cX5_code 2 none :: lw_good
noncomputable def wsJ1_canEncode_9a6ad : List Cond := .code yJ1_canEncode_9a6ad cJ1_canEncode_9a6ad 1 (some .boolean) :: lw_good
noncomputable def wsJ1_indexOfChar_4cfef : List Cond := .code yJ1_indexOfChar_4cfef cJ1_indexOfChar_4cfef 6 (some .int) :: lw_good
noncomputable def wsJ1_indexOf_4cfef : List Cond := .code yJ1_indexOf_4cfef cJ1_indexOf_4cfef 4 (some .int) :: lw_good
noncomputable def wsJ3_checkFromToIndex_8c36e : List Cond := .code yJ3_checkFromToIndex_8c36e cJ3_checkFromToIndex_8c36e 4 (some .int) :: lw_good
noncomputable def wsJ0_checkBoundsBeginEnd_23922 : List Cond := .code yJ0_checkBoundsBeginEnd_23922 cJ0_checkBoundsBeginEnd_23922 3 none :: lw_good
noncomputable def wsJ2_checkBoundsBeginEnd_d044e : List Cond := .code yJ2_checkBoundsBeginEnd_d044e cJ2_checkBoundsBeginEnd_d044e 3 none :: lw_good
noncomputable def wsJ2_indexOfCharUnsafe_4cfef : List Cond := .code yJ2_indexOfCharUnsafe_4cfef cJ2_indexOfCharUnsafe_4cfef 5 (some .int) :: lw_good
noncomputable def wsJ2_indexOfChar_4cfef : List Cond := .code yJ2_indexOfChar_4cfef cJ2_indexOfChar_4cfef 4 (some .int) :: lw_good
noncomputable def wsJ11_isValidCodePoint_9a6ad : List Cond := .code yJ11_isValidCodePoint_9a6ad cJ11_isValidCodePoint_9a6ad 2 (some .boolean) :: lw_good
noncomputable def wsJ11_highSurrogate_5068e : List Cond := .code yJ11_highSurrogate_5068e cJ11_highSurrogate_5068e 1 (some .char) :: lw_good
noncomputable def wsJ11_lowSurrogate_5068e : List Cond := .code yJ11_lowSurrogate_5068e cJ11_lowSurrogate_5068e 1 (some .char) :: lw_good
noncomputable def wsJ2_indexOfSupplementary_4cfef : List Cond := .code yJ2_indexOfSupplementary_4cfef cJ2_indexOfSupplementary_4cfef 7 (some .int) :: lw_good
noncomputable def wsJ2_indexOf_4cfef : List Cond := .code yJ2_indexOf_4cfef cJ2_indexOf_4cfef 4 (some .int) :: lw_good
noncomputable def wsJ0_indexOf_7cf53 : List Cond := .code yJ0_indexOf_7cf53 cJ0_indexOf_7cf53 3 (some .int) :: lw_good
noncomputable def wsJ0_indexOf_0f7a4 : List Cond := .code yJ0_indexOf_0f7a4 cJ0_indexOf_0f7a4 2 (some .int) :: lw_good
noncomputable def wsX5_readTest : List Cond := .code yX5_readTest cX5_readTest 3 (some .boolean) :: lw_good
noncomputable def wsX5_readBoth : List Cond := .code yX5_readBoth cX5_readBoth 3 (some .boolean) :: lw_good
noncomputable def wsX5_readEither : List Cond := .code yX5_readEither cX5_readEither 3 (some .boolean) :: lw_good
noncomputable def wsX5_readPlain : List Cond := .code yX5_readPlain cX5_readPlain 3 (some .boolean) :: lw_good
noncomputable def wsX5_read : List Cond := .code yX5_read cX5_read 5 (some .int) :: lw_good
noncomputable def wsX6_init : List Cond := .code yX6_init cX6_init 5 none :: lw_good
noncomputable def wsX7_init : List Cond := .code yX7_init cX7_init 5 none :: lw_good
noncomputable def wsX8_init : List Cond := .code yX8_init cX8_init 1 none :: lw_good
noncomputable def wsX8_copyFrom : List Cond := .code yX8_copyFrom cX8_copyFrom 3 none :: lw_good
noncomputable def wsX8_heapAt : List Cond := .code yX8_heapAt cX8_heapAt 2 (some (.object "MistHeaps$Heap")) :: lw_good
noncomputable def wsX8_areHeaps : List Cond := .code yX8_areHeaps cX8_areHeaps 3 (some .boolean) :: lw_good
noncomputable def wsX8_cellsSeeing : List Cond := .code yX8_cellsSeeing cX8_cellsSeeing 7 (some .long) :: lw_good
noncomputable def wsX9_init : List Cond := .code yX9_init cX9_init 5 none :: lw_good
noncomputable def wsX10_init : List Cond := .code yX10_init cX10_init 5 none :: lw_good
noncomputable def wsX10_doLooks : List Cond := .code yX10_doLooks cX10_doLooks 4 (some .int) :: lw_good
noncomputable def wsJxa1e45_init_da8c8 : List Cond := .code yJxa1e45_init_da8c8 cJxa1e45_init_da8c8 1 none :: lw_good
noncomputable def wsJxc12de_init_da8c8 : List Cond := .code yJxc12de_init_da8c8 cJxc12de_init_da8c8 1 none :: lw_good
noncomputable def wsJx4a65c_init_da8c8 : List Cond := .code yJx4a65c_init_da8c8 cJx4a65c_init_da8c8 1 none :: lw_good
noncomputable def wsX11_init : List Cond := .code yX11_init cX11_init 1 none :: lw_good
noncomputable def wsX11_feed : List Cond := .code yX11_feed cX11_feed 2 (some .int) :: lw_good
noncomputable def wsX11_hill : List Cond := .code yX11_hill cX11_hill 2 (some .int) :: lw_good
noncomputable def wsJ13_bitCount_95d88 : List Cond := .code yJ13_bitCount_95d88 cJ13_bitCount_95d88 2 (some .int) :: lw_good
noncomputable def wsX11_edges : List Cond := .code yX11_edges cX11_edges 4 (some .int) :: lw_good
noncomputable def wsX11_told : List Cond := .code yX11_told cX11_told 2 (some .int) :: lw_good
noncomputable def wsX11_set : List Cond := .code yX11_set cX11_set 4 (some .int) :: lw_good
noncomputable def wsX11_isCell : List Cond := .code yX11_isCell cX11_isCell 1 (some .boolean) :: lw_good
noncomputable def wsX11_heapOfKind : List Cond := .code yX11_heapOfKind cX11_heapOfKind 4 (some (.object "MistHeaps$Heap")) :: lw_good
noncomputable def wsX11_heap : List Cond := .code yX11_heap cX11_heap 4 (some .int) :: lw_good
noncomputable def wsX11_of : List Cond := .code yX11_of cX11_of 4 (some .int) :: lw_good
noncomputable def wsX11_sees : List Cond := .code yX11_sees cX11_sees 2 (some .int) :: lw_good
noncomputable def wsX11_where : List Cond := .code yX11_where cX11_where 5 (some .long) :: lw_good
noncomputable def wsX11_steps : List Cond := .code yX11_steps cX11_steps 3 (some .int) :: lw_good
noncomputable def wsX11_via : List Cond := .code yX11_via cX11_via 3 (some .int) :: lw_good
noncomputable def wsX11_cuts : List Cond := .code yX11_cuts cX11_cuts 3 (some .int) :: lw_good
noncomputable def wsX11_bears : List Cond := .code yX11_bears cX11_bears 4 (some .int) :: lw_good
noncomputable def wsX11_build : List Cond := .code yX11_build cX11_build 5 (some .int) :: lw_good
noncomputable def wsX11_drift : List Cond := .code yX11_drift cX11_drift 2 (some .int) :: lw_good
noncomputable def wsX11_walk : List Cond := .code yX11_walk cX11_walk 2 (some .int) :: lw_good
noncomputable def wsX11_commonDivisor : List Cond := .code yX11_commonDivisor cX11_commonDivisor 7 (some .long) :: lw_good
noncomputable def wsX11_partOf : List Cond := .code yX11_partOf cX11_partOf 7 (some .long) :: lw_good
noncomputable def wsX11_odds : List Cond := .code yX11_odds cX11_odds 8 (some .long) :: lw_good
noncomputable def wsX11_best : List Cond := .code yX11_best cX11_best 5 (some .int) :: lw_good
noncomputable def wsX11_bestOdds : List Cond := .code yX11_bestOdds cX11_bestOdds 5 (some .long) :: lw_good
noncomputable def wsX11_safe : List Cond := .code yX11_safe cX11_safe 4 (some .int) :: lw_good
noncomputable def wsX11_line : List Cond := .code yX11_line cX11_line 7 (some .int) :: lw_good
noncomputable def wsX11_next : List Cond := .code yX11_next cX11_next 9 (some .int) :: lw_good
noncomputable def wsX11_book : List Cond := .code yX11_book cX11_book 2 (some .int) :: lw_good
noncomputable def wsX11_looked : List Cond := .code yX11_looked cX11_looked 2 (some .int) :: lw_good
noncomputable def wsJx4a65c_clear_da8c8 : List Cond := .code yJx4a65c_clear_da8c8 cJx4a65c_clear_da8c8 4 none :: lw_good
noncomputable def wsX11_act : List Cond := .code yX11_act cX11_act 5 (some .int) :: lw_good
noncomputable def wsJ15_checkIndex_7cf53 : List Cond := .code yJ15_checkIndex_7cf53 cJ15_checkIndex_7cf53 2 (some .int) :: lw_good
noncomputable def wsJx4a65c_elementData_915e3 : List Cond := .code yJx4a65c_elementData_915e3 cJx4a65c_elementData_915e3 2 (some (.object "java/lang/Object")) :: lw_good
noncomputable def wsJx4a65c_get_915e3 : List Cond := .code yJx4a65c_get_915e3 cJx4a65c_get_915e3 2 (some (.object "java/lang/Object")) :: lw_good
noncomputable def wsJ6_intValue_8abf5 : List Cond := .code yJ6_intValue_8abf5 cJ6_intValue_8abf5 1 (some .int) :: lw_good
noncomputable def wsX11_trace : List Cond := .code yX11_trace cX11_trace 2 (some .int) :: lw_good
noncomputable def wsX11_as : List Cond := .code yX11_as cX11_as 4 (some .int) :: lw_good
noncomputable def wsX11_image : List Cond := .code yX11_image cX11_image 1 (some .int) :: lw_good
noncomputable def wsX11_undo : List Cond := .code yX11_undo cX11_undo 1 (some .int) :: lw_good
noncomputable def wsX11_count : List Cond := .code yX11_count cX11_count 2 (some .int) :: lw_good
noncomputable def wsX12_init : List Cond := .code yX12_init cX12_init 1 none :: lw_good
noncomputable def wsX12_in : List Cond := .code yX12_in cX12_in 3 (some .boolean) :: lw_good
noncomputable def wsX12_size : List Cond := .code yX12_size cX12_size 1 (some .int) :: lw_good
noncomputable def wsX12_isCell : List Cond := .code yX12_isCell cX12_isCell 1 (some .boolean) :: lw_good
noncomputable def wsX12_isHeap : List Cond := .code yX12_isHeap cX12_isHeap 2 (some .boolean) :: lw_good
noncomputable def wsX12_apart : List Cond := .code yX12_apart cX12_apart 4 (some .int) :: lw_good
noncomputable def wsX12_rowsOf : List Cond := .code yX12_rowsOf cX12_rowsOf 1 (some .int) :: lw_good
noncomputable def wsX12_columnsOf : List Cond := .code yX12_columnsOf cX12_columnsOf 1 (some .int) :: lw_good
noncomputable def wsX12_nextTo : List Cond := .code yX12_nextTo cX12_nextTo 4 (some .int) :: lw_good
noncomputable def wsX12_feed : List Cond := .code yX12_feed cX12_feed 2 (some .int) :: lw_good
noncomputable def wsX12_here : List Cond := .code yX12_here cX12_here 1 (some .int) :: lw_good
noncomputable def wsX12_must : List Cond := .code yX12_must cX12_must 2 none :: lw_good
noncomputable def wsX12_spells : List Cond := .code yX12_spells cX12_spells 3 none :: lw_good
noncomputable def wsX12_figures : List Cond := .code yX12_figures cX12_figures 3 (some .int) :: lw_good
noncomputable def wsX12_among : List Cond := .code yX12_among cX12_among 3 (some .int) :: lw_good
noncomputable def wsX12_emits : List Cond := .code yX12_emits cX12_emits 2 none :: lw_good
noncomputable def wsX12_every : List Cond := .code yX12_every cX12_every 1 none :: lw_good
noncomputable def wsX12_factor : List Cond := .code yX12_factor cX12_factor 5 none :: lw_good
noncomputable def wsX12_some : List Cond := .code yX12_some cX12_some 1 none :: lw_good
noncomputable def wsX12_much : List Cond := .code yX12_much cX12_much 4 none :: lw_good
noncomputable def wsX12_clauseOfS : List Cond := .code yX12_clauseOfS cX12_clauseOfS 2 none :: lw_good
noncomputable def wsX12_clauseHere : List Cond := .code yX12_clauseHere cX12_clauseHere 1 none :: lw_good
noncomputable def wsX12_hill : List Cond := .code yX12_hill cX12_hill 2 (some .int) :: lw_good
noncomputable def wsX12_sight : List Cond := .code yX12_sight cX12_sight 1 (some .int) :: lw_good
noncomputable def wsX12_edgesMany : List Cond := .code yX12_edgesMany cX12_edgesMany 3 (some .int) :: lw_good
noncomputable def wsX12_edges : List Cond := .code yX12_edges cX12_edges 5 (some .int) :: lw_good
noncomputable def wsX12_set : List Cond := .code yX12_set cX12_set 4 (some .int) :: lw_good
noncomputable def wsX12_told : List Cond := .code yX12_told cX12_told 2 (some .int) :: lw_good
noncomputable def wsX12_looks : List Cond := .code yX12_looks cX12_looks 12 none :: lw_good
noncomputable def wsX12_heapOn : List Cond := .code yX12_heapOn cX12_heapOn 4 (some .int) :: lw_good
noncomputable def wsX12_puts : List Cond := .code yX12_puts cX12_puts 5 (some .int) :: lw_good
noncomputable def wsX12_heap : List Cond := .code yX12_heap cX12_heap 4 (some .int) :: lw_good
noncomputable def wsX12_reachOf : List Cond := .code yX12_reachOf cX12_reachOf 5 (some .int) :: lw_good
noncomputable def wsX12_of : List Cond := .code yX12_of cX12_of 3 (some .int) :: lw_good
noncomputable def wsX12_isSeen : List Cond := .code yX12_isSeen cX12_isSeen 3 (some .boolean) :: lw_good
noncomputable def wsX12_seesOf : List Cond := .code yX12_seesOf cX12_seesOf 4 (some .int) :: lw_good
noncomputable def wsX12_sees : List Cond := .code yX12_sees cX12_sees 2 (some .int) :: lw_good
noncomputable def wsX12_where : List Cond := .code yX12_where cX12_where 5 (some .long) :: lw_good
noncomputable def wsX12_isThatSide : List Cond := .code yX12_isThatSide cX12_isThatSide 3 (some .boolean) :: lw_good
noncomputable def wsX12_doesGo : List Cond := .code yX12_doesGo cX12_doesGo 7 (some .boolean) :: lw_good
noncomputable def wsX12_looksForGoings : List Cond := .code yX12_looksForGoings cX12_looksForGoings 3 none :: lw_good
noncomputable def wsX12_spread : List Cond := .code yX12_spread cX12_spread 4 (some .int) :: lw_good
noncomputable def wsX12_stepsBut : List Cond := .code yX12_stepsBut cX12_stepsBut 6 (some .int) :: lw_good
noncomputable def wsX12_stepsOf : List Cond := .code yX12_stepsOf cX12_stepsOf 3 (some .int) :: lw_good
noncomputable def wsX12_steps : List Cond := .code yX12_steps cX12_steps 3 (some .int) :: lw_good
noncomputable def wsX12_via : List Cond := .code yX12_via cX12_via 5 (some .int) :: lw_good
noncomputable def wsX12_cuts : List Cond := .code yX12_cuts cX12_cuts 5 (some .int) :: lw_good
noncomputable def wsX12_bears : List Cond := .code yX12_bears cX12_bears 6 (some .int) :: lw_good
noncomputable def wsX12_build : List Cond := .code yX12_build cX12_build 9 (some .int) :: lw_good
noncomputable def wsX12_driftOf : List Cond := .code yX12_driftOf cX12_driftOf 2 (some .int) :: lw_good
noncomputable def wsX12_drift : List Cond := .code yX12_drift cX12_drift 2 (some .int) :: lw_good
noncomputable def wsX12_looksForDrifts : List Cond := .code yX12_looksForDrifts cX12_looksForDrifts 2 none :: lw_good
noncomputable def wsX12_begins : List Cond := .code yX12_begins cX12_begins 3 none :: lw_good
noncomputable def wsX12_goesOn : List Cond := .code yX12_goesOn cX12_goesOn 4 none :: lw_good
noncomputable def wsX12_over : List Cond := .code yX12_over cX12_over 4 (some .long) :: lw_good
noncomputable def wsX12_seen : List Cond := .code yX12_seen cX12_seen 5 (some .long) :: lw_good
noncomputable def wsX12_lowest : List Cond := .code yX12_lowest cX12_lowest 11 (some .long) :: lw_good
noncomputable def wsX12_twenties : List Cond := .code yX12_twenties cX12_twenties 4 (some .long) :: lw_good
noncomputable def wsX12_walk : List Cond := .code yX12_walk cX12_walk 2 (some .int) :: lw_good
noncomputable def wsX12_odds : List Cond := .code yX12_odds cX12_odds 7 (some .long) :: lw_good
noncomputable def wsX12_goesBy : List Cond := .code yX12_goesBy cX12_goesBy 6 none :: lw_good
noncomputable def wsX12_bestRow : List Cond := .code yX12_bestRow cX12_bestRow 10 (some .int) :: lw_good
noncomputable def wsX12_wayOf : List Cond := .code yX12_wayOf cX12_wayOf 4 (some .int) :: lw_good
noncomputable def wsX12_best : List Cond := .code yX12_best cX12_best 5 (some .int) :: lw_good
noncomputable def wsX12_bestOdds : List Cond := .code yX12_bestOdds cX12_bestOdds 6 (some .long) :: lw_good
noncomputable def wsX12_safe : List Cond := .code yX12_safe cX12_safe 4 (some .int) :: lw_good
noncomputable def wsX12_line : List Cond := .code yX12_line cX12_line 6 (some .int) :: lw_good
noncomputable def wsX12_next : List Cond := .code yX12_next cX12_next 9 (some .int) :: lw_good
noncomputable def wsX12_book : List Cond := .code yX12_book cX12_book 2 (some .int) :: lw_good
noncomputable def wsX12_looked : List Cond := .code yX12_looked cX12_looked 2 (some .int) :: lw_good
noncomputable def wsX12_ranBody : List Cond := .code yX12_ranBody cX12_ranBody 2 none :: lw_good
noncomputable def wsX12_isUnder : List Cond := .code yX12_isUnder cX12_isUnder 2 (some .boolean) :: lw_good
noncomputable def wsX12_plainSees : List Cond := .code yX12_plainSees cX12_plainSees 2 (some .int) :: lw_good
noncomputable def wsX12_seesActs : List Cond := .code yX12_seesActs cX12_seesActs 2 (some .int) :: lw_good
noncomputable def wsX12_plainGoes : List Cond := .code yX12_plainGoes cX12_plainGoes 2 (some .int) :: lw_good
noncomputable def wsX12_goesActs : List Cond := .code yX12_goesActs cX12_goesActs 2 (some .int) :: lw_good
noncomputable def wsX12_plainLooks : List Cond := .code yX12_plainLooks cX12_plainLooks 2 (some .int) :: lw_good
noncomputable def wsX12_looksActs : List Cond := .code yX12_looksActs cX12_looksActs 3 (some .int) :: lw_good
noncomputable def wsX12_act : List Cond := .code yX12_act cX12_act 4 (some .int) :: lw_good
noncomputable def wsX12_trace : List Cond := .code yX12_trace cX12_trace 2 (some .int) :: lw_good
noncomputable def wsX12_as : List Cond := .code yX12_as cX12_as 3 (some .int) :: lw_good
noncomputable def wsX12_image : List Cond := .code yX12_image cX12_image 2 (some .int) :: lw_good
noncomputable def wsX12_undo : List Cond := .code yX12_undo cX12_undo 2 (some .int) :: lw_good
noncomputable def wsX12_count : List Cond := .code yX12_count cX12_count 2 (some .int) :: lw_good
noncomputable def wsJ9_abs_0f7a4 : List Cond := .code yJ9_abs_0f7a4 cJ9_abs_0f7a4 1 (some .int) :: lw_good
noncomputable def wsJ9_max_7cf53 : List Cond := .code yJ9_max_7cf53 cJ9_max_7cf53 2 (some .int) :: lw_good
noncomputable def wsJ9_min_7cf53 : List Cond := .code yJ9_min_7cf53 cJ9_min_7cf53 2 (some .int) :: lw_good
noncomputable abbrev vwCl : List vw_C := [(RJ6, TJ6, 1), (RJx4a65c, TJx4a65c, 3), (RX0, TX0, 5), (RX1, TX1, 4), (RX2, TX2, 4), (RX3, TX3, 4), (RX4, TX4, 4), (RX5, TX5, 11), (RX6, TX6, 4), (RX7, TX7, 4), (RX8, TX8, 14), (RX9, TX9, 4), (RX10, TX10, 4), (RX11, TX11, 7), (RX12, TX12, 23)]
