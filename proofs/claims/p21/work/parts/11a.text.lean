section mg11a
theorem ggJ0_length_8abf5_J0_coder_7d493 : GoodIn wsJ0_length_8abf5 wsJ0_coder_7d493 := gga_of 384 rfl rfl rfl
theorem gJ0_length_8abf5_J0_coder_7d493 : GoodIn wsJ0_length_8abf5 (wsV RJ0 335 RJ0 yJ0_coder_7d493 wsJ0_coder_7d493) := goodIn_app (ggh_of [381, 382, 383, 73] rfl rfl rfl) ggJ0_length_8abf5_J0_coder_7d493
theorem ggJ0_checkIndex_df160_J3_checkIndex_8e157 : GoodIn wsJ0_checkIndex_df160 wsJ3_checkIndex_8e157 := gga_of 405 rfl rfl rfl
theorem gJ0_checkIndex_df160_J3_checkIndex_8e157 : GoodIn wsJ0_checkIndex_df160 (va_wsS RJ0 1059 yJ3_checkIndex_8e157 wsJ3_checkIndex_8e157) := goodIn_app (ggh_of [403, 404, 75] rfl rfl rfl) ggJ0_checkIndex_df160_J3_checkIndex_8e157
theorem ggJ1_charAt_3b067_J0_checkIndex_df160 : GoodIn wsJ1_charAt_3b067 wsJ0_checkIndex_df160 := gga_of 400 rfl rfl rfl
theorem gJ1_charAt_3b067_J0_checkIndex_df160 : GoodIn wsJ1_charAt_3b067 (va_wsS RJ1 9 yJ0_checkIndex_df160 wsJ0_checkIndex_df160) := goodIn_app (ggh_of [398, 399, 73] rfl rfl rfl) ggJ1_charAt_3b067_J0_checkIndex_df160
theorem ggJ0_charAt_5068e_J0_isLatin1_aae02 : GoodIn wsJ0_charAt_5068e wsJ0_isLatin1_aae02 := gga_of 394 rfl rfl rfl
theorem gJ0_charAt_5068e_J0_isLatin1_aae02 : GoodIn wsJ0_charAt_5068e (wsV RJ0 492 RJ0 yJ0_isLatin1_aae02 wsJ0_isLatin1_aae02) := goodIn_app (ggh_of [391, 392, 393, 73] rfl rfl rfl) ggJ0_charAt_5068e_J0_isLatin1_aae02
theorem ggJ0_charAt_5068e_J1_charAt_3b067 : GoodIn wsJ0_charAt_5068e wsJ1_charAt_3b067 := gga_of 397 rfl rfl rfl
theorem gJ0_charAt_5068e_J1_charAt_3b067 : GoodIn wsJ0_charAt_5068e (va_wsS RJ0 495 yJ1_charAt_3b067 wsJ1_charAt_3b067) := goodIn_app (ggh_of [395, 396, 74] rfl rfl rfl) ggJ0_charAt_5068e_J1_charAt_3b067
noncomputable def dk11atext_cJ0_coder_7d493_0 : List (Nat × List Nat) := [(0, [178, 0, 38]), (3, [153, 0, 10]), (6, [42]), (7, [180, 0, 15]), (10, [167, 0, 4]), (14, [172])]
set_option maxRecDepth 100000 in
theorem dk11atext_cJ0_coder_7d493_0_a : btA cJ0_coder_7d493 dk11atext_cJ0_coder_7d493_0 = true := by decide +kernel
theorem dJ0_coder_7d493_0 : decode cJ0_coder_7d493 0 = .ok (.getstatic 38, 3) := bd178 (a := 0) (b := 38) (btAt dk11atext_cJ0_coder_7d493_0_a 0 rfl)
theorem dJ0_coder_7d493_3 : decode cJ0_coder_7d493 3 = .ok (.ifCond .eq 10, 3) := bd153 (a := 0) (b := 10) (btAt dk11atext_cJ0_coder_7d493_0_a 1 rfl)
theorem dJ0_coder_7d493_6 : decode cJ0_coder_7d493 6 = .ok (.aload_n 0, 1) := bd42 (btAt dk11atext_cJ0_coder_7d493_0_a 2 rfl)
theorem dJ0_coder_7d493_7 : decode cJ0_coder_7d493 7 = .ok (.getfield 15, 3) := bd180 (a := 0) (b := 15) (btAt dk11atext_cJ0_coder_7d493_0_a 3 rfl)
theorem dJ0_coder_7d493_10 : decode cJ0_coder_7d493 10 = .ok (.goto 4, 3) := bd167 (a := 0) (b := 4) (btAt dk11atext_cJ0_coder_7d493_0_a 4 rfl)
theorem dJ0_coder_7d493_14 : decode cJ0_coder_7d493 14 = .ok (.ireturn, 1) := bd172 (btAt dk11atext_cJ0_coder_7d493_0_a 5 rfl)
noncomputable def dk11atext_cJ0_length_8abf5_0 : List (Nat × List Nat) := [(0, [42]), (1, [180, 0, 9]), (4, [190]), (5, [42]), (6, [182, 1, 79]), (9, [122]), (10, [172])]
set_option maxRecDepth 100000 in
theorem dk11atext_cJ0_length_8abf5_0_a : btA cJ0_length_8abf5 dk11atext_cJ0_length_8abf5_0 = true := by decide +kernel
theorem dJ0_length_8abf5_0 : decode cJ0_length_8abf5 0 = .ok (.aload_n 0, 1) := bd42 (btAt dk11atext_cJ0_length_8abf5_0_a 0 rfl)
theorem dJ0_length_8abf5_1 : decode cJ0_length_8abf5 1 = .ok (.getfield 9, 3) := bd180 (a := 0) (b := 9) (btAt dk11atext_cJ0_length_8abf5_0_a 1 rfl)
theorem dJ0_length_8abf5_4 : decode cJ0_length_8abf5 4 = .ok (.arraylength, 1) := bd190 (btAt dk11atext_cJ0_length_8abf5_0_a 2 rfl)
theorem dJ0_length_8abf5_5 : decode cJ0_length_8abf5 5 = .ok (.aload_n 0, 1) := bd42 (btAt dk11atext_cJ0_length_8abf5_0_a 3 rfl)
theorem dJ0_length_8abf5_6 : decode cJ0_length_8abf5 6 = .ok (.invokevirtual 335, 3) := bd182 (a := 1) (b := 79) (btAt dk11atext_cJ0_length_8abf5_0_a 4 rfl)
theorem dJ0_length_8abf5_9 : decode cJ0_length_8abf5 9 = .ok (.ishr, 1) := bd122 (btAt dk11atext_cJ0_length_8abf5_0_a 5 rfl)
theorem dJ0_length_8abf5_10 : decode cJ0_length_8abf5 10 = .ok (.ireturn, 1) := bd172 (btAt dk11atext_cJ0_length_8abf5_0_a 6 rfl)
noncomputable def dk11atext_cJ0_isLatin1_aae02_0 : List (Nat × List Nat) := [(0, [178, 0, 38]), (3, [153, 0, 14]), (6, [42]), (7, [180, 0, 15]), (10, [154, 0, 7]), (13, [4]), (14, [167, 0, 4]), (18, [172])]
set_option maxRecDepth 100000 in
theorem dk11atext_cJ0_isLatin1_aae02_0_a : btA cJ0_isLatin1_aae02 dk11atext_cJ0_isLatin1_aae02_0 = true := by decide +kernel
theorem dJ0_isLatin1_aae02_0 : decode cJ0_isLatin1_aae02 0 = .ok (.getstatic 38, 3) := bd178 (a := 0) (b := 38) (btAt dk11atext_cJ0_isLatin1_aae02_0_a 0 rfl)
theorem dJ0_isLatin1_aae02_3 : decode cJ0_isLatin1_aae02 3 = .ok (.ifCond .eq 14, 3) := bd153 (a := 0) (b := 14) (btAt dk11atext_cJ0_isLatin1_aae02_0_a 1 rfl)
theorem dJ0_isLatin1_aae02_6 : decode cJ0_isLatin1_aae02 6 = .ok (.aload_n 0, 1) := bd42 (btAt dk11atext_cJ0_isLatin1_aae02_0_a 2 rfl)
theorem dJ0_isLatin1_aae02_7 : decode cJ0_isLatin1_aae02 7 = .ok (.getfield 15, 3) := bd180 (a := 0) (b := 15) (btAt dk11atext_cJ0_isLatin1_aae02_0_a 3 rfl)
theorem dJ0_isLatin1_aae02_10 : decode cJ0_isLatin1_aae02 10 = .ok (.ifCond .ne 7, 3) := bd154 (a := 0) (b := 7) (btAt dk11atext_cJ0_isLatin1_aae02_0_a 4 rfl)
theorem dJ0_isLatin1_aae02_13 : decode cJ0_isLatin1_aae02 13 = .ok (.iconst 1, 1) := bd4 (btAt dk11atext_cJ0_isLatin1_aae02_0_a 5 rfl)
theorem dJ0_isLatin1_aae02_14 : decode cJ0_isLatin1_aae02 14 = .ok (.goto 4, 3) := bd167 (a := 0) (b := 4) (btAt dk11atext_cJ0_isLatin1_aae02_0_a 6 rfl)
theorem dJ0_isLatin1_aae02_18 : decode cJ0_isLatin1_aae02 18 = .ok (.ireturn, 1) := bd172 (btAt dk11atext_cJ0_isLatin1_aae02_0_a 7 rfl)
noncomputable def dk11atext_cJ3_checkIndex_8e157_0 : List (Nat × List Nat) := [(0, [26]), (1, [155, 0, 8]), (4, [26]), (5, [27]), (6, [161, 0, 10]), (16, [26]), (17, [172])]
set_option maxRecDepth 100000 in
theorem dk11atext_cJ3_checkIndex_8e157_0_a : btA cJ3_checkIndex_8e157 dk11atext_cJ3_checkIndex_8e157_0 = true := by decide +kernel
theorem dJ3_checkIndex_8e157_0 : decode cJ3_checkIndex_8e157 0 = .ok (.iload_n 0, 1) := bd26 (btAt dk11atext_cJ3_checkIndex_8e157_0_a 0 rfl)
theorem dJ3_checkIndex_8e157_1 : decode cJ3_checkIndex_8e157 1 = .ok (.ifCond .lt 8, 3) := bd155 (a := 0) (b := 8) (btAt dk11atext_cJ3_checkIndex_8e157_0_a 1 rfl)
theorem dJ3_checkIndex_8e157_4 : decode cJ3_checkIndex_8e157 4 = .ok (.iload_n 0, 1) := bd26 (btAt dk11atext_cJ3_checkIndex_8e157_0_a 2 rfl)
theorem dJ3_checkIndex_8e157_5 : decode cJ3_checkIndex_8e157 5 = .ok (.iload_n 1, 1) := bd27 (btAt dk11atext_cJ3_checkIndex_8e157_0_a 3 rfl)
theorem dJ3_checkIndex_8e157_6 : decode cJ3_checkIndex_8e157 6 = .ok (.if_icmp .lt 10, 3) := bd161 (a := 0) (b := 10) (btAt dk11atext_cJ3_checkIndex_8e157_0_a 4 rfl)
theorem dJ3_checkIndex_8e157_16 : decode cJ3_checkIndex_8e157 16 = .ok (.iload_n 0, 1) := bd26 (btAt dk11atext_cJ3_checkIndex_8e157_0_a 5 rfl)
theorem dJ3_checkIndex_8e157_17 : decode cJ3_checkIndex_8e157 17 = .ok (.ireturn, 1) := bd172 (btAt dk11atext_cJ3_checkIndex_8e157_0_a 6 rfl)
noncomputable def dk11atext_cJ0_checkIndex_df160_0 : List (Nat × List Nat) := [(0, [26]), (1, [27]), (2, [178, 4, 29]), (5, [184, 4, 35]), (8, [87]), (9, [177])]
set_option maxRecDepth 100000 in
theorem dk11atext_cJ0_checkIndex_df160_0_a : btA cJ0_checkIndex_df160 dk11atext_cJ0_checkIndex_df160_0 = true := by decide +kernel
theorem dJ0_checkIndex_df160_0 : decode cJ0_checkIndex_df160 0 = .ok (.iload_n 0, 1) := bd26 (btAt dk11atext_cJ0_checkIndex_df160_0_a 0 rfl)
theorem dJ0_checkIndex_df160_1 : decode cJ0_checkIndex_df160 1 = .ok (.iload_n 1, 1) := bd27 (btAt dk11atext_cJ0_checkIndex_df160_0_a 1 rfl)
theorem dJ0_checkIndex_df160_2 : decode cJ0_checkIndex_df160 2 = .ok (.getstatic 1053, 3) := bd178 (a := 4) (b := 29) (btAt dk11atext_cJ0_checkIndex_df160_0_a 2 rfl)
theorem dJ0_checkIndex_df160_5 : decode cJ0_checkIndex_df160 5 = .ok (.invokestatic 1059, 3) := bd184 (a := 4) (b := 35) (btAt dk11atext_cJ0_checkIndex_df160_0_a 3 rfl)
theorem dJ0_checkIndex_df160_8 : decode cJ0_checkIndex_df160 8 = .ok (.pop, 1) := bd87 (btAt dk11atext_cJ0_checkIndex_df160_0_a 4 rfl)
theorem dJ0_checkIndex_df160_9 : decode cJ0_checkIndex_df160 9 = .ok (.return_, 1) := bd177 (btAt dk11atext_cJ0_checkIndex_df160_0_a 5 rfl)
noncomputable def dk11atext_cJ1_charAt_3b067_0 : List (Nat × List Nat) := [(0, [27]), (1, [42]), (2, [190]), (3, [184, 0, 9]), (6, [42]), (7, [27]), (8, [51]), (9, [17, 0, 255]), (12, [126]), (13, [146]), (14, [172])]
set_option maxRecDepth 100000 in
theorem dk11atext_cJ1_charAt_3b067_0_a : btA cJ1_charAt_3b067 dk11atext_cJ1_charAt_3b067_0 = true := by decide +kernel
theorem dJ1_charAt_3b067_0 : decode cJ1_charAt_3b067 0 = .ok (.iload_n 1, 1) := bd27 (btAt dk11atext_cJ1_charAt_3b067_0_a 0 rfl)
theorem dJ1_charAt_3b067_1 : decode cJ1_charAt_3b067 1 = .ok (.aload_n 0, 1) := bd42 (btAt dk11atext_cJ1_charAt_3b067_0_a 1 rfl)
theorem dJ1_charAt_3b067_2 : decode cJ1_charAt_3b067 2 = .ok (.arraylength, 1) := bd190 (btAt dk11atext_cJ1_charAt_3b067_0_a 2 rfl)
theorem dJ1_charAt_3b067_3 : decode cJ1_charAt_3b067 3 = .ok (.invokestatic 9, 3) := bd184 (a := 0) (b := 9) (btAt dk11atext_cJ1_charAt_3b067_0_a 3 rfl)
theorem dJ1_charAt_3b067_6 : decode cJ1_charAt_3b067 6 = .ok (.aload_n 0, 1) := bd42 (btAt dk11atext_cJ1_charAt_3b067_0_a 4 rfl)
theorem dJ1_charAt_3b067_7 : decode cJ1_charAt_3b067 7 = .ok (.iload_n 1, 1) := bd27 (btAt dk11atext_cJ1_charAt_3b067_0_a 5 rfl)
theorem dJ1_charAt_3b067_8 : decode cJ1_charAt_3b067 8 = .ok (.baload, 1) := bd51 (btAt dk11atext_cJ1_charAt_3b067_0_a 6 rfl)
theorem dJ1_charAt_3b067_9 : decode cJ1_charAt_3b067 9 = .ok (.sipush 255, 3) := bd17 (a := 0) (b := 255) (btAt dk11atext_cJ1_charAt_3b067_0_a 7 rfl)
theorem dJ1_charAt_3b067_12 : decode cJ1_charAt_3b067 12 = .ok (.iand, 1) := bd126 (btAt dk11atext_cJ1_charAt_3b067_0_a 8 rfl)
theorem dJ1_charAt_3b067_13 : decode cJ1_charAt_3b067 13 = .ok (.i2c, 1) := bd146 (btAt dk11atext_cJ1_charAt_3b067_0_a 9 rfl)
theorem dJ1_charAt_3b067_14 : decode cJ1_charAt_3b067 14 = .ok (.ireturn, 1) := bd172 (btAt dk11atext_cJ1_charAt_3b067_0_a 10 rfl)
noncomputable def dk11atext_cJ0_charAt_5068e_0 : List (Nat × List Nat) := [(0, [42]), (1, [182, 1, 236]), (4, [153, 0, 12]), (7, [42]), (8, [180, 0, 9]), (11, [27]), (12, [184, 1, 239]), (15, [172])]
set_option maxRecDepth 100000 in
theorem dk11atext_cJ0_charAt_5068e_0_a : btA cJ0_charAt_5068e dk11atext_cJ0_charAt_5068e_0 = true := by decide +kernel
theorem dJ0_charAt_5068e_0 : decode cJ0_charAt_5068e 0 = .ok (.aload_n 0, 1) := bd42 (btAt dk11atext_cJ0_charAt_5068e_0_a 0 rfl)
theorem dJ0_charAt_5068e_1 : decode cJ0_charAt_5068e 1 = .ok (.invokevirtual 492, 3) := bd182 (a := 1) (b := 236) (btAt dk11atext_cJ0_charAt_5068e_0_a 1 rfl)
theorem dJ0_charAt_5068e_4 : decode cJ0_charAt_5068e 4 = .ok (.ifCond .eq 12, 3) := bd153 (a := 0) (b := 12) (btAt dk11atext_cJ0_charAt_5068e_0_a 2 rfl)
theorem dJ0_charAt_5068e_7 : decode cJ0_charAt_5068e 7 = .ok (.aload_n 0, 1) := bd42 (btAt dk11atext_cJ0_charAt_5068e_0_a 3 rfl)
theorem dJ0_charAt_5068e_8 : decode cJ0_charAt_5068e 8 = .ok (.getfield 9, 3) := bd180 (a := 0) (b := 9) (btAt dk11atext_cJ0_charAt_5068e_0_a 4 rfl)
theorem dJ0_charAt_5068e_11 : decode cJ0_charAt_5068e 11 = .ok (.iload_n 1, 1) := bd27 (btAt dk11atext_cJ0_charAt_5068e_0_a 5 rfl)
theorem dJ0_charAt_5068e_12 : decode cJ0_charAt_5068e 12 = .ok (.invokestatic 495, 3) := bd184 (a := 1) (b := 239) (btAt dk11atext_cJ0_charAt_5068e_0_a 6 rfl)
theorem dJ0_charAt_5068e_15 : decode cJ0_charAt_5068e 15 = .ok (.ireturn, 1) := bd172 (btAt dk11atext_cJ0_charAt_5068e_0_a 7 rfl)
theorem va_T_cong {ty : FieldType} {t N : Nat} {f g : Nat → Value} {A : Nat → Prop} {U : State} {H : Heap} (h : va_T ty t N f A U H) (he : ∀ j, j < N → f j = g j) : va_T ty t N g A U H := by
  obtain ⟨cell, h1, h2, h3, h4, h5, h6, h7⟩ := h
  exact ⟨cell, h1, h2, h3, h4, h5, fun j hj => (h6 j hj).trans (congrArg some (he j hj)), h7⟩
noncomputable def sTab : List (String × Nat × String) := [(RX5, 81, "see "), (RX5, 83, "hide "), (RX5, 85, "sight "), (RX5, 87, "drift "), (RX5, 112, "hkrcms"), (RX5, 118, "<=>"), (RX12, 101, "hkrcms"), (RX12, 107, "<=>"), (RX12, 119, "ee "), (RX12, 125, "ight "), (RX12, 130, "hide "), (RX12, 132, "drift ")]
noncomputable def sLen (i : Nat) : Nat := [4, 5, 6, 6, 6, 3, 6, 3, 3, 5, 5, 6].getD i 0
theorem sLen_lt0 {i : Nat} (h : i < 12) : sLen i < 7 := (by decide : ∀ i, i < 12 → sLen i < 7) i h
noncomputable def sTx (i : Nat) : List Nat := [[115, 101, 101, 32], [104, 105, 100, 101, 32], [115, 105, 103, 104, 116, 32], [100, 114, 105, 102, 116, 32], [104, 107, 114, 99, 109, 115], [60, 61, 62], [104, 107, 114, 99, 109, 115], [60, 61, 62], [101, 101, 32], [105, 103, 104, 116, 32], [104, 105, 100, 101, 32], [100, 114, 105, 102, 116, 32]].getD i []
theorem sTx_len {i : Nat} (h : i < 12) : (sTx i).length = sLen i := (by decide : ∀ i, i < 12 → (sTx i).length = sLen i) i h
theorem sTx_ch {i k : Nat} (h : i < 12) (hk : k < sLen i) : 0 < (sTx i).getD k 0 ∧ (sTx i).getD k 0 < 128 := (by decide +kernel : ∀ i, i < 12 → ∀ k, k < 7 → k < sLen i → 0 < (sTx i).getD k 0 ∧ (sTx i).getD k 0 < 128) i h k (by have := sLen_lt0 h; omega) hk
/-- the formatter of the machine's own messages: it may be null -/
noncomputable def sF (sV : Nat → Nat) : Option Nat := if sV 12 = 0 then none else some (sV 13)
theorem sLen_lt {i : Nat} (h : i < 12) : sLen i < 7 := (by decide : ∀ i, i < 12 → sLen i < 7) i h
/-- the texts of the words, and what says that a text is of bytes -/
noncomputable def Gs (sK sV : Nat → Nat) (A : Nat → Prop) (U : State) : Prop := (∀ i, i < 12 → vk_R (sTab.getD i ("", 0, "")).1 (sTab.getD i ("", 0, "")).2.1 (sTab.getD i ("", 0, "")).2.2 (sK i) U) ∧ (∀ i, i < 12 → va_O "java/lang/String" (sK i) A U U.heap ∧ va_OF "java/lang/String" "coder" "B" (.int 0) (sK i) A U U.heap ∧ va_OF "java/lang/String" "value" "[B" (.ref (sV i)) (sK i) A U U.heap ∧ va_T .byte (sV i) (sLen i) (fun k => .int (nI ((sTx i).getD k 0))) A U U.heap) ∧ va_Z "java/lang/String" "COMPACT_STRINGS" "Z" (.int 1) A U U.heap ∧ va_Z "jdk/internal/util/Preconditions" "SIOOBE_FORMATTER" "Ljava/util/function/BiFunction;" (va_rf (sF sV)) A U U.heap
theorem Gs.same {sK sV : Nat → Nat} {A : Nat → Prop} {u U : State} (h : Gs sK sV A u) (hvm : u.vm = U.vm) (hh : U.heap = u.heap) : Gs sK sV A U := by
  obtain ⟨h1, h5, h6, h7⟩ := h
  have hv : u.vm.Alike U.vm := by rw [hvm]; exact Vm.Alike.refl _
  refine ⟨fun i hi => (h1 i hi).same hvm.symm, fun i hi => ?_, ?_, ?_⟩
  · obtain ⟨a, b, c, d⟩ := h5 i hi
    rw [hh]
    exact ⟨a.moved hv, b.moved hv, c.moved hv, d.moved hv⟩
  · rw [hh]; exact h6.moved hv
  · rw [hh]; exact h7.moved hv
theorem Gs.mv {sK sV : Nat → Nat} {A : Nat → Prop} {U : State} (g : _) (mk : _) (a : _) (h : Gs sK sV A U) : Gs sK sV A (U.calling g mk a) := h.same rfl rfl
theorem Gs.call {sK sV : Nat → Nat} {A B : Nat → Prop} {s U : State} {H : Heap} {locs : List Loc} (h : Gs sK sV A s) (hS : va_S A s.heap H locs) (hU : U.heap = H) (hW : s.WarmedH U.vm) (hB : ∀ q, B q → A q) : Gs sK sV B U := by
  obtain ⟨h1, h5, h6, h7⟩ := h
  refine ⟨fun i hi => (h1 i hi).warm hW, fun i hi => ?_, ?_, ?_⟩
  · obtain ⟨a, b, c, d⟩ := h5 i hi
    rw [hU]
    exact ⟨((a.kept (H1 := H) hS.2.1).moved hW.alike).narrow hB, ((b.kept (H1 := H) hS.2.1).moved hW.alike).narrow hB, ((c.kept (H1 := H) hS.2.1).moved hW.alike).narrow hB, ((d.kept (H1 := H) hS.2.1).moved hW.alike).narrow hB⟩
  · rw [hU]; exact ((h6.kept (H1 := H) hS.2.1).moved hW.alike).narrow hB
  · rw [hU]; exact ((h7.kept (H1 := H) hS.2.1).moved hW.alike).narrow hB
theorem Gs.callF {sK sV : Nat → Nat} {A : Nat → Prop} {s U : State} {H : Heap} {locs : List Loc} (h : Gs sK sV A s) (hS : va_S A s.heap H locs) (hU : U.heap = H) (hW : s.WarmedH U.vm) : Gs sK sV (fun _ => False) U := h.call hS hU hW (fun _ q => q.elim)
theorem ch_sm {c : Nat} (h : c < 128) : ((nI c &&& 255).toUInt32 % 65536).toInt32 = nI c := (by decide +kernel : ∀ c, c < 128 → ((nI c &&& 255).toUInt32 % 65536).toInt32 = nI c) c h
theorem ch_s2 {c : Nat} (h : c < 128) : ((nI c).toUInt32 % 65536).toInt32 = nI c := (by decide +kernel : ∀ c, c < 128 → ((nI c).toUInt32 % 65536).toInt32 = nI c) c h
theorem by_sm {c : Nat} (h : c < 128) : (nI c).toInt8.toInt32 = nI c := (by decide +kernel : ∀ c, c < 128 → (nI c).toInt8.toInt32 = nI c) c h
theorem ch_of (x : Int32) : ∃ k : Nat, k < 65536 ∧ ((x &&& 255).toUInt32 % 65536).toInt32 = nI k := ⟨(x &&& 255).toBitVec.toNat % 65536, Nat.mod_lt _ (by decide), pk_char _⟩

theorem kc_coder_0 : (.fieldLink RJ0 38 "java/lang/String" "COMPACT_STRINGS" "Z" : Cond) ∈ wsJ0_coder_7d493 := kc_of 385 rfl rfl rfl
theorem kc_coder_1 : (.fieldLink RJ0 15 "java/lang/String" "coder" "B" : Cond) ∈ wsJ0_coder_7d493 := kc_of 1577 rfl rfl rfl
set_option maxHeartbeats 4000000 in
set_option maxRecDepth 100000 in
theorem c_coder (l : Launch) (dC : Nat → ClassId) (dI : Nat → Nat → Nat) (sK sV : Nat → Nat) (i : Nat) (hi12 : i < 12) : Met l yJ0_coder_7d493 wsJ0_coder_7d493 ({ frames := 0, cells := 0, slots := 0, locals := 0 } : Room) (va_Pc [.ref (sK i)] (fun U => Gs sK sV (fun _ => False) U)) (vp_Si (fun r => r = 0)) 0 0 (fun _ => False) := by
  refine met_ofQ (cc := cJ0_coder_7d493) (maxL := 1) (ret := (some .byte)) (by decide) rfl ?_
  intro p e s m args below meth c s₁ Q B hml hv hQ
  obtain ⟨rfl, hE⟩ := hv
  have hx := B.exec
  have hb := B.bytes
  have hr := B.returns
  have hts := atoms_spec (ws := wsJ0_coder_7d493) B.pre
  have hown : s.vm.findClass RJ0 = some m.cls := findClass_of_methodNamed B.named
  have hlocks := B.notSynchronized
  obtain ⟨A, hAe⟩ : ∃ A : Nat → Prop, A = fun _ => False := ⟨_, rfl⟩
  rw [← hAe] at hQ hE
  have hS : va_S A s.heap s.heap [] := va_S.rf
  have hl := lv_entry [.ref (sK i)] (n := 1) (Nat.le_of_ble_eq_true rfl)
  rw [lg_entry_eq]
  generalize (lg_sl [.ref (sK i)] ++ List.replicate (1 - (lg_sl [.ref (sK i)]).length) Slot.unset).toArray = ls at hl ⊢
  generalize hag : ([.ref (sK i)] : List Value).toArray = args at hts hQ ⊢
  have hl : lv_has ls 1 [(0, .ref (sK i))] := hl
  refine va_gets (C := "java/lang/String") (n := "COMPACT_STRINGS") (d := "Z") (v := .int 1) hx hb hE.2.2.1 hS hown (hts (.fieldLink RJ0 38 "java/lang/String" "COMPACT_STRINGS" "Z") kc_coder_0) (fun _ h9 => h9) dJ0_coder_7d493_0 ?_
  refine lv_if_eq (tgt := 13) hx hb dJ0_coder_7d493_3 (by decide) (fun c_1 => absurd c_1 (by decide)) (fun _ => ?_)
  refine lv_aload_n hx hb dJ0_coder_7d493_6 rfl (lv_at hl 0 rfl) ?_
  refine vk_getf (o := "java/lang/String") (n := "coder") (d := "B") (v := .int 0) hx hb (hE.2.1 i hi12).2.1 hS hown (hts (.fieldLink RJ0 15 "java/lang/String" "coder" "B") kc_coder_1) (fun _ h9 => h9) dJ0_coder_7d493_7 ?_
  refine lv_goto (tgt := 14) hx hb dJ0_coder_7d493_10 (by decide) ?_
  rw [hQ]
  exact W.zret (v := 0) hx hb hr rfl (fun tQ htQ hWQ => ⟨0, rfl, rfl, by rw [htQ]⟩) (fun q hq => absurd hq List.not_mem_nil) dJ0_coder_7d493_14

theorem shr0 {n : Nat} (h : n < 7) : nI n >>> ((0 : Int32) &&& 31) = nI n := (by decide : ∀ n, n < 7 → nI n >>> ((0 : Int32) &&& 31) = nI n) n h

theorem kc_len_0 : (.fieldLink RJ0 9 "java/lang/String" "value" "[B" : Cond) ∈ wsJ0_length_8abf5 := kc_of 1576 rfl rfl rfl
set_option maxHeartbeats 4000000 in
set_option maxRecDepth 100000 in
theorem c_len (l : Launch) (dC : Nat → ClassId) (dI : Nat → Nat → Nat) (sK sV : Nat → Nat) (i : Nat) (hi12 : i < 12) : Met l yJ0_length_8abf5 wsJ0_length_8abf5 ({ frames := 1, cells := 0, slots := 0, locals := 20 } : Room) (va_Pc [.ref (sK i)] (fun U => Gs sK sV (fun _ => False) U)) (vp_Si (fun r => r = nI (sLen i))) 0 0 (fun _ => False) := by
  refine met_ofQ (cc := cJ0_length_8abf5) (maxL := 1) (ret := (some .int)) (by decide) rfl ?_
  intro p e s m args below meth c s₁ Q B hml hv hQ
  obtain ⟨rfl, hE⟩ := hv
  have hx := B.exec
  have hb := B.bytes
  have hr := B.returns
  have hts := atoms_spec (ws := wsJ0_length_8abf5) B.pre
  have hown : s.vm.findClass RJ0 = some m.cls := findClass_of_methodNamed B.named
  have hlocks := B.notSynchronized
  obtain ⟨A, hAe⟩ : ∃ A : Nat → Prop, A = fun _ => False := ⟨_, rfl⟩
  rw [← hAe] at hQ hE
  have hS : va_S A s.heap s.heap [] := va_S.rf
  have hl := lv_entry [.ref (sK i)] (n := 1) (Nat.le_of_ble_eq_true rfl)
  rw [lg_entry_eq]
  generalize (lg_sl [.ref (sK i)] ++ List.replicate (1 - (lg_sl [.ref (sK i)]).length) Slot.unset).toArray = ls at hl ⊢
  generalize hag : ([.ref (sK i)] : List Value).toArray = args at hts hQ ⊢
  have hl : lv_has ls 1 [(0, .ref (sK i))] := hl
  refine lv_aload_n hx hb dJ0_length_8abf5_0 rfl (lv_at hl 0 rfl) ?_
  refine vk_getf (o := "java/lang/String") (n := "value") (d := "[B") (v := .ref (sV i)) hx hb (hE.2.1 i hi12).2.2.1 hS hown (hts (.fieldLink RJ0 9 "java/lang/String" "value" "[B") kc_len_0) (fun _ h9 => h9) dJ0_length_8abf5_1 ?_
  refine va_tlen (v := nI (sLen i)) hx hb (hE.2.1 i hi12).2.2.2 hS rfl dJ0_length_8abf5_4 ?_
  refine lv_aload_n hx hb dJ0_length_8abf5_5 rfl (lv_at hl 0 rfl) ?_
  refine vp_callSi (va_runV (As := []) (rest := [.int (nI (sLen i))]) ⟨hx, hb, hml, hown, hts⟩ (c_coder l dC dI sK sV i hi12) (cwV 0 hts gJ0_length_8abf5_J0_coder_7d493 rfl rfl rfl hd_yJ0_coder_7d493 ⟨Nat.le_of_ble_eq_true rfl, Nat.le_of_ble_eq_true rfl⟩) ⟨fun a U g mk q => by obtain ⟨q0, qhE⟩ := q; exact ⟨q0, qhE.mv g mk a⟩, va_Orecv (hE.2.1 i hi12).1 hS, fun U hU hW => ⟨rfl, hE.callF hS hU hW⟩⟩ rfl rfl hl.1 rfl (lv_room (Nat.le_of_ble_eq_true rfl)) dJ0_length_8abf5_6 ⟨Nat.le_of_ble_eq_true rfl, Nat.le_of_ble_eq_true rfl⟩).run (fun r_1 hw_2 => ?_)
  refine qi_as (y := 0) (hw_2) ?_
  refine lv_ishr hx hb dJ0_length_8abf5_9 ?_
  refine qi_as (y := nI (sLen i)) (shr0 (sLen_lt hi12)) ?_
  rw [hQ]
  exact W.iret (v := nI (sLen i)) hx hb hr (fun tQ htQ hWQ => ⟨nI (sLen i), rfl, rfl, by rw [htQ]⟩) (fun q hq => absurd hq List.not_mem_nil) dJ0_length_8abf5_10

theorem kc_latin_0 : (.fieldLink RJ0 38 "java/lang/String" "COMPACT_STRINGS" "Z" : Cond) ∈ wsJ0_isLatin1_aae02 := kc_of 385 rfl rfl rfl
theorem kc_latin_1 : (.fieldLink RJ0 15 "java/lang/String" "coder" "B" : Cond) ∈ wsJ0_isLatin1_aae02 := kc_of 1577 rfl rfl rfl
set_option maxHeartbeats 4000000 in
set_option maxRecDepth 100000 in
theorem c_latin (l : Launch) (dC : Nat → ClassId) (dI : Nat → Nat → Nat) (sK sV : Nat → Nat) (i : Nat) (hi12 : i < 12) : Met l yJ0_isLatin1_aae02 wsJ0_isLatin1_aae02 ({ frames := 0, cells := 0, slots := 0, locals := 0 } : Room) (va_Pc [.ref (sK i)] (fun U => Gs sK sV (fun _ => False) U)) (vp_Si (fun r => r = 1)) 0 0 (fun _ => False) := by
  refine met_ofQ (cc := cJ0_isLatin1_aae02) (maxL := 1) (ret := (some .boolean)) (by decide) rfl ?_
  intro p e s m args below meth c s₁ Q B hml hv hQ
  obtain ⟨rfl, hE⟩ := hv
  have hx := B.exec
  have hb := B.bytes
  have hr := B.returns
  have hts := atoms_spec (ws := wsJ0_isLatin1_aae02) B.pre
  have hown : s.vm.findClass RJ0 = some m.cls := findClass_of_methodNamed B.named
  have hlocks := B.notSynchronized
  obtain ⟨A, hAe⟩ : ∃ A : Nat → Prop, A = fun _ => False := ⟨_, rfl⟩
  rw [← hAe] at hQ hE
  have hS : va_S A s.heap s.heap [] := va_S.rf
  have hl := lv_entry [.ref (sK i)] (n := 1) (Nat.le_of_ble_eq_true rfl)
  rw [lg_entry_eq]
  generalize (lg_sl [.ref (sK i)] ++ List.replicate (1 - (lg_sl [.ref (sK i)]).length) Slot.unset).toArray = ls at hl ⊢
  generalize hag : ([.ref (sK i)] : List Value).toArray = args at hts hQ ⊢
  have hl : lv_has ls 1 [(0, .ref (sK i))] := hl
  refine va_gets (C := "java/lang/String") (n := "COMPACT_STRINGS") (d := "Z") (v := .int 1) hx hb hE.2.2.1 hS hown (hts (.fieldLink RJ0 38 "java/lang/String" "COMPACT_STRINGS" "Z") kc_latin_0) (fun _ h9 => h9) dJ0_isLatin1_aae02_0 ?_
  refine lv_if_eq (tgt := 17) hx hb dJ0_isLatin1_aae02_3 (by decide) (fun c_1 => absurd c_1 (by decide)) (fun _ => ?_)
  refine lv_aload_n hx hb dJ0_isLatin1_aae02_6 rfl (lv_at hl 0 rfl) ?_
  refine vk_getf (o := "java/lang/String") (n := "coder") (d := "B") (v := .int 0) hx hb (hE.2.1 i hi12).2.1 hS hown (hts (.fieldLink RJ0 15 "java/lang/String" "coder" "B") kc_latin_1) (fun _ h9 => h9) dJ0_isLatin1_aae02_7 ?_
  refine lv_if_ne (tgt := 17) hx hb dJ0_isLatin1_aae02_10 (by decide) (fun c_2 => absurd c_2 (by decide)) (fun _ => ?_)
  refine lv_iconst (v := 1) hx hb dJ0_isLatin1_aae02_13 (by decide) ?_
  refine lv_goto (tgt := 18) hx hb dJ0_isLatin1_aae02_14 (by decide) ?_
  rw [hQ]
  exact W.zret (v := 1) hx hb hr rfl (fun tQ htQ hWQ => ⟨1, rfl, rfl, by rw [htQ]⟩) (fun q hq => absurd hq List.not_mem_nil) dJ0_isLatin1_aae02_18

set_option maxHeartbeats 4000000 in
set_option maxRecDepth 100000 in
theorem c_chk3 (l : Launch) (dC : Nat → ClassId) (dI : Nat → Nat → Nat) (k n a : Nat) (hkn : k < n) (hn7 : n < 100) : Met l yJ3_checkIndex_8e157 wsJ3_checkIndex_8e157 ({ frames := 0, cells := 0, slots := 0, locals := 0 } : Room) (va_Pc [.int (nI k), .int (nI n), .ref a] (fun U => True)) (vp_Si (fun r => True)) 0 0 (fun _ => False) := by
  refine met_ofQ (cc := cJ3_checkIndex_8e157) (maxL := 3) (ret := (some .int)) (by decide) rfl ?_
  intro p e s m args below meth c s₁ Q B hml hv hQ
  obtain ⟨rfl, -⟩ := hv
  have hx := B.exec
  have hb := B.bytes
  have hr := B.returns
  have hts := atoms_spec (ws := wsJ3_checkIndex_8e157) B.pre
  have hown : s.vm.findClass RJ3 = some m.cls := findClass_of_methodNamed B.named
  have hlocks := B.notSynchronized
  obtain ⟨A, hAe⟩ : ∃ A : Nat → Prop, A = fun _ => False := ⟨_, rfl⟩
  rw [← hAe] at hQ
  have hS : va_S A s.heap s.heap [] := va_S.rf
  have hl := lv_entry [.int (nI k), .int (nI n), .ref a] (n := 3) (Nat.le_of_ble_eq_true rfl)
  rw [lg_entry_eq]
  generalize (lg_sl [.int (nI k), .int (nI n), .ref a] ++ List.replicate (3 - (lg_sl [.int (nI k), .int (nI n), .ref a]).length) Slot.unset).toArray = ls at hl ⊢
  generalize hag : ([.int (nI k), .int (nI n), .ref a] : List Value).toArray = args at hts hQ ⊢
  have hl : lv_has ls 3 [(0, .int (nI k)), (1, .int (nI n)), (2, .ref a)] := hl
  refine lv_iload_n hx hb dJ3_checkIndex_8e157_0 rfl (lv_at hl 0 rfl) ?_
  refine lv_if_lt (tgt := 9) hx hb dJ3_checkIndex_8e157_1 (by decide) (fun c_1 => absurd c_1 (nI_pos (by omega))) (fun c_1 => ?_)
  have c_1 : ¬ k < 0 := fun q => c_1 ((nI_ltI (a := k) (b := 0) (by omega) (by omega)).mpr q)
  refine lv_iload_n hx hb dJ3_checkIndex_8e157_4 rfl (lv_at hl 0 rfl) ?_
  refine lv_iload_n hx hb dJ3_checkIndex_8e157_5 rfl (lv_at hl 1 rfl) ?_
  refine lv_icmp_lt (tgt := 16) hx hb dJ3_checkIndex_8e157_6 (by decide) (fun c_2 => ?_) (fun c_2 => absurd c_2 (not_not_intro (nI_lt hkn (by omega))))
  have c_2 : k < n := (nI_ltI (a := k) (b := n) (by omega) (by omega)).mp c_2
  refine lv_iload_n hx hb dJ3_checkIndex_8e157_16 rfl (lv_at hl 0 rfl) ?_
  rw [hQ]
  exact W.iret (v := nI k) hx hb hr (fun tQ htQ hWQ => ⟨nI k, rfl, trivial, by rw [htQ]⟩) (fun q hq => absurd hq List.not_mem_nil) dJ3_checkIndex_8e157_17

set_option maxHeartbeats 4000000 in
set_option maxRecDepth 100000 in
theorem c_chk3N (l : Launch) (dC : Nat → ClassId) (dI : Nat → Nat → Nat) (k n : Nat) (hkn : k < n) (hn7 : n < 100) : Met l yJ3_checkIndex_8e157 wsJ3_checkIndex_8e157 ({ frames := 0, cells := 0, slots := 0, locals := 0 } : Room) (va_Pc [.int (nI k), .int (nI n), .null] (fun U => True)) (vp_Si (fun r => True)) 0 0 (fun _ => False) := by
  refine met_ofQ (cc := cJ3_checkIndex_8e157) (maxL := 3) (ret := (some .int)) (by decide) rfl ?_
  intro p e s m args below meth c s₁ Q B hml hv hQ
  obtain ⟨rfl, -⟩ := hv
  have hx := B.exec
  have hb := B.bytes
  have hr := B.returns
  have hts := atoms_spec (ws := wsJ3_checkIndex_8e157) B.pre
  have hown : s.vm.findClass RJ3 = some m.cls := findClass_of_methodNamed B.named
  have hlocks := B.notSynchronized
  obtain ⟨A, hAe⟩ : ∃ A : Nat → Prop, A = fun _ => False := ⟨_, rfl⟩
  rw [← hAe] at hQ
  have hS : va_S A s.heap s.heap [] := va_S.rf
  have hl := lv_entry [.int (nI k), .int (nI n), .null] (n := 3) (Nat.le_of_ble_eq_true rfl)
  rw [lg_entry_eq]
  generalize (lg_sl [.int (nI k), .int (nI n), .null] ++ List.replicate (3 - (lg_sl [.int (nI k), .int (nI n), .null]).length) Slot.unset).toArray = ls at hl ⊢
  generalize hag : ([.int (nI k), .int (nI n), .null] : List Value).toArray = args at hts hQ ⊢
  have hl : lv_has ls 3 [(0, .int (nI k)), (1, .int (nI n)), (2, .null)] := hl
  refine lv_iload_n hx hb dJ3_checkIndex_8e157_0 rfl (lv_at hl 0 rfl) ?_
  refine lv_if_lt (tgt := 9) hx hb dJ3_checkIndex_8e157_1 (by decide) (fun c_1 => absurd c_1 (nI_pos (by omega))) (fun c_1 => ?_)
  have c_1 : ¬ k < 0 := fun q => c_1 ((nI_ltI (a := k) (b := 0) (by omega) (by omega)).mpr q)
  refine lv_iload_n hx hb dJ3_checkIndex_8e157_4 rfl (lv_at hl 0 rfl) ?_
  refine lv_iload_n hx hb dJ3_checkIndex_8e157_5 rfl (lv_at hl 1 rfl) ?_
  refine lv_icmp_lt (tgt := 16) hx hb dJ3_checkIndex_8e157_6 (by decide) (fun c_2 => ?_) (fun c_2 => absurd c_2 (not_not_intro (nI_lt hkn (by omega))))
  have c_2 : k < n := (nI_ltI (a := k) (b := n) (by omega) (by omega)).mp c_2
  refine lv_iload_n hx hb dJ3_checkIndex_8e157_16 rfl (lv_at hl 0 rfl) ?_
  rw [hQ]
  exact W.iret (v := nI k) hx hb hr (fun tQ htQ hWQ => ⟨nI k, rfl, trivial, by rw [htQ]⟩) (fun q hq => absurd hq List.not_mem_nil) dJ3_checkIndex_8e157_17

theorem kc_chk0_0 : (.fieldLink RJ0 1053 "jdk/internal/util/Preconditions" "SIOOBE_FORMATTER" "Ljava/util/function/BiFunction;" : Cond) ∈ wsJ0_checkIndex_df160 := kc_of 401 rfl rfl rfl
set_option maxHeartbeats 4000000 in
set_option maxRecDepth 100000 in
theorem c_chk0 (l : Launch) (dC : Nat → ClassId) (dI : Nat → Nat → Nat) (sK sV : Nat → Nat) (k n : Nat) (hkn : k < n) (hn7 : n < 100) : Met l yJ0_checkIndex_df160 wsJ0_checkIndex_df160 ({ frames := 1, cells := 0, slots := 0, locals := 22 } : Room) (va_Pc [.int (nI k), .int (nI n)] (fun U => Gs sK sV (fun _ => False) U)) (va_Sv (fun _ => True)) 0 0 (fun _ => False) := by
  refine met_ofQ (cc := cJ0_checkIndex_df160) (maxL := 2) (ret := none) (by decide) rfl ?_
  intro p e s m args below meth c s₁ Q B hml hv hQ
  obtain ⟨rfl, hE⟩ := hv
  have hx := B.exec
  have hb := B.bytes
  have hr := B.returns
  have hts := atoms_spec (ws := wsJ0_checkIndex_df160) B.pre
  have hown : s.vm.findClass RJ0 = some m.cls := findClass_of_methodNamed B.named
  have hlocks := B.notSynchronized
  obtain ⟨A, hAe⟩ : ∃ A : Nat → Prop, A = fun _ => False := ⟨_, rfl⟩
  rw [← hAe] at hQ hE
  have hS : va_S A s.heap s.heap [] := va_S.rf
  have hl := lv_entry [.int (nI k), .int (nI n)] (n := 2) (Nat.le_of_ble_eq_true rfl)
  rw [lg_entry_eq]
  generalize (lg_sl [.int (nI k), .int (nI n)] ++ List.replicate (2 - (lg_sl [.int (nI k), .int (nI n)]).length) Slot.unset).toArray = ls at hl ⊢
  generalize hag : ([.int (nI k), .int (nI n)] : List Value).toArray = args at hts hQ ⊢
  have hl : lv_has ls 2 [(0, .int (nI k)), (1, .int (nI n))] := hl
  refine lv_iload_n hx hb dJ0_checkIndex_df160_0 rfl (lv_at hl 0 rfl) ?_
  refine lv_iload_n hx hb dJ0_checkIndex_df160_1 rfl (lv_at hl 1 rfl) ?_
  refine va_gets (C := "jdk/internal/util/Preconditions") (n := "SIOOBE_FORMATTER") (d := "Ljava/util/function/BiFunction;") (v := va_rf (sF sV)) hx hb hE.2.2.2 hS hown (hts (.fieldLink RJ0 1053 "jdk/internal/util/Preconditions" "SIOOBE_FORMATTER" "Ljava/util/function/BiFunction;") kc_chk0_0) (fun _ h9 => h9) dJ0_checkIndex_df160_2 ?_
  by_cases h12 : sV 12 = 0
  · skip
    refine qq_as (v := .null) (by rw [sF, if_pos h12]; rfl) ?_
    refine vp_callSi (va_runS (As := [.int (nI k), .int (nI n), .null]) (rest := []) ⟨hx, hb, hml, hown, hts⟩ (c_chk3N l dC dI k n hkn hn7) (va_cwS 3 hts gJ0_checkIndex_df160_J3_checkIndex_8e157 rfl rfl rfl hd_yJ3_checkIndex_8e157.2 ⟨Nat.le_of_ble_eq_true rfl, Nat.le_of_ble_eq_true rfl⟩) ⟨fun a U g mk q => ⟨q.1, trivial⟩, fun U hU hW => ⟨rfl, trivial⟩⟩ rfl rfl hl.1 rfl (lv_room (Nat.le_of_ble_eq_true rfl)) dJ0_checkIndex_df160_5 ⟨Nat.le_of_ble_eq_true rfl, Nat.le_of_ble_eq_true rfl⟩).run (fun r_1 hw_2 => ?_)
    refine lv_pop hx hb dJ0_checkIndex_df160_8 rfl ?_
    rw [hQ]
    exact W.vret hx hb hr (fun tQ htQ hWQ => ⟨rfl, trivial, by rw [htQ]⟩) (fun q hq => absurd hq List.not_mem_nil) dJ0_checkIndex_df160_9
  · skip
    refine qq_as (v := .ref (sV 13)) (by rw [sF, if_neg h12]; rfl) ?_
    refine vp_callSi (va_runS (As := [.int (nI k), .int (nI n), .ref (sV 13)]) (rest := []) ⟨hx, hb, hml, hown, hts⟩ (c_chk3 l dC dI k n (sV 13) hkn hn7) (va_cwS 3 hts gJ0_checkIndex_df160_J3_checkIndex_8e157 rfl rfl rfl hd_yJ3_checkIndex_8e157.2 ⟨Nat.le_of_ble_eq_true rfl, Nat.le_of_ble_eq_true rfl⟩) ⟨fun a U g mk q => ⟨q.1, trivial⟩, fun U hU hW => ⟨rfl, trivial⟩⟩ rfl rfl hl.1 rfl (lv_room (Nat.le_of_ble_eq_true rfl)) dJ0_checkIndex_df160_5 ⟨Nat.le_of_ble_eq_true rfl, Nat.le_of_ble_eq_true rfl⟩).run (fun r_3 hw_4 => ?_)
    refine lv_pop hx hb dJ0_checkIndex_df160_8 rfl ?_
    rw [hQ]
    exact W.vret hx hb hr (fun tQ htQ hWQ => ⟨rfl, trivial, by rw [htQ]⟩) (fun q hq => absurd hq List.not_mem_nil) dJ0_checkIndex_df160_9

set_option maxHeartbeats 4000000 in
set_option maxRecDepth 100000 in
theorem c_char1 (l : Launch) (dC : Nat → ClassId) (dI : Nat → Nat → Nat) (sK sV : Nat → Nat) (i k : Nat) (hi12 : i < 12) (hkl : k < sLen i) : Met l yJ1_charAt_3b067 wsJ1_charAt_3b067 ({ frames := 2, cells := 0, slots := 0, locals := 43 } : Room) (va_Pc [.ref (sV i), .int (nI k)] (fun U => Gs sK sV (fun _ => False) U)) (vp_Si (fun r => r = nI ((sTx i).getD k 0))) 0 0 (fun _ => False) := by
  refine met_ofQ (cc := cJ1_charAt_3b067) (maxL := 2) (ret := (some .char)) (by decide) rfl ?_
  intro p e s m args below meth c s₁ Q B hml hv hQ
  obtain ⟨rfl, hE⟩ := hv
  have hx := B.exec
  have hb := B.bytes
  have hr := B.returns
  have hts := atoms_spec (ws := wsJ1_charAt_3b067) B.pre
  have hown : s.vm.findClass RJ1 = some m.cls := findClass_of_methodNamed B.named
  have hlocks := B.notSynchronized
  obtain ⟨A, hAe⟩ : ∃ A : Nat → Prop, A = fun _ => False := ⟨_, rfl⟩
  rw [← hAe] at hQ hE
  have hS : va_S A s.heap s.heap [] := va_S.rf
  have hl := lv_entry [.ref (sV i), .int (nI k)] (n := 2) (Nat.le_of_ble_eq_true rfl)
  rw [lg_entry_eq]
  generalize (lg_sl [.ref (sV i), .int (nI k)] ++ List.replicate (2 - (lg_sl [.ref (sV i), .int (nI k)]).length) Slot.unset).toArray = ls at hl ⊢
  generalize hag : ([.ref (sV i), .int (nI k)] : List Value).toArray = args at hts hQ ⊢
  have hl : lv_has ls 2 [(0, .ref (sV i)), (1, .int (nI k))] := hl
  have hs7 := sLen_lt hi12
  refine lv_iload_n hx hb dJ1_charAt_3b067_0 rfl (lv_at hl 1 rfl) ?_
  refine lv_aload_n hx hb dJ1_charAt_3b067_1 rfl (lv_at hl 0 rfl) ?_
  refine va_tlen (v := nI (sLen i)) hx hb (hE.2.1 i hi12).2.2.2 hS rfl dJ1_charAt_3b067_2 ?_
  refine va_csv (va_runS (As := [.int (nI k), .int (nI (sLen i))]) (rest := []) ⟨hx, hb, hml, hown, hts⟩ (c_chk0 l dC dI sK sV k (sLen i) hkl (by have := sLen_lt hi12; omega)) (va_cwS 2 hts gJ1_charAt_3b067_J0_checkIndex_df160 rfl rfl rfl hd_yJ0_checkIndex_df160.2 ⟨Nat.le_of_ble_eq_true rfl, Nat.le_of_ble_eq_true rfl⟩) ⟨fun a U g mk q => by obtain ⟨q0, qhE⟩ := q; exact ⟨q0, qhE.mv g mk a⟩, fun U hU hW => ⟨rfl, hE.callF hS hU hW⟩⟩ rfl rfl hl.1 rfl (lv_room (Nat.le_of_ble_eq_true rfl)) dJ1_charAt_3b067_3 ⟨Nat.le_of_ble_eq_true rfl, Nat.le_of_ble_eq_true rfl⟩).run (fun hw_2 => ?_)
  refine lv_aload_n hx hb dJ1_charAt_3b067_6 rfl (lv_at hl 0 rfl) ?_
  refine lv_iload_n hx hb dJ1_charAt_3b067_7 rfl (lv_at hl 1 rfl) ?_
  refine va_tb (v := .int (nI ((sTx i).getD k 0))) hx hb (hE.2.1 i hi12).2.2.2 hS (vp_in_nI (n := k) (N := sLen i) (by omega) (by have := sLen_lt hi12; omega)) (by rw [nI_clamp (by omega)]) dJ1_charAt_3b067_8 ?_
  have hch := sTx_ch hi12 (k := k) (by omega)
  refine lv_sipush (v := 255) hx hb dJ1_charAt_3b067_9 (by decide) ?_
  refine lv_iand hx hb dJ1_charAt_3b067_12 ?_
  refine lv_i2c (v := nI ((sTx i).getD k 0)) hx hb dJ1_charAt_3b067_13 (ch_sm (by omega)) ?_
  rw [hQ]
  exact W.zret (v := nI ((sTx i).getD k 0)) hx hb hr (pk_charN (by omega)).1 (fun tQ htQ hWQ => ⟨nI ((sTx i).getD k 0), rfl, rfl, by rw [htQ]⟩) (fun q hq => absurd hq List.not_mem_nil) dJ1_charAt_3b067_14

theorem kc_charAt_0 : (.fieldLink RJ0 9 "java/lang/String" "value" "[B" : Cond) ∈ wsJ0_charAt_5068e := kc_of 1576 rfl rfl rfl
set_option maxHeartbeats 4000000 in
set_option maxRecDepth 100000 in
theorem c_charAt (l : Launch) (dC : Nat → ClassId) (dI : Nat → Nat → Nat) (sK sV : Nat → Nat) (i k : Nat) (hi12 : i < 12) (hkl : k < sLen i) : Met l yJ0_charAt_5068e wsJ0_charAt_5068e ({ frames := 3, cells := 0, slots := 0, locals := 64 } : Room) (va_Pc [.ref (sK i), .int (nI k)] (fun U => Gs sK sV (fun _ => False) U)) (vp_Si (fun r => r = nI ((sTx i).getD k 0))) 0 0 (fun _ => False) := by
  refine met_ofQ (cc := cJ0_charAt_5068e) (maxL := 2) (ret := (some .char)) (by decide) rfl ?_
  intro p e s m args below meth c s₁ Q B hml hv hQ
  obtain ⟨rfl, hE⟩ := hv
  have hx := B.exec
  have hb := B.bytes
  have hr := B.returns
  have hts := atoms_spec (ws := wsJ0_charAt_5068e) B.pre
  have hown : s.vm.findClass RJ0 = some m.cls := findClass_of_methodNamed B.named
  have hlocks := B.notSynchronized
  obtain ⟨A, hAe⟩ : ∃ A : Nat → Prop, A = fun _ => False := ⟨_, rfl⟩
  rw [← hAe] at hQ hE
  have hS : va_S A s.heap s.heap [] := va_S.rf
  have hl := lv_entry [.ref (sK i), .int (nI k)] (n := 2) (Nat.le_of_ble_eq_true rfl)
  rw [lg_entry_eq]
  generalize (lg_sl [.ref (sK i), .int (nI k)] ++ List.replicate (2 - (lg_sl [.ref (sK i), .int (nI k)]).length) Slot.unset).toArray = ls at hl ⊢
  generalize hag : ([.ref (sK i), .int (nI k)] : List Value).toArray = args at hts hQ ⊢
  have hl : lv_has ls 2 [(0, .ref (sK i)), (1, .int (nI k))] := hl
  refine lv_aload_n hx hb dJ0_charAt_5068e_0 rfl (lv_at hl 0 rfl) ?_
  refine vp_callSi (va_runV (As := []) (rest := []) ⟨hx, hb, hml, hown, hts⟩ (c_latin l dC dI sK sV i hi12) (cwV 0 hts gJ0_charAt_5068e_J0_isLatin1_aae02 rfl rfl rfl hd_yJ0_isLatin1_aae02 ⟨Nat.le_of_ble_eq_true rfl, Nat.le_of_ble_eq_true rfl⟩) ⟨fun a U g mk q => by obtain ⟨q0, qhE⟩ := q; exact ⟨q0, qhE.mv g mk a⟩, va_Orecv (hE.2.1 i hi12).1 hS, fun U hU hW => ⟨rfl, hE.callF hS hU hW⟩⟩ rfl rfl hl.1 rfl (lv_room (Nat.le_of_ble_eq_true rfl)) dJ0_charAt_5068e_1 ⟨Nat.le_of_ble_eq_true rfl, Nat.le_of_ble_eq_true rfl⟩).run (fun r_1 hw_2 => ?_)
  refine qi_as (y := 1) (hw_2) ?_
  refine lv_if_eq (tgt := 16) hx hb dJ0_charAt_5068e_4 (by decide) (fun c_3 => absurd c_3 (by decide)) (fun _ => ?_)
  refine lv_aload_n hx hb dJ0_charAt_5068e_7 rfl (lv_at hl 0 rfl) ?_
  refine vk_getf (o := "java/lang/String") (n := "value") (d := "[B") (v := .ref (sV i)) hx hb (hE.2.1 i hi12).2.2.1 hS hown (hts (.fieldLink RJ0 9 "java/lang/String" "value" "[B") kc_charAt_0) (fun _ h9 => h9) dJ0_charAt_5068e_8 ?_
  refine lv_iload_n hx hb dJ0_charAt_5068e_11 rfl (lv_at hl 1 rfl) ?_
  refine vp_callSi (va_runS (As := [.ref (sV i), .int (nI k)]) (rest := []) ⟨hx, hb, hml, hown, hts⟩ (c_char1 l dC dI sK sV i k hi12 hkl) (va_cwS 2 hts gJ0_charAt_5068e_J1_charAt_3b067 rfl rfl rfl hd_yJ1_charAt_3b067.2 ⟨Nat.le_of_ble_eq_true rfl, Nat.le_of_ble_eq_true rfl⟩) ⟨fun a U g mk q => by obtain ⟨q0, qhE⟩ := q; exact ⟨q0, qhE.mv g mk a⟩, fun U hU hW => ⟨rfl, hE.callF hS hU hW⟩⟩ rfl rfl hl.1 rfl (lv_room (Nat.le_of_ble_eq_true rfl)) dJ0_charAt_5068e_12 ⟨Nat.le_of_ble_eq_true rfl, Nat.le_of_ble_eq_true rfl⟩).run (fun r_4 hw_5 => ?_)
  obtain rfl := hw_5
  have hch := sTx_ch hi12 (k := k) (by omega)
  rw [hQ]
  exact W.zret (v := nI ((sTx i).getD k 0)) hx hb hr (pk_charN (by omega)).1 (fun tQ htQ hWQ => ⟨nI ((sTx i).getD k 0), rfl, rfl, by rw [htQ]⟩) (fun q hq => absurd hq List.not_mem_nil) dJ0_charAt_5068e_15
end mg11a
section mg11a
theorem ggX12_must_X12_here : GoodIn wsX12_must wsX12_here := gga_of 1229 rfl rfl rfl
theorem gX12_must_X12_here : GoodIn wsX12_must (wsV RX12 69 RX12 yX12_here wsX12_here) := goodIn_app (ggh_of [1226, 1228, 22, 72] rfl rfl rfl) ggX12_must_X12_here
theorem ggX12_spells_J0_length_8abf5 : GoodIn wsX12_spells wsJ0_length_8abf5 := gga_of 380 rfl rfl rfl
theorem gX12_spells_J0_length_8abf5 : GoodIn wsX12_spells (wsV RX12 73 RJ0 yJ0_length_8abf5 wsJ0_length_8abf5) := goodIn_app (ggh_of [1247, 378, 379, 73] rfl rfl rfl) ggX12_spells_J0_length_8abf5
theorem ggX12_spells_J0_charAt_5068e : GoodIn wsX12_spells wsJ0_charAt_5068e := gga_of 390 rfl rfl rfl
theorem gX12_spells_J0_charAt_5068e : GoodIn wsX12_spells (wsV RX12 78 RJ0 yJ0_charAt_5068e wsJ0_charAt_5068e) := goodIn_app (ggh_of [1248, 388, 389, 73] rfl rfl rfl) ggX12_spells_J0_charAt_5068e
theorem ggX12_spells_X12_must : GoodIn wsX12_spells wsX12_must := gga_of 1237 rfl rfl rfl
theorem gX12_spells_X12_must : GoodIn wsX12_spells (wsV RX12 82 RX12 yX12_must wsX12_must) := goodIn_app (ggh_of [1234, 1236, 24, 72] rfl rfl rfl) ggX12_spells_X12_must
theorem ggX12_among_J0_length_8abf5 : GoodIn wsX12_among wsJ0_length_8abf5 := gga_of 380 rfl rfl rfl
theorem gX12_among_J0_length_8abf5 : GoodIn wsX12_among (wsV RX12 73 RJ0 yJ0_length_8abf5 wsJ0_length_8abf5) := goodIn_app (ggh_of [1247, 378, 379, 73] rfl rfl rfl) ggX12_among_J0_length_8abf5
theorem ggX12_among_X12_here : GoodIn wsX12_among wsX12_here := gga_of 1229 rfl rfl rfl
theorem gX12_among_X12_here : GoodIn wsX12_among (wsV RX12 69 RX12 yX12_here wsX12_here) := goodIn_app (ggh_of [1226, 1228, 22, 72] rfl rfl rfl) ggX12_among_X12_here
theorem ggX12_among_J0_charAt_5068e : GoodIn wsX12_among wsJ0_charAt_5068e := gga_of 390 rfl rfl rfl
theorem gX12_among_J0_charAt_5068e : GoodIn wsX12_among (wsV RX12 78 RJ0 yJ0_charAt_5068e wsJ0_charAt_5068e) := goodIn_app (ggh_of [1248, 388, 389, 73] rfl rfl rfl) ggX12_among_J0_charAt_5068e
theorem ggX12_figures_X12_here : GoodIn wsX12_figures wsX12_here := gga_of 1229 rfl rfl rfl
theorem gX12_figures_X12_here : GoodIn wsX12_figures (wsV RX12 69 RX12 yX12_here wsX12_here) := goodIn_app (ggh_of [1226, 1228, 22, 72] rfl rfl rfl) ggX12_figures_X12_here
theorem ggX12_figures_X12_in : GoodIn wsX12_figures wsX12_in := gga_of 1217 rfl rfl rfl
theorem gX12_figures_X12_in : GoodIn wsX12_figures (va_wsS RX12 45 yX12_in wsX12_in) := goodIn_app (ggh_of [1215, 1216, 72] rfl rfl rfl) ggX12_figures_X12_in
noncomputable def dk11bread1_cX12_here_0 : List (Nat × List Nat) := [(0, [42]), (1, [180, 0, 59]), (4, [42]), (5, [180, 0, 62]), (8, [162, 0, 18]), (11, [42]), (12, [180, 0, 9]), (15, [16, 91]), (17, [42]), (18, [180, 0, 59]), (21, [96]), (22, [46]), (23, [167, 0, 4]), (26, [2]), (27, [172])]
set_option maxRecDepth 100000 in
theorem dk11bread1_cX12_here_0_a : btA cX12_here dk11bread1_cX12_here_0 = true := by decide +kernel
theorem dX12_here_0 : decode cX12_here 0 = .ok (.aload_n 0, 1) := bd42 (btAt dk11bread1_cX12_here_0_a 0 rfl)
theorem dX12_here_1 : decode cX12_here 1 = .ok (.getfield 59, 3) := bd180 (a := 0) (b := 59) (btAt dk11bread1_cX12_here_0_a 1 rfl)
theorem dX12_here_4 : decode cX12_here 4 = .ok (.aload_n 0, 1) := bd42 (btAt dk11bread1_cX12_here_0_a 2 rfl)
theorem dX12_here_5 : decode cX12_here 5 = .ok (.getfield 62, 3) := bd180 (a := 0) (b := 62) (btAt dk11bread1_cX12_here_0_a 3 rfl)
theorem dX12_here_8 : decode cX12_here 8 = .ok (.if_icmp .ge 18, 3) := bd162 (a := 0) (b := 18) (btAt dk11bread1_cX12_here_0_a 4 rfl)
theorem dX12_here_11 : decode cX12_here 11 = .ok (.aload_n 0, 1) := bd42 (btAt dk11bread1_cX12_here_0_a 5 rfl)
theorem dX12_here_12 : decode cX12_here 12 = .ok (.getfield 9, 3) := bd180 (a := 0) (b := 9) (btAt dk11bread1_cX12_here_0_a 6 rfl)
theorem dX12_here_15 : decode cX12_here 15 = .ok (.bipush 91, 2) := bd16 (a := 91) (btAt dk11bread1_cX12_here_0_a 7 rfl)
theorem dX12_here_17 : decode cX12_here 17 = .ok (.aload_n 0, 1) := bd42 (btAt dk11bread1_cX12_here_0_a 8 rfl)
theorem dX12_here_18 : decode cX12_here 18 = .ok (.getfield 59, 3) := bd180 (a := 0) (b := 59) (btAt dk11bread1_cX12_here_0_a 9 rfl)
theorem dX12_here_21 : decode cX12_here 21 = .ok (.iadd, 1) := bd96 (btAt dk11bread1_cX12_here_0_a 10 rfl)
theorem dX12_here_22 : decode cX12_here 22 = .ok (.iaload, 1) := bd46 (btAt dk11bread1_cX12_here_0_a 11 rfl)
theorem dX12_here_23 : decode cX12_here 23 = .ok (.goto 4, 3) := bd167 (a := 0) (b := 4) (btAt dk11bread1_cX12_here_0_a 12 rfl)
theorem dX12_here_26 : decode cX12_here 26 = .ok (.iconst (-1), 1) := bd2 (btAt dk11bread1_cX12_here_0_a 13 rfl)
theorem dX12_here_27 : decode cX12_here 27 = .ok (.ireturn, 1) := bd172 (btAt dk11bread1_cX12_here_0_a 14 rfl)
noncomputable def dk11bread1_cX12_must_0 : List (Nat × List Nat) := [(0, [42]), (1, [42]), (2, [180, 0, 65]), (5, [154, 0, 11]), (8, [42]), (9, [182, 0, 69]), (12, [27]), (13, [159, 0, 7]), (16, [4]), (17, [167, 0, 4]), (20, [3]), (21, [181, 0, 65]), (24, [42]), (25, [89]), (26, [180, 0, 59]), (29, [42]), (30, [180, 0, 65]), (33, [153, 0, 7]), (36, [3]), (37, [167, 0, 4]), (40, [4]), (41, [96]), (42, [181, 0, 59]), (45, [177])]
set_option maxRecDepth 100000 in
theorem dk11bread1_cX12_must_0_a : btA cX12_must dk11bread1_cX12_must_0 = true := by decide +kernel
theorem dX12_must_0 : decode cX12_must 0 = .ok (.aload_n 0, 1) := bd42 (btAt dk11bread1_cX12_must_0_a 0 rfl)
theorem dX12_must_1 : decode cX12_must 1 = .ok (.aload_n 0, 1) := bd42 (btAt dk11bread1_cX12_must_0_a 1 rfl)
theorem dX12_must_2 : decode cX12_must 2 = .ok (.getfield 65, 3) := bd180 (a := 0) (b := 65) (btAt dk11bread1_cX12_must_0_a 2 rfl)
theorem dX12_must_5 : decode cX12_must 5 = .ok (.ifCond .ne 11, 3) := bd154 (a := 0) (b := 11) (btAt dk11bread1_cX12_must_0_a 3 rfl)
theorem dX12_must_8 : decode cX12_must 8 = .ok (.aload_n 0, 1) := bd42 (btAt dk11bread1_cX12_must_0_a 4 rfl)
theorem dX12_must_9 : decode cX12_must 9 = .ok (.invokevirtual 69, 3) := bd182 (a := 0) (b := 69) (btAt dk11bread1_cX12_must_0_a 5 rfl)
theorem dX12_must_12 : decode cX12_must 12 = .ok (.iload_n 1, 1) := bd27 (btAt dk11bread1_cX12_must_0_a 6 rfl)
theorem dX12_must_13 : decode cX12_must 13 = .ok (.if_icmp .eq 7, 3) := bd159 (a := 0) (b := 7) (btAt dk11bread1_cX12_must_0_a 7 rfl)
theorem dX12_must_16 : decode cX12_must 16 = .ok (.iconst 1, 1) := bd4 (btAt dk11bread1_cX12_must_0_a 8 rfl)
theorem dX12_must_17 : decode cX12_must 17 = .ok (.goto 4, 3) := bd167 (a := 0) (b := 4) (btAt dk11bread1_cX12_must_0_a 9 rfl)
theorem dX12_must_20 : decode cX12_must 20 = .ok (.iconst 0, 1) := bd3 (btAt dk11bread1_cX12_must_0_a 10 rfl)
theorem dX12_must_21 : decode cX12_must 21 = .ok (.putfield 65, 3) := bd181 (a := 0) (b := 65) (btAt dk11bread1_cX12_must_0_a 11 rfl)
theorem dX12_must_24 : decode cX12_must 24 = .ok (.aload_n 0, 1) := bd42 (btAt dk11bread1_cX12_must_0_a 12 rfl)
theorem dX12_must_25 : decode cX12_must 25 = .ok (.dup, 1) := bd89 (btAt dk11bread1_cX12_must_0_a 13 rfl)
theorem dX12_must_26 : decode cX12_must 26 = .ok (.getfield 59, 3) := bd180 (a := 0) (b := 59) (btAt dk11bread1_cX12_must_0_a 14 rfl)
theorem dX12_must_29 : decode cX12_must 29 = .ok (.aload_n 0, 1) := bd42 (btAt dk11bread1_cX12_must_0_a 15 rfl)
theorem dX12_must_30 : decode cX12_must 30 = .ok (.getfield 65, 3) := bd180 (a := 0) (b := 65) (btAt dk11bread1_cX12_must_0_a 16 rfl)
theorem dX12_must_33 : decode cX12_must 33 = .ok (.ifCond .eq 7, 3) := bd153 (a := 0) (b := 7) (btAt dk11bread1_cX12_must_0_a 17 rfl)
theorem dX12_must_36 : decode cX12_must 36 = .ok (.iconst 0, 1) := bd3 (btAt dk11bread1_cX12_must_0_a 18 rfl)
theorem dX12_must_37 : decode cX12_must 37 = .ok (.goto 4, 3) := bd167 (a := 0) (b := 4) (btAt dk11bread1_cX12_must_0_a 19 rfl)
theorem dX12_must_40 : decode cX12_must 40 = .ok (.iconst 1, 1) := bd4 (btAt dk11bread1_cX12_must_0_a 20 rfl)
theorem dX12_must_41 : decode cX12_must 41 = .ok (.iadd, 1) := bd96 (btAt dk11bread1_cX12_must_0_a 21 rfl)
theorem dX12_must_42 : decode cX12_must 42 = .ok (.putfield 59, 3) := bd181 (a := 0) (b := 59) (btAt dk11bread1_cX12_must_0_a 22 rfl)
theorem dX12_must_45 : decode cX12_must 45 = .ok (.return_, 1) := bd177 (btAt dk11bread1_cX12_must_0_a 23 rfl)
noncomputable def dk11bread1_cX12_emits_0 : List (Nat × List Nat) := [(0, [42]), (1, [180, 0, 65]), (4, [154, 0, 52]), (7, [42]), (8, [180, 0, 9]), (11, [17, 0, 201]), (14, [17, 0, 140]), (17, [42]), (18, [180, 0, 86]), (21, [104]), (22, [96]), (23, [42]), (24, [180, 0, 9]), (27, [17, 0, 196]), (30, [42]), (31, [180, 0, 86]), (34, [96]), (35, [46]), (36, [96]), (37, [27]), (38, [79]), (39, [42]), (40, [180, 0, 9]), (43, [17, 0, 196]), (46, [42]), (47, [180, 0, 86]), (50, [96]), (51, [92]), (52, [46]), (53, [4]), (54, [96]), (55, [79]), (56, [177])]
set_option maxRecDepth 100000 in
theorem dk11bread1_cX12_emits_0_a : btA cX12_emits dk11bread1_cX12_emits_0 = true := by decide +kernel
theorem dX12_emits_0 : decode cX12_emits 0 = .ok (.aload_n 0, 1) := bd42 (btAt dk11bread1_cX12_emits_0_a 0 rfl)
theorem dX12_emits_1 : decode cX12_emits 1 = .ok (.getfield 65, 3) := bd180 (a := 0) (b := 65) (btAt dk11bread1_cX12_emits_0_a 1 rfl)
theorem dX12_emits_4 : decode cX12_emits 4 = .ok (.ifCond .ne 52, 3) := bd154 (a := 0) (b := 52) (btAt dk11bread1_cX12_emits_0_a 2 rfl)
theorem dX12_emits_7 : decode cX12_emits 7 = .ok (.aload_n 0, 1) := bd42 (btAt dk11bread1_cX12_emits_0_a 3 rfl)
theorem dX12_emits_8 : decode cX12_emits 8 = .ok (.getfield 9, 3) := bd180 (a := 0) (b := 9) (btAt dk11bread1_cX12_emits_0_a 4 rfl)
theorem dX12_emits_11 : decode cX12_emits 11 = .ok (.sipush 201, 3) := bd17 (a := 0) (b := 201) (btAt dk11bread1_cX12_emits_0_a 5 rfl)
theorem dX12_emits_14 : decode cX12_emits 14 = .ok (.sipush 140, 3) := bd17 (a := 0) (b := 140) (btAt dk11bread1_cX12_emits_0_a 6 rfl)
theorem dX12_emits_17 : decode cX12_emits 17 = .ok (.aload_n 0, 1) := bd42 (btAt dk11bread1_cX12_emits_0_a 7 rfl)
theorem dX12_emits_18 : decode cX12_emits 18 = .ok (.getfield 86, 3) := bd180 (a := 0) (b := 86) (btAt dk11bread1_cX12_emits_0_a 8 rfl)
theorem dX12_emits_21 : decode cX12_emits 21 = .ok (.imul, 1) := bd104 (btAt dk11bread1_cX12_emits_0_a 9 rfl)
theorem dX12_emits_22 : decode cX12_emits 22 = .ok (.iadd, 1) := bd96 (btAt dk11bread1_cX12_emits_0_a 10 rfl)
theorem dX12_emits_23 : decode cX12_emits 23 = .ok (.aload_n 0, 1) := bd42 (btAt dk11bread1_cX12_emits_0_a 11 rfl)
theorem dX12_emits_24 : decode cX12_emits 24 = .ok (.getfield 9, 3) := bd180 (a := 0) (b := 9) (btAt dk11bread1_cX12_emits_0_a 12 rfl)
theorem dX12_emits_27 : decode cX12_emits 27 = .ok (.sipush 196, 3) := bd17 (a := 0) (b := 196) (btAt dk11bread1_cX12_emits_0_a 13 rfl)
theorem dX12_emits_30 : decode cX12_emits 30 = .ok (.aload_n 0, 1) := bd42 (btAt dk11bread1_cX12_emits_0_a 14 rfl)
theorem dX12_emits_31 : decode cX12_emits 31 = .ok (.getfield 86, 3) := bd180 (a := 0) (b := 86) (btAt dk11bread1_cX12_emits_0_a 15 rfl)
theorem dX12_emits_34 : decode cX12_emits 34 = .ok (.iadd, 1) := bd96 (btAt dk11bread1_cX12_emits_0_a 16 rfl)
theorem dX12_emits_35 : decode cX12_emits 35 = .ok (.iaload, 1) := bd46 (btAt dk11bread1_cX12_emits_0_a 17 rfl)
theorem dX12_emits_36 : decode cX12_emits 36 = .ok (.iadd, 1) := bd96 (btAt dk11bread1_cX12_emits_0_a 18 rfl)
theorem dX12_emits_37 : decode cX12_emits 37 = .ok (.iload_n 1, 1) := bd27 (btAt dk11bread1_cX12_emits_0_a 19 rfl)
theorem dX12_emits_38 : decode cX12_emits 38 = .ok (.iastore, 1) := bd79 (btAt dk11bread1_cX12_emits_0_a 20 rfl)
theorem dX12_emits_39 : decode cX12_emits 39 = .ok (.aload_n 0, 1) := bd42 (btAt dk11bread1_cX12_emits_0_a 21 rfl)
theorem dX12_emits_40 : decode cX12_emits 40 = .ok (.getfield 9, 3) := bd180 (a := 0) (b := 9) (btAt dk11bread1_cX12_emits_0_a 22 rfl)
theorem dX12_emits_43 : decode cX12_emits 43 = .ok (.sipush 196, 3) := bd17 (a := 0) (b := 196) (btAt dk11bread1_cX12_emits_0_a 23 rfl)
theorem dX12_emits_46 : decode cX12_emits 46 = .ok (.aload_n 0, 1) := bd42 (btAt dk11bread1_cX12_emits_0_a 24 rfl)
theorem dX12_emits_47 : decode cX12_emits 47 = .ok (.getfield 86, 3) := bd180 (a := 0) (b := 86) (btAt dk11bread1_cX12_emits_0_a 25 rfl)
theorem dX12_emits_50 : decode cX12_emits 50 = .ok (.iadd, 1) := bd96 (btAt dk11bread1_cX12_emits_0_a 26 rfl)
theorem dX12_emits_51 : decode cX12_emits 51 = .ok (.dup2, 1) := bd92 (btAt dk11bread1_cX12_emits_0_a 27 rfl)
theorem dX12_emits_52 : decode cX12_emits 52 = .ok (.iaload, 1) := bd46 (btAt dk11bread1_cX12_emits_0_a 28 rfl)
theorem dX12_emits_53 : decode cX12_emits 53 = .ok (.iconst 1, 1) := bd4 (btAt dk11bread1_cX12_emits_0_a 29 rfl)
theorem dX12_emits_54 : decode cX12_emits 54 = .ok (.iadd, 1) := bd96 (btAt dk11bread1_cX12_emits_0_a 30 rfl)
theorem dX12_emits_55 : decode cX12_emits 55 = .ok (.iastore, 1) := bd79 (btAt dk11bread1_cX12_emits_0_a 31 rfl)
theorem dX12_emits_56 : decode cX12_emits 56 = .ok (.return_, 1) := bd177 (btAt dk11bread1_cX12_emits_0_a 32 rfl)
noncomputable def dk11bread1_cX12_spells_0 : List (Nat × List Nat) := [(0, [3]), (1, [61]), (2, [28]), (3, [43]), (4, [182, 0, 73]), (7, [162, 0, 18]), (10, [42]), (11, [43]), (12, [28]), (13, [182, 0, 78]), (16, [182, 0, 82]), (19, [132, 2, 1]), (22, [167, 255, 236]), (25, [177])]
set_option maxRecDepth 100000 in
theorem dk11bread1_cX12_spells_0_a : btA cX12_spells dk11bread1_cX12_spells_0 = true := by decide +kernel
theorem dX12_spells_0 : decode cX12_spells 0 = .ok (.iconst 0, 1) := bd3 (btAt dk11bread1_cX12_spells_0_a 0 rfl)
theorem dX12_spells_1 : decode cX12_spells 1 = .ok (.istore_n 2, 1) := bd61 (btAt dk11bread1_cX12_spells_0_a 1 rfl)
theorem dX12_spells_2 : decode cX12_spells 2 = .ok (.iload_n 2, 1) := bd28 (btAt dk11bread1_cX12_spells_0_a 2 rfl)
theorem dX12_spells_3 : decode cX12_spells 3 = .ok (.aload_n 1, 1) := bd43 (btAt dk11bread1_cX12_spells_0_a 3 rfl)
theorem dX12_spells_4 : decode cX12_spells 4 = .ok (.invokevirtual 73, 3) := bd182 (a := 0) (b := 73) (btAt dk11bread1_cX12_spells_0_a 4 rfl)
theorem dX12_spells_7 : decode cX12_spells 7 = .ok (.if_icmp .ge 18, 3) := bd162 (a := 0) (b := 18) (btAt dk11bread1_cX12_spells_0_a 5 rfl)
theorem dX12_spells_10 : decode cX12_spells 10 = .ok (.aload_n 0, 1) := bd42 (btAt dk11bread1_cX12_spells_0_a 6 rfl)
theorem dX12_spells_11 : decode cX12_spells 11 = .ok (.aload_n 1, 1) := bd43 (btAt dk11bread1_cX12_spells_0_a 7 rfl)
theorem dX12_spells_12 : decode cX12_spells 12 = .ok (.iload_n 2, 1) := bd28 (btAt dk11bread1_cX12_spells_0_a 8 rfl)
theorem dX12_spells_13 : decode cX12_spells 13 = .ok (.invokevirtual 78, 3) := bd182 (a := 0) (b := 78) (btAt dk11bread1_cX12_spells_0_a 9 rfl)
theorem dX12_spells_16 : decode cX12_spells 16 = .ok (.invokevirtual 82, 3) := bd182 (a := 0) (b := 82) (btAt dk11bread1_cX12_spells_0_a 10 rfl)
theorem dX12_spells_19 : decode cX12_spells 19 = .ok (.iinc 2 1, 3) := bd132 (a := 2) (b := 1) (btAt dk11bread1_cX12_spells_0_a 11 rfl)
theorem dX12_spells_22 : decode cX12_spells 22 = .ok (.goto (-20), 3) := bd167 (a := 255) (b := 236) (btAt dk11bread1_cX12_spells_0_a 12 rfl)
theorem dX12_spells_25 : decode cX12_spells 25 = .ok (.return_, 1) := bd177 (btAt dk11bread1_cX12_spells_0_a 13 rfl)
noncomputable def dk11bread1_cX12_among_0 : List (Nat × List Nat) := [(0, [3]), (1, [61]), (2, [28]), (3, [43]), (4, [182, 0, 73]), (7, [162, 0, 33]), (10, [42]), (11, [182, 0, 69]), (14, [43]), (15, [28]), (16, [182, 0, 78]), (19, [160, 0, 15]), (22, [42]), (23, [89]), (24, [180, 0, 59]), (27, [4]), (28, [96]), (29, [181, 0, 59]), (32, [28]), (33, [172]), (34, [132, 2, 1]), (37, [167, 255, 221]), (40, [2]), (41, [172])]
set_option maxRecDepth 100000 in
theorem dk11bread1_cX12_among_0_a : btA cX12_among dk11bread1_cX12_among_0 = true := by decide +kernel
theorem dX12_among_0 : decode cX12_among 0 = .ok (.iconst 0, 1) := bd3 (btAt dk11bread1_cX12_among_0_a 0 rfl)
theorem dX12_among_1 : decode cX12_among 1 = .ok (.istore_n 2, 1) := bd61 (btAt dk11bread1_cX12_among_0_a 1 rfl)
theorem dX12_among_2 : decode cX12_among 2 = .ok (.iload_n 2, 1) := bd28 (btAt dk11bread1_cX12_among_0_a 2 rfl)
theorem dX12_among_3 : decode cX12_among 3 = .ok (.aload_n 1, 1) := bd43 (btAt dk11bread1_cX12_among_0_a 3 rfl)
theorem dX12_among_4 : decode cX12_among 4 = .ok (.invokevirtual 73, 3) := bd182 (a := 0) (b := 73) (btAt dk11bread1_cX12_among_0_a 4 rfl)
theorem dX12_among_7 : decode cX12_among 7 = .ok (.if_icmp .ge 33, 3) := bd162 (a := 0) (b := 33) (btAt dk11bread1_cX12_among_0_a 5 rfl)
theorem dX12_among_10 : decode cX12_among 10 = .ok (.aload_n 0, 1) := bd42 (btAt dk11bread1_cX12_among_0_a 6 rfl)
theorem dX12_among_11 : decode cX12_among 11 = .ok (.invokevirtual 69, 3) := bd182 (a := 0) (b := 69) (btAt dk11bread1_cX12_among_0_a 7 rfl)
theorem dX12_among_14 : decode cX12_among 14 = .ok (.aload_n 1, 1) := bd43 (btAt dk11bread1_cX12_among_0_a 8 rfl)
theorem dX12_among_15 : decode cX12_among 15 = .ok (.iload_n 2, 1) := bd28 (btAt dk11bread1_cX12_among_0_a 9 rfl)
theorem dX12_among_16 : decode cX12_among 16 = .ok (.invokevirtual 78, 3) := bd182 (a := 0) (b := 78) (btAt dk11bread1_cX12_among_0_a 10 rfl)
theorem dX12_among_19 : decode cX12_among 19 = .ok (.if_icmp .ne 15, 3) := bd160 (a := 0) (b := 15) (btAt dk11bread1_cX12_among_0_a 11 rfl)
theorem dX12_among_22 : decode cX12_among 22 = .ok (.aload_n 0, 1) := bd42 (btAt dk11bread1_cX12_among_0_a 12 rfl)
theorem dX12_among_23 : decode cX12_among 23 = .ok (.dup, 1) := bd89 (btAt dk11bread1_cX12_among_0_a 13 rfl)
theorem dX12_among_24 : decode cX12_among 24 = .ok (.getfield 59, 3) := bd180 (a := 0) (b := 59) (btAt dk11bread1_cX12_among_0_a 14 rfl)
theorem dX12_among_27 : decode cX12_among 27 = .ok (.iconst 1, 1) := bd4 (btAt dk11bread1_cX12_among_0_a 15 rfl)
theorem dX12_among_28 : decode cX12_among 28 = .ok (.iadd, 1) := bd96 (btAt dk11bread1_cX12_among_0_a 16 rfl)
theorem dX12_among_29 : decode cX12_among 29 = .ok (.putfield 59, 3) := bd181 (a := 0) (b := 59) (btAt dk11bread1_cX12_among_0_a 17 rfl)
theorem dX12_among_32 : decode cX12_among 32 = .ok (.iload_n 2, 1) := bd28 (btAt dk11bread1_cX12_among_0_a 18 rfl)
theorem dX12_among_33 : decode cX12_among 33 = .ok (.ireturn, 1) := bd172 (btAt dk11bread1_cX12_among_0_a 19 rfl)
theorem dX12_among_34 : decode cX12_among 34 = .ok (.iinc 2 1, 3) := bd132 (a := 2) (b := 1) (btAt dk11bread1_cX12_among_0_a 20 rfl)
theorem dX12_among_37 : decode cX12_among 37 = .ok (.goto (-35), 3) := bd167 (a := 255) (b := 221) (btAt dk11bread1_cX12_among_0_a 21 rfl)
theorem dX12_among_40 : decode cX12_among 40 = .ok (.iconst (-1), 1) := bd2 (btAt dk11bread1_cX12_among_0_a 22 rfl)
theorem dX12_among_41 : decode cX12_among 41 = .ok (.ireturn, 1) := bd172 (btAt dk11bread1_cX12_among_0_a 23 rfl)
noncomputable def dk11bread1_cX12_figures_0 : List (Nat × List Nat) := [(0, [42]), (1, [42]), (2, [180, 0, 65]), (5, [154, 0, 17]), (8, [42]), (9, [182, 0, 69]), (12, [16, 48]), (14, [16, 57]), (16, [184, 0, 45]), (19, [154, 0, 7]), (22, [4]), (23, [167, 0, 4]), (26, [3]), (27, [181, 0, 65]), (30, [3]), (31, [60]), (32, [3]), (33, [61]), (34, [28]), (35, [5]), (36, [162, 0, 61]), (39, [42]), (40, [180, 0, 65]), (43, [154, 0, 54]), (46, [42]), (47, [182, 0, 69]), (50, [16, 48]), (52, [16, 57]), (54, [184, 0, 45]), (57, [153, 0, 40]), (60, [28]), (61, [153, 0, 7]), (68, [16, 10]), (70, [27]), (71, [104]), (72, [42]), (73, [182, 0, 69]), (76, [96]), (97, [27]), (98, [172])]
set_option maxRecDepth 100000 in
theorem dk11bread1_cX12_figures_0_a : btA cX12_figures dk11bread1_cX12_figures_0 = true := by decide +kernel
theorem dX12_figures_0 : decode cX12_figures 0 = .ok (.aload_n 0, 1) := bd42 (btAt dk11bread1_cX12_figures_0_a 0 rfl)
theorem dX12_figures_1 : decode cX12_figures 1 = .ok (.aload_n 0, 1) := bd42 (btAt dk11bread1_cX12_figures_0_a 1 rfl)
theorem dX12_figures_2 : decode cX12_figures 2 = .ok (.getfield 65, 3) := bd180 (a := 0) (b := 65) (btAt dk11bread1_cX12_figures_0_a 2 rfl)
theorem dX12_figures_5 : decode cX12_figures 5 = .ok (.ifCond .ne 17, 3) := bd154 (a := 0) (b := 17) (btAt dk11bread1_cX12_figures_0_a 3 rfl)
theorem dX12_figures_8 : decode cX12_figures 8 = .ok (.aload_n 0, 1) := bd42 (btAt dk11bread1_cX12_figures_0_a 4 rfl)
theorem dX12_figures_9 : decode cX12_figures 9 = .ok (.invokevirtual 69, 3) := bd182 (a := 0) (b := 69) (btAt dk11bread1_cX12_figures_0_a 5 rfl)
theorem dX12_figures_12 : decode cX12_figures 12 = .ok (.bipush 48, 2) := bd16 (a := 48) (btAt dk11bread1_cX12_figures_0_a 6 rfl)
theorem dX12_figures_14 : decode cX12_figures 14 = .ok (.bipush 57, 2) := bd16 (a := 57) (btAt dk11bread1_cX12_figures_0_a 7 rfl)
theorem dX12_figures_16 : decode cX12_figures 16 = .ok (.invokestatic 45, 3) := bd184 (a := 0) (b := 45) (btAt dk11bread1_cX12_figures_0_a 8 rfl)
theorem dX12_figures_19 : decode cX12_figures 19 = .ok (.ifCond .ne 7, 3) := bd154 (a := 0) (b := 7) (btAt dk11bread1_cX12_figures_0_a 9 rfl)
theorem dX12_figures_22 : decode cX12_figures 22 = .ok (.iconst 1, 1) := bd4 (btAt dk11bread1_cX12_figures_0_a 10 rfl)
theorem dX12_figures_23 : decode cX12_figures 23 = .ok (.goto 4, 3) := bd167 (a := 0) (b := 4) (btAt dk11bread1_cX12_figures_0_a 11 rfl)
theorem dX12_figures_26 : decode cX12_figures 26 = .ok (.iconst 0, 1) := bd3 (btAt dk11bread1_cX12_figures_0_a 12 rfl)
theorem dX12_figures_27 : decode cX12_figures 27 = .ok (.putfield 65, 3) := bd181 (a := 0) (b := 65) (btAt dk11bread1_cX12_figures_0_a 13 rfl)
theorem dX12_figures_30 : decode cX12_figures 30 = .ok (.iconst 0, 1) := bd3 (btAt dk11bread1_cX12_figures_0_a 14 rfl)
theorem dX12_figures_31 : decode cX12_figures 31 = .ok (.istore_n 1, 1) := bd60 (btAt dk11bread1_cX12_figures_0_a 15 rfl)
theorem dX12_figures_32 : decode cX12_figures 32 = .ok (.iconst 0, 1) := bd3 (btAt dk11bread1_cX12_figures_0_a 16 rfl)
theorem dX12_figures_33 : decode cX12_figures 33 = .ok (.istore_n 2, 1) := bd61 (btAt dk11bread1_cX12_figures_0_a 17 rfl)
theorem dX12_figures_34 : decode cX12_figures 34 = .ok (.iload_n 2, 1) := bd28 (btAt dk11bread1_cX12_figures_0_a 18 rfl)
theorem dX12_figures_35 : decode cX12_figures 35 = .ok (.iconst 2, 1) := bd5 (btAt dk11bread1_cX12_figures_0_a 19 rfl)
theorem dX12_figures_36 : decode cX12_figures 36 = .ok (.if_icmp .ge 61, 3) := bd162 (a := 0) (b := 61) (btAt dk11bread1_cX12_figures_0_a 20 rfl)
theorem dX12_figures_39 : decode cX12_figures 39 = .ok (.aload_n 0, 1) := bd42 (btAt dk11bread1_cX12_figures_0_a 21 rfl)
theorem dX12_figures_40 : decode cX12_figures 40 = .ok (.getfield 65, 3) := bd180 (a := 0) (b := 65) (btAt dk11bread1_cX12_figures_0_a 22 rfl)
theorem dX12_figures_43 : decode cX12_figures 43 = .ok (.ifCond .ne 54, 3) := bd154 (a := 0) (b := 54) (btAt dk11bread1_cX12_figures_0_a 23 rfl)
theorem dX12_figures_46 : decode cX12_figures 46 = .ok (.aload_n 0, 1) := bd42 (btAt dk11bread1_cX12_figures_0_a 24 rfl)
theorem dX12_figures_47 : decode cX12_figures 47 = .ok (.invokevirtual 69, 3) := bd182 (a := 0) (b := 69) (btAt dk11bread1_cX12_figures_0_a 25 rfl)
theorem dX12_figures_50 : decode cX12_figures 50 = .ok (.bipush 48, 2) := bd16 (a := 48) (btAt dk11bread1_cX12_figures_0_a 26 rfl)
theorem dX12_figures_52 : decode cX12_figures 52 = .ok (.bipush 57, 2) := bd16 (a := 57) (btAt dk11bread1_cX12_figures_0_a 27 rfl)
theorem dX12_figures_54 : decode cX12_figures 54 = .ok (.invokestatic 45, 3) := bd184 (a := 0) (b := 45) (btAt dk11bread1_cX12_figures_0_a 28 rfl)
theorem dX12_figures_57 : decode cX12_figures 57 = .ok (.ifCond .eq 40, 3) := bd153 (a := 0) (b := 40) (btAt dk11bread1_cX12_figures_0_a 29 rfl)
theorem dX12_figures_60 : decode cX12_figures 60 = .ok (.iload_n 2, 1) := bd28 (btAt dk11bread1_cX12_figures_0_a 30 rfl)
theorem dX12_figures_61 : decode cX12_figures 61 = .ok (.ifCond .eq 7, 3) := bd153 (a := 0) (b := 7) (btAt dk11bread1_cX12_figures_0_a 31 rfl)
theorem dX12_figures_68 : decode cX12_figures 68 = .ok (.bipush 10, 2) := bd16 (a := 10) (btAt dk11bread1_cX12_figures_0_a 32 rfl)
theorem dX12_figures_70 : decode cX12_figures 70 = .ok (.iload_n 1, 1) := bd27 (btAt dk11bread1_cX12_figures_0_a 33 rfl)
theorem dX12_figures_71 : decode cX12_figures 71 = .ok (.imul, 1) := bd104 (btAt dk11bread1_cX12_figures_0_a 34 rfl)
theorem dX12_figures_72 : decode cX12_figures 72 = .ok (.aload_n 0, 1) := bd42 (btAt dk11bread1_cX12_figures_0_a 35 rfl)
theorem dX12_figures_73 : decode cX12_figures 73 = .ok (.invokevirtual 69, 3) := bd182 (a := 0) (b := 69) (btAt dk11bread1_cX12_figures_0_a 36 rfl)
theorem dX12_figures_76 : decode cX12_figures 76 = .ok (.iadd, 1) := bd96 (btAt dk11bread1_cX12_figures_0_a 37 rfl)
theorem dX12_figures_97 : decode cX12_figures 97 = .ok (.iload_n 1, 1) := bd27 (btAt dk11bread1_cX12_figures_0_a 38 rfl)
theorem dX12_figures_98 : decode cX12_figures 98 = .ok (.ireturn, 1) := bd172 (btAt dk11bread1_cX12_figures_0_a 39 rfl)
noncomputable def dk11bread1_cX12_figures_40 : List (Nat × List Nat) := [(64, [27]), (65, [158, 0, 32]), (77, [16, 48]), (79, [100]), (80, [60]), (81, [42]), (82, [89]), (83, [180, 0, 59]), (86, [4]), (87, [96]), (88, [181, 0, 59]), (91, [132, 2, 1]), (94, [167, 255, 196])]
set_option maxRecDepth 100000 in
theorem dk11bread1_cX12_figures_40_a : btA cX12_figures dk11bread1_cX12_figures_40 = true := by decide +kernel
theorem dX12_figures_64 : decode cX12_figures 64 = .ok (.iload_n 1, 1) := bd27 (btAt dk11bread1_cX12_figures_40_a 0 rfl)
theorem dX12_figures_65 : decode cX12_figures 65 = .ok (.ifCond .le 32, 3) := bd158 (a := 0) (b := 32) (btAt dk11bread1_cX12_figures_40_a 1 rfl)
theorem dX12_figures_77 : decode cX12_figures 77 = .ok (.bipush 48, 2) := bd16 (a := 48) (btAt dk11bread1_cX12_figures_40_a 2 rfl)
theorem dX12_figures_79 : decode cX12_figures 79 = .ok (.isub, 1) := bd100 (btAt dk11bread1_cX12_figures_40_a 3 rfl)
theorem dX12_figures_80 : decode cX12_figures 80 = .ok (.istore_n 1, 1) := bd60 (btAt dk11bread1_cX12_figures_40_a 4 rfl)
theorem dX12_figures_81 : decode cX12_figures 81 = .ok (.aload_n 0, 1) := bd42 (btAt dk11bread1_cX12_figures_40_a 5 rfl)
theorem dX12_figures_82 : decode cX12_figures 82 = .ok (.dup, 1) := bd89 (btAt dk11bread1_cX12_figures_40_a 6 rfl)
theorem dX12_figures_83 : decode cX12_figures 83 = .ok (.getfield 59, 3) := bd180 (a := 0) (b := 59) (btAt dk11bread1_cX12_figures_40_a 7 rfl)
theorem dX12_figures_86 : decode cX12_figures 86 = .ok (.iconst 1, 1) := bd4 (btAt dk11bread1_cX12_figures_40_a 8 rfl)
theorem dX12_figures_87 : decode cX12_figures 87 = .ok (.iadd, 1) := bd96 (btAt dk11bread1_cX12_figures_40_a 9 rfl)
theorem dX12_figures_88 : decode cX12_figures 88 = .ok (.putfield 59, 3) := bd181 (a := 0) (b := 59) (btAt dk11bread1_cX12_figures_40_a 10 rfl)
theorem dX12_figures_91 : decode cX12_figures 91 = .ok (.iinc 2 1, 3) := bd132 (a := 2) (b := 1) (btAt dk11bread1_cX12_figures_40_a 11 rfl)
theorem dX12_figures_94 : decode cX12_figures 94 = .ok (.goto (-60), 3) := bd167 (a := 255) (b := 196) (btAt dk11bread1_cX12_figures_40_a 12 rfl)
noncomputable def hv (f : Nat → Int32) (p E : Nat) : Int32 := if p < E then f (91 + p) else -1
theorem hv_lt {f : Nat → Int32} {p E : Nat} (h : ¬ hv f p E = -1) : p < E := by
  rcases Nat.lt_or_ge p E with q | q
  · exact q
  · exact absurd (if_neg (Nat.not_lt.mpr q)) h
/-- the codes so far, of depth d -/
noncomputable def PI (f : Nat → Int32) (a : Nat) (K : List Nat) (d p E : Nat) : Prop := a < 5 ∧ p ≤ E ∧ E ≤ 100 ∧ f (196 + a) = nI K.length ∧ K.length ≤ p ∧ 3 * d ≤ p ∧ sdep (fun i => f (201 + 140 * a + i)) K.length = some d ∧ ∀ i, i < K.length → f (201 + 140 * a + i) = rcd (K.getD i 0)
noncomputable def PF (a : Nat) (f g : Nat → Int32) : Prop := ∀ i, i ≠ 196 + a → ¬ (201 + 140 * a ≤ i ∧ i < 201 + 140 * a + 140) → g i = f i
theorem PF.rf {a : Nat} {f : Nat → Int32} : PF a f f := fun _ _ _ => rfl
theorem PF.tr {a : Nat} {f g h : Nat → Int32} (h1 : PF a f g) (h2 : PF a g h) : PF a f h := fun i a2 a3 => (h2 i a2 a3).trans (h1 i a2 a3)
noncomputable def PQ (a : Nat) (f g : Nat → Int32) : Prop := ∀ i, i ≠ 191 + a → i ≠ 196 + a → ¬ (201 + 140 * a ≤ i ∧ i < 201 + 140 * a + 140) → g i = f i
theorem PQ.rf {a : Nat} {f : Nat → Int32} : PQ a f f := fun _ _ _ _ => rfl
theorem PQ.tr {a : Nat} {f g h : Nat → Int32} (h1 : PQ a f g) (h2 : PQ a g h) : PQ a f h := fun i a1 a2 a3 => (h2 i a1 a2 a3).trans (h1 i a1 a2 a3)
theorem PF.q {a : Nat} {f g : Nat → Int32} (h : PF a f g) : PQ a f g := fun i _ a2 a3 => h i a2 a3
noncomputable def emt (f : Nat → Int32) (a k : Nat) (x : Int32) : Nat → Int32 := upd (upd f (201 + 140 * a + k) x) (196 + a) (nI (k + 1))
theorem PF_emt {f : Nat → Int32} {a k : Nat} {x : Int32} (ha : a < 5) (hk : k < 140) : PF a f (emt f a k x) := fun i a2 a3 => by
  rw [emt, pk_un a2, pk_un (by omega)]
theorem em_sd {f : Nat → Int32} {a k d d' : Nat} {x : Int32} (ha : a < 5) (hk : k < 140) (h : sdep (fun i => f (201 + 140 * a + i)) k = some d) (hs : stepd x d = some d') : sdep (fun i => emt f a k x (201 + 140 * a + i)) (k + 1) = some d' := by
  have e : sdep (fun i => emt f a k x (201 + 140 * a + i)) k = some d := by
    rw [← h]
    refine sdep_cong (fun i hi => ?_)
    show emt f a k x (201 + 140 * a + i) = _
    rw [emt, pk_un (by omega), pk_un (by omega)]
  have e2 : emt f a k x (201 + 140 * a + k) = x := by rw [emt, pk_un (by omega)]; exact pk_us
  simp only [sdep, e, e2]
  exact hs
theorem em_k {f : Nat → Int32} {a k : Nat} {x : Int32} : emt f a k x (196 + a) = nI (k + 1) := pk_us

theorem kc_here_0 : ∀ w ∈ wsX120, w ∈ wsX12_here := fun w h => List.mem_cons_of_mem _ (gin_wsX120 w h)
theorem kc_here_1 : (.fieldLink RX12 59 "MistHeapsModel" "spot" "I" : Cond) ∈ wsX12_here := kc_of 1145 rfl rfl rfl
theorem kc_here_2 : (.fieldLink RX12 62 "MistHeapsModel" "end" "I" : Cond) ∈ wsX12_here := kc_of 1146 rfl rfl rfl
theorem kc_here_3 : (.fieldLink RX12 9 "MistHeapsModel" "s" "[I" : Cond) ∈ wsX12_here := kc_of 1141 rfl rfl rfl
set_option maxHeartbeats 4000000 in
set_option maxRecDepth 100000 in
theorem c_here (l : Launch) (dC : Nat → ClassId) (dI : Nat → Nat → Nat) (m0 aS aI aB aT aG aO aN aD aY : Nat) (th im ac sp en wg op se dn rn kd nu tv : Int32) (bv : Int64) (cS : ClassId) (fS : Nat → Int32) (a p0 E : Nat) (ga : a < 5) (gE : E ≤ 100) (gp : p0 ≤ E) : Met l yX12_here wsX12_here ({ frames := 0, cells := 0, slots := 0, locals := 0 } : Room) (va_Pc [.ref m0] (fun U => va_P (dC, dI) vwCl [(zo14irriiiiiirriirrrrlriiii m0 th aS aI im (nI a) (nI p0) (nI E) wg op aB aT se dn aG aO aN aD bv aY rn kd nu tv), (zaI aS cS 901 fS)] U.heap ∧ va_K (dC, dI) vwCl [(cS, .int)] U)) (vp_Si (fun r => r = hv fS p0 E)) 0 0 (fun _ => False) := by
  refine met_ofQ (cc := cX12_here) (maxL := 1) (ret := (some .int)) (by decide) rfl ?_
  intro p e s m args below meth c s₁ Q B hml hv hQ
  obtain ⟨rfl, hP, hK⟩ := hv
  have hx := B.exec
  have hb := B.bytes
  have hr := B.returns
  have hts := atoms_spec (ws := wsX12_here) B.pre
  have hown : s.vm.findClass RX12 = some m.cls := findClass_of_methodNamed B.named
  have hlocks := B.notSynchronized
  obtain ⟨A, hAe⟩ : ∃ A : Nat → Prop, A = fun _ => False := ⟨_, rfl⟩
  rw [← hAe] at hQ
  have hS : va_S A s.heap s.heap [] := va_S.rf
  have hl := lv_entry [.ref m0] (n := 1) (Nat.le_of_ble_eq_true rfl)
  rw [lg_entry_eq]
  generalize (lg_sl [.ref m0] ++ List.replicate (1 - (lg_sl [.ref m0]).length) Slot.unset).toArray = ls at hl ⊢
  generalize hag : ([.ref m0] : List Value).toArray = args at hts hQ ⊢
  have hl : lv_has ls 1 [(0, .ref m0)] := hl
  refine lv_aload_n hx hb dX12_here_0 rfl (lv_at hl 0 rfl) ?_
  refine va_get (D := (dC, dI)) (ci := 14) (v := .int (nI p0)) (C := RX12) (T := TX12) (N := 23) hx hb hts kc_here_0 hown hK hP 0 rfl rfl 5 (by decide) (hts (.fieldLink RX12 59 "MistHeapsModel" "spot" "I") kc_here_1) (fun _ h9 => h9) rfl dX12_here_1 ?_
  refine lv_aload_n hx hb dX12_here_4 rfl (lv_at hl 0 rfl) ?_
  refine va_get (D := (dC, dI)) (ci := 14) (v := .int (nI E)) (C := RX12) (T := TX12) (N := 23) hx hb hts kc_here_0 hown hK hP 0 rfl rfl 6 (by decide) (hts (.fieldLink RX12 62 "MistHeapsModel" "end" "I") kc_here_2) (fun _ h9 => h9) rfl dX12_here_5 ?_
  refine lv_icmp_ge (tgt := 26) hx hb dX12_here_8 (by decide) (fun c_1 => ?_) (fun c_1 => ?_)
  · skip
    have c_1 : E ≤ p0 := (nI_leI (a := E) (b := p0) (by omega) (by omega)).mp c_1
    refine lv_iconst (v := (-1)) hx hb dX12_here_26 (by decide) ?_
    rw [hQ]
    exact W.iret (v := (-1)) hx hb hr (fun tQ htQ hWQ => ⟨(-1), rfl, by first | exact (if_pos (by omega)).symm | exact (if_neg (by omega)).symm, by rw [htQ]⟩) (fun q hq => absurd hq List.not_mem_nil) dX12_here_27
  · skip
    have c_1 : ¬ E ≤ p0 := fun q => c_1 ((nI_leI (a := E) (b := p0) (by omega) (by omega)).mpr q)
    refine lv_aload_n hx hb dX12_here_11 rfl (lv_at hl 0 rfl) ?_
    refine va_get (D := (dC, dI)) (ci := 14) (v := .ref aS) (C := RX12) (T := TX12) (N := 23) hx hb hts kc_here_0 hown hK hP 0 rfl rfl 1 (by decide) (hts (.fieldLink RX12 9 "MistHeapsModel" "s" "[I") kc_here_3) (fun _ h9 => h9) rfl dX12_here_12 ?_
    refine lv_bipush (v := 91) hx hb dX12_here_15 (by decide) ?_
    refine lv_aload_n hx hb dX12_here_17 rfl (lv_at hl 0 rfl) ?_
    refine va_get (D := (dC, dI)) (ci := 14) (v := .int (nI p0)) (C := RX12) (T := TX12) (N := 23) hx hb hts kc_here_0 hown hK hP 0 rfl rfl 5 (by decide) (hts (.fieldLink RX12 59 "MistHeapsModel" "spot" "I") kc_here_1) (fun _ h9 => h9) rfl dX12_here_18 ?_
    refine lv_iadd hx hb dX12_here_21 ?_
    refine qi_as (y := nI (91 + p0)) (nI_add 91 p0) ?_
    refine va_iald hx hb hK hP 1 0 rfl rfl (vp_in_nI (n := 91 + p0) (N := 901) (by omega) (by omega)) dX12_here_22 ?_
    refine qi_as (y := fS (91 + p0)) (by rw [nI_clamp (by omega)]) ?_
    refine lv_goto (tgt := 27) hx hb dX12_here_23 (by decide) ?_
    rw [hQ]
    exact W.iret (v := fS (91 + p0)) hx hb hr (fun tQ htQ hWQ => ⟨fS (91 + p0), rfl, by first | exact (if_pos (by omega)).symm | exact (if_neg (by omega)).symm, by rw [htQ]⟩) (fun q hq => absurd hq List.not_mem_nil) dX12_here_27

theorem kc_must_0 : ∀ w ∈ wsX120, w ∈ wsX12_must := fun w h => List.mem_cons_of_mem _ (gin_wsX120 w h)
theorem kc_must_1 : (.fieldLink RX12 65 "MistHeapsModel" "isWrong" "Z" : Cond) ∈ wsX12_must := kc_of 1147 rfl rfl rfl
theorem kc_must_2 : (.fieldLink RX12 59 "MistHeapsModel" "spot" "I" : Cond) ∈ wsX12_must := kc_of 1145 rfl rfl rfl
set_option maxHeartbeats 4000000 in
set_option maxRecDepth 100000 in
theorem c_must (l : Launch) (dC : Nat → ClassId) (dI : Nat → Nat → Nat) (m0 aS aI aB aT aG aO aN aD aY : Nat) (th im ac sp en wg op se dn rn kd nu tv : Int32) (bv : Int64) (cS : ClassId) (fS : Nat → Int32) (a p0 E : Nat) (x : Int32) (sz : Nat) (ga : a < 5) (gE : E ≤ 100) (gp : p0 ≤ E) (zw : wg = 0 ∨ wg = 1) (zx : ¬ x = -1) : Met l yX12_must wsX12_must ({ frames := 1, cells := 0, slots := 0, locals := 20 } : Room) (va_Pc [.ref m0, .int x] (fun U => U.heap.size = sz ∧ va_P (dC, dI) vwCl [(zo14irriiiiiirriirrrrlriiii m0 th aS aI im (nI a) (nI p0) (nI E) wg op aB aT se dn aG aO aN aD bv aY rn kd nu tv), (zaI aS cS 901 fS)] U.heap ∧ va_K (dC, dI) vwCl [(cS, .int)] U ∧ va_D (fun _ => True) [(zo14irriiiiiirriirrrrlriiii m0 th aS aI im (nI a) (nI p0) (nI E) wg op aB aT se dn aG aO aN aD bv aY rn kd nu tv), (zaI aS cS 901 fS)])) (va_Qv (fun (u : (Int32) × (Int32)) => match u with | (sp9, wg9) => (wg9 = 1 ∧ sp9 = nI p0 ∧ (wg = 0 → ¬ hv fS p0 E = x)) ∨ (wg9 = 0 ∧ wg = 0 ∧ hv fS p0 E = x ∧ p0 < E ∧ sp9 = nI (p0 + 1))) (fun (u : (Int32) × (Int32)) (t : State) => match u with | (sp9, wg9) => va_P (dC, dI) vwCl [(zo14irriiiiiirriirrrrlriiii m0 th aS aI im (nI a) sp9 (nI E) wg9 op aB aT se dn aG aO aN aD bv aY rn kd nu tv), (zaI aS cS 901 fS)] t.heap ∧ va_K (dC, dI) vwCl [(cS, .int)] t ∧ va_D (va_A [(zo14irriiiiiirriirrrrlriiii m0 th aS aI im (nI a) (nI p0) (nI E) wg op aB aT se dn aG aO aN aD bv aY rn kd nu tv), (zaI aS cS 901 fS)] sz) [(zo14irriiiiiirriirrrrlriiii m0 th aS aI im (nI a) sp9 (nI E) wg9 op aB aT se dn aG aO aN aD bv aY rn kd nu tv), (zaI aS cS 901 fS)]) (va_A [(zo14irriiiiiirriirrrrlriiii m0 th aS aI im (nI a) (nI p0) (nI E) wg op aB aT se dn aG aO aN aD bv aY rn kd nu tv), (zaI aS cS 901 fS)] sz)) 0 0 (va_A [(zo14irriiiiiirriirrrrlriiii m0 th aS aI im (nI a) (nI p0) (nI E) wg op aB aT se dn aG aO aN aD bv aY rn kd nu tv), (zaI aS cS 901 fS)] sz) := by
  refine met_ofQ (cc := cX12_must) (maxL := 2) (ret := none) (by decide) rfl ?_
  intro p e s m args below meth c s₁ Q B hml hv hQ
  obtain ⟨rfl, hsz, hP, hK, hD0⟩ := hv
  have hx := B.exec
  have hb := B.bytes
  have hr := B.returns
  have hts := atoms_spec (ws := wsX12_must) B.pre
  have hown : s.vm.findClass RX12 = some m.cls := findClass_of_methodNamed B.named
  have hlocks := B.notSynchronized
  subst hsz
  have hD := hD0.self (sz := s.heap.size)
  generalize hAe : va_A [(zo14irriiiiiirriirrrrlriiii m0 th aS aI im (nI a) (nI p0) (nI E) wg op aB aT se dn aG aO aN aD bv aY rn kd nu tv), (zaI aS cS 901 fS)] s.heap.size = A at hD hQ ⊢
  have hA : ∀ q : Nat, s.heap.size ≤ q → A q := fun q h => by rw [← hAe]; exact Or.inr h
  have hS : va_S A s.heap s.heap [] := va_S.rf
  have hl := lv_entry [.ref m0, .int x] (n := 2) (Nat.le_of_ble_eq_true rfl)
  rw [lg_entry_eq]
  generalize (lg_sl [.ref m0, .int x] ++ List.replicate (2 - (lg_sl [.ref m0, .int x]).length) Slot.unset).toArray = ls at hl ⊢
  generalize hag : ([.ref m0, .int x] : List Value).toArray = args at hts hQ ⊢
  have hl : lv_has ls 2 [(0, .ref m0), (1, .int x)] := hl
  obtain ⟨H, hH⟩ : ∃ H : Heap, H = s.heap := ⟨_, rfl⟩
  rw [← hH] at hP
  rw [← hH]
  have hS : va_S A s.heap H [] := by rw [hH]; exact hS
  obtain ⟨locs, hlo⟩ : ∃ L : List Loc, L = [] := ⟨_, rfl⟩
  rw [← hlo] at hS
  rw [← hlo]
  clear hH hlo
  refine lv_aload_n hx hb dX12_must_0 rfl (lv_at hl 0 rfl) ?_
  refine lv_aload_n hx hb dX12_must_1 rfl (lv_at hl 0 rfl) ?_
  refine va_get (D := (dC, dI)) (ci := 14) (v := .int wg) (C := RX12) (T := TX12) (N := 23) hx hb hts kc_must_0 hown hK hP 0 rfl rfl 7 (by decide) (hts (.fieldLink RX12 65 "MistHeapsModel" "isWrong" "Z") kc_must_1) (fun _ h9 => h9) rfl dX12_must_2 ?_
  refine lv_if_ne (tgt := 16) hx hb dX12_must_5 (by decide) (fun c_1 => ?_) (fun c_1 => ?_)
  · skip
    refine lv_iconst (v := 1) hx hb dX12_must_16 (by decide) ?_
    refine lv_goto (tgt := 21) hx hb dX12_must_17 (by decide) ?_
    refine va_put (D := (dC, dI)) (ci := 14) (v := .int 1) (ty := .boolean) (C := RX12) (T := TX12) (N := 23) hx hb hts kc_must_0 tyX12 tyX12_ok nmX12 hown hK hP hD hS 0 rfl rfl 7 (by decide) (hts (.fieldLink RX12 65 "MistHeapsModel" "isWrong" "Z") kc_must_1) (fun _ h9 => h9) rfl (by decide +kernel) rfl rfl (Nat.le_of_ble_eq_true rfl) dX12_must_21 (fun H locs hP hD hS => ?_)
    have hP : va_P (dC, dI) vwCl [(zo14irriiiiiirriirrrrlriiii m0 th aS aI im (nI a) (nI p0) (nI E) 1 op aB aT se dn aG aO aN aD bv aY rn kd nu tv), (zaI aS cS 901 fS)] H := hP
    have hD : va_D A [(zo14irriiiiiirriirrrrlriiii m0 th aS aI im (nI a) (nI p0) (nI E) 1 op aB aT se dn aG aO aN aD bv aY rn kd nu tv), (zaI aS cS 901 fS)] := hD
    refine lv_aload_n hx hb dX12_must_24 rfl (lv_at hl 0 rfl) ?_
    refine lv_dup hx hb dX12_must_25 rfl ?_
    refine va_get (D := (dC, dI)) (ci := 14) (v := .int (nI p0)) (C := RX12) (T := TX12) (N := 23) hx hb hts kc_must_0 hown hK hP 0 rfl rfl 5 (by decide) (hts (.fieldLink RX12 59 "MistHeapsModel" "spot" "I") kc_must_2) (fun _ h9 => h9) rfl dX12_must_26 ?_
    refine lv_aload_n hx hb dX12_must_29 rfl (lv_at hl 0 rfl) ?_
    refine va_get (D := (dC, dI)) (ci := 14) (v := .int 1) (C := RX12) (T := TX12) (N := 23) hx hb hts kc_must_0 hown hK hP 0 rfl rfl 7 (by decide) (hts (.fieldLink RX12 65 "MistHeapsModel" "isWrong" "Z") kc_must_1) (fun _ h9 => h9) rfl dX12_must_30 ?_
    refine lv_if_eq (tgt := 40) hx hb dX12_must_33 (by decide) (fun c_2 => absurd c_2 (by decide)) (fun _ => ?_)
    refine lv_iconst (v := 0) hx hb dX12_must_36 (by decide) ?_
    refine lv_goto (tgt := 41) hx hb dX12_must_37 (by decide) ?_
    refine lv_iadd hx hb dX12_must_41 ?_
    refine qi_as (y := nI (p0 + 0)) (nI_add p0 0) ?_
    refine va_put (D := (dC, dI)) (ci := 14) (v := .int (nI (p0 + 0))) (ty := .int) (C := RX12) (T := TX12) (N := 23) hx hb hts kc_must_0 tyX12 tyX12_ok nmX12 hown hK hP hD hS 0 rfl rfl 5 (by decide) (hts (.fieldLink RX12 59 "MistHeapsModel" "spot" "I") kc_must_2) (fun _ h9 => h9) rfl (by decide +kernel) rfl rfl (Nat.le_of_ble_eq_true rfl) dX12_must_42 (fun H locs hP hD hS => ?_)
    have hP : va_P (dC, dI) vwCl [(zo14irriiiiiirriirrrrlriiii m0 th aS aI im (nI a) (nI (p0 + 0)) (nI E) 1 op aB aT se dn aG aO aN aD bv aY rn kd nu tv), (zaI aS cS 901 fS)] H := hP
    have hD : va_D A [(zo14irriiiiiirriirrrrlriiii m0 th aS aI im (nI a) (nI (p0 + 0)) (nI E) 1 op aB aT se dn aG aO aN aD bv aY rn kd nu tv), (zaI aS cS 901 fS)] := hD
    rw [hQ]
    have hP9 := hP.sub (ws' := [(zo14irriiiiiirriirrrrlriiii m0 th aS aI im (nI a) (nI (p0 + 0)) (nI E) 1 op aB aT se dn aG aO aN aD bv aY rn kd nu tv), (zaI aS cS 901 fS)]) [0, 1] rfl
    have hD9 := hD.sub (ws' := [(zo14irriiiiiirriirrrrlriiii m0 th aS aI im (nI a) (nI (p0 + 0)) (nI E) 1 op aB aT se dn aG aO aN aD bv aY rn kd nu tv), (zaI aS cS 901 fS)]) [0, 1] (by decide) rfl
    have hK9 := hK.sub (tys' := [(cS, .int)]) [0] rfl
    exact W.vret hx hb hr (fun tQ htQ hWQ => ⟨⟨((nI (p0 + 0)), 1), rfl, by first | exact Or.inr ⟨rfl, by assumption, he9, hlt, rfl⟩ | exact Or.inl ⟨rfl, rfl, fun _ => he9⟩ | exact Or.inl ⟨rfl, rfl, fun e => absurd e (by assumption)⟩, by rw [htQ]; exact hP9, va_K.moved hWQ.alike hK9, hD9⟩, hS.F htQ⟩) hS.2.2 dX12_must_45
  · skip
    refine lv_aload_n hx hb dX12_must_8 rfl (lv_at hl 0 rfl) ?_
    have hPc := hP.sub (ws' := [(zo14irriiiiiirriirrrrlriiii m0 th aS aI im (nI a) (nI p0) (nI E) wg op aB aT se dn aG aO aN aD bv aY rn kd nu tv), (zaI aS cS 901 fS)]) [0, 1] rfl
    have hKc := hK.sub (tys' := [(cS, .int)]) [0] rfl
    refine vp_callSi (va_runV (As := []) (rest := [.ref m0]) ⟨hx, hb, hml, hown, hts⟩ (c_here l dC dI m0 aS aI aB aT aG aO aN aD aY th im (nI a) (nI p0) (nI E) wg op se dn rn kd nu tv bv cS fS a p0 E (by omega) (by omega) (by omega)) (cwV 0 hts gX12_must_X12_here rfl rfl rfl hd_yX12_here ⟨Nat.le_of_ble_eq_true rfl, Nat.le_of_ble_eq_true rfl⟩) ⟨fun a U g mk q => by obtain ⟨q0, qP, qK⟩ := q; exact ⟨q0, mvP g mk a qP, mvK g mk a qK⟩, va_recv hK hP (ci := 14) (q := (RX12, TX12, 23)) (q0 := 0) rfl rfl, fun U hU hW => ⟨rfl, by rw [hU]; exact hPc, va_K.moved hW.alike hKc⟩⟩ rfl rfl hl.1 rfl (lv_room (Nat.le_of_ble_eq_true rfl)) dX12_must_9 ⟨Nat.le_of_ble_eq_true rfl, Nat.le_of_ble_eq_true rfl⟩).run (fun r_3 hw_4 => ?_)
    refine lv_iload_n hx hb dX12_must_12 rfl (lv_at hl 1 rfl) ?_
    refine lv_icmp_eq (tgt := 20) hx hb dX12_must_13 (by decide) (fun c_5 => ?_) (fun c_5 => ?_)
    · skip
      have he9 : hv fS p0 E = x := by rw [← hw_4]; exact c_5
      have hlt : p0 < E := hv_lt (f := fS) (by rw [he9]; exact zx)
      refine lv_iconst (v := 0) hx hb dX12_must_20 (by decide) ?_
      refine va_put (D := (dC, dI)) (ci := 14) (v := .int 0) (ty := .boolean) (C := RX12) (T := TX12) (N := 23) hx hb hts kc_must_0 tyX12 tyX12_ok nmX12 hown hK hP hD hS 0 rfl rfl 7 (by decide) (hts (.fieldLink RX12 65 "MistHeapsModel" "isWrong" "Z") kc_must_1) (fun _ h9 => h9) rfl (by decide +kernel) rfl rfl (Nat.le_of_ble_eq_true rfl) dX12_must_21 (fun H locs hP hD hS => ?_)
      have hP : va_P (dC, dI) vwCl [(zo14irriiiiiirriirrrrlriiii m0 th aS aI im (nI a) (nI p0) (nI E) 0 op aB aT se dn aG aO aN aD bv aY rn kd nu tv), (zaI aS cS 901 fS)] H := hP
      have hD : va_D A [(zo14irriiiiiirriirrrrlriiii m0 th aS aI im (nI a) (nI p0) (nI E) 0 op aB aT se dn aG aO aN aD bv aY rn kd nu tv), (zaI aS cS 901 fS)] := hD
      refine lv_aload_n hx hb dX12_must_24 rfl (lv_at hl 0 rfl) ?_
      refine lv_dup hx hb dX12_must_25 rfl ?_
      refine va_get (D := (dC, dI)) (ci := 14) (v := .int (nI p0)) (C := RX12) (T := TX12) (N := 23) hx hb hts kc_must_0 hown hK hP 0 rfl rfl 5 (by decide) (hts (.fieldLink RX12 59 "MistHeapsModel" "spot" "I") kc_must_2) (fun _ h9 => h9) rfl dX12_must_26 ?_
      refine lv_aload_n hx hb dX12_must_29 rfl (lv_at hl 0 rfl) ?_
      refine va_get (D := (dC, dI)) (ci := 14) (v := .int 0) (C := RX12) (T := TX12) (N := 23) hx hb hts kc_must_0 hown hK hP 0 rfl rfl 7 (by decide) (hts (.fieldLink RX12 65 "MistHeapsModel" "isWrong" "Z") kc_must_1) (fun _ h9 => h9) rfl dX12_must_30 ?_
      refine lv_if_eq (tgt := 40) hx hb dX12_must_33 (by decide) (fun _ => ?_) (fun c_6 => absurd c_6 (by decide))
      refine lv_iconst (v := 1) hx hb dX12_must_40 (by decide) ?_
      refine lv_iadd hx hb dX12_must_41 ?_
      refine qi_as (y := nI (p0 + 1)) (nI_add p0 1) ?_
      refine va_put (D := (dC, dI)) (ci := 14) (v := .int (nI (p0 + 1))) (ty := .int) (C := RX12) (T := TX12) (N := 23) hx hb hts kc_must_0 tyX12 tyX12_ok nmX12 hown hK hP hD hS 0 rfl rfl 5 (by decide) (hts (.fieldLink RX12 59 "MistHeapsModel" "spot" "I") kc_must_2) (fun _ h9 => h9) rfl (by decide +kernel) rfl rfl (Nat.le_of_ble_eq_true rfl) dX12_must_42 (fun H locs hP hD hS => ?_)
      have hP : va_P (dC, dI) vwCl [(zo14irriiiiiirriirrrrlriiii m0 th aS aI im (nI a) (nI (p0 + 1)) (nI E) 0 op aB aT se dn aG aO aN aD bv aY rn kd nu tv), (zaI aS cS 901 fS)] H := hP
      have hD : va_D A [(zo14irriiiiiirriirrrrlriiii m0 th aS aI im (nI a) (nI (p0 + 1)) (nI E) 0 op aB aT se dn aG aO aN aD bv aY rn kd nu tv), (zaI aS cS 901 fS)] := hD
      rw [hQ]
      have hP9 := hP.sub (ws' := [(zo14irriiiiiirriirrrrlriiii m0 th aS aI im (nI a) (nI (p0 + 1)) (nI E) 0 op aB aT se dn aG aO aN aD bv aY rn kd nu tv), (zaI aS cS 901 fS)]) [0, 1] rfl
      have hD9 := hD.sub (ws' := [(zo14irriiiiiirriirrrrlriiii m0 th aS aI im (nI a) (nI (p0 + 1)) (nI E) 0 op aB aT se dn aG aO aN aD bv aY rn kd nu tv), (zaI aS cS 901 fS)]) [0, 1] (by decide) rfl
      have hK9 := hK.sub (tys' := [(cS, .int)]) [0] rfl
      exact W.vret hx hb hr (fun tQ htQ hWQ => ⟨⟨((nI (p0 + 1)), 0), rfl, by first | exact Or.inr ⟨rfl, by assumption, he9, hlt, rfl⟩ | exact Or.inl ⟨rfl, rfl, fun _ => he9⟩ | exact Or.inl ⟨rfl, rfl, fun e => absurd e (by assumption)⟩, by rw [htQ]; exact hP9, va_K.moved hWQ.alike hK9, hD9⟩, hS.F htQ⟩) hS.2.2 dX12_must_45
    · skip
      have he9 : ¬ hv fS p0 E = x := by rw [← hw_4]; exact c_5
      refine lv_iconst (v := 1) hx hb dX12_must_16 (by decide) ?_
      refine lv_goto (tgt := 21) hx hb dX12_must_17 (by decide) ?_
      refine va_put (D := (dC, dI)) (ci := 14) (v := .int 1) (ty := .boolean) (C := RX12) (T := TX12) (N := 23) hx hb hts kc_must_0 tyX12 tyX12_ok nmX12 hown hK hP hD hS 0 rfl rfl 7 (by decide) (hts (.fieldLink RX12 65 "MistHeapsModel" "isWrong" "Z") kc_must_1) (fun _ h9 => h9) rfl (by decide +kernel) rfl rfl (Nat.le_of_ble_eq_true rfl) dX12_must_21 (fun H locs hP hD hS => ?_)
      have hP : va_P (dC, dI) vwCl [(zo14irriiiiiirriirrrrlriiii m0 th aS aI im (nI a) (nI p0) (nI E) 1 op aB aT se dn aG aO aN aD bv aY rn kd nu tv), (zaI aS cS 901 fS)] H := hP
      have hD : va_D A [(zo14irriiiiiirriirrrrlriiii m0 th aS aI im (nI a) (nI p0) (nI E) 1 op aB aT se dn aG aO aN aD bv aY rn kd nu tv), (zaI aS cS 901 fS)] := hD
      refine lv_aload_n hx hb dX12_must_24 rfl (lv_at hl 0 rfl) ?_
      refine lv_dup hx hb dX12_must_25 rfl ?_
      refine va_get (D := (dC, dI)) (ci := 14) (v := .int (nI p0)) (C := RX12) (T := TX12) (N := 23) hx hb hts kc_must_0 hown hK hP 0 rfl rfl 5 (by decide) (hts (.fieldLink RX12 59 "MistHeapsModel" "spot" "I") kc_must_2) (fun _ h9 => h9) rfl dX12_must_26 ?_
      refine lv_aload_n hx hb dX12_must_29 rfl (lv_at hl 0 rfl) ?_
      refine va_get (D := (dC, dI)) (ci := 14) (v := .int 1) (C := RX12) (T := TX12) (N := 23) hx hb hts kc_must_0 hown hK hP 0 rfl rfl 7 (by decide) (hts (.fieldLink RX12 65 "MistHeapsModel" "isWrong" "Z") kc_must_1) (fun _ h9 => h9) rfl dX12_must_30 ?_
      refine lv_if_eq (tgt := 40) hx hb dX12_must_33 (by decide) (fun c_7 => absurd c_7 (by decide)) (fun _ => ?_)
      refine lv_iconst (v := 0) hx hb dX12_must_36 (by decide) ?_
      refine lv_goto (tgt := 41) hx hb dX12_must_37 (by decide) ?_
      refine lv_iadd hx hb dX12_must_41 ?_
      refine qi_as (y := nI (p0 + 0)) (nI_add p0 0) ?_
      refine va_put (D := (dC, dI)) (ci := 14) (v := .int (nI (p0 + 0))) (ty := .int) (C := RX12) (T := TX12) (N := 23) hx hb hts kc_must_0 tyX12 tyX12_ok nmX12 hown hK hP hD hS 0 rfl rfl 5 (by decide) (hts (.fieldLink RX12 59 "MistHeapsModel" "spot" "I") kc_must_2) (fun _ h9 => h9) rfl (by decide +kernel) rfl rfl (Nat.le_of_ble_eq_true rfl) dX12_must_42 (fun H locs hP hD hS => ?_)
      have hP : va_P (dC, dI) vwCl [(zo14irriiiiiirriirrrrlriiii m0 th aS aI im (nI a) (nI (p0 + 0)) (nI E) 1 op aB aT se dn aG aO aN aD bv aY rn kd nu tv), (zaI aS cS 901 fS)] H := hP
      have hD : va_D A [(zo14irriiiiiirriirrrrlriiii m0 th aS aI im (nI a) (nI (p0 + 0)) (nI E) 1 op aB aT se dn aG aO aN aD bv aY rn kd nu tv), (zaI aS cS 901 fS)] := hD
      rw [hQ]
      have hP9 := hP.sub (ws' := [(zo14irriiiiiirriirrrrlriiii m0 th aS aI im (nI a) (nI (p0 + 0)) (nI E) 1 op aB aT se dn aG aO aN aD bv aY rn kd nu tv), (zaI aS cS 901 fS)]) [0, 1] rfl
      have hD9 := hD.sub (ws' := [(zo14irriiiiiirriirrrrlriiii m0 th aS aI im (nI a) (nI (p0 + 0)) (nI E) 1 op aB aT se dn aG aO aN aD bv aY rn kd nu tv), (zaI aS cS 901 fS)]) [0, 1] (by decide) rfl
      have hK9 := hK.sub (tys' := [(cS, .int)]) [0] rfl
      exact W.vret hx hb hr (fun tQ htQ hWQ => ⟨⟨((nI (p0 + 0)), 1), rfl, by first | exact Or.inr ⟨rfl, by assumption, he9, hlt, rfl⟩ | exact Or.inl ⟨rfl, rfl, fun _ => he9⟩ | exact Or.inl ⟨rfl, rfl, fun e => absurd e (by assumption)⟩, by rw [htQ]; exact hP9, va_K.moved hWQ.alike hK9, hD9⟩, hS.F htQ⟩) hS.2.2 dX12_must_45

theorem kc_emits_0 : ∀ w ∈ wsX120, w ∈ wsX12_emits := fun w h => List.mem_cons_of_mem _ (gin_wsX120 w h)
theorem kc_emits_1 : (.fieldLink RX12 65 "MistHeapsModel" "isWrong" "Z" : Cond) ∈ wsX12_emits := kc_of 1147 rfl rfl rfl
theorem kc_emits_2 : (.fieldLink RX12 9 "MistHeapsModel" "s" "[I" : Cond) ∈ wsX12_emits := kc_of 1141 rfl rfl rfl
theorem kc_emits_3 : (.fieldLink RX12 86 "MistHeapsModel" "act" "I" : Cond) ∈ wsX12_emits := kc_of 1144 rfl rfl rfl
set_option maxHeartbeats 4000000 in
set_option maxRecDepth 100000 in
theorem c_emits (l : Launch) (dC : Nat → ClassId) (dI : Nat → Nat → Nat) (m0 aS aI aB aT aG aO aN aD aY : Nat) (th im ac sp en wg op se dn rn kd nu tv : Int32) (bv : Int64) (cS : ClassId) (fS : Nat → Int32) (a k : Nat) (x : Int32) (sz : Nat) (ga : a < 5) (zk : fS (196 + a) = nI k) (gk : k < 140) : Met l yX12_emits wsX12_emits ({ frames := 0, cells := 0, slots := 0, locals := 0 } : Room) (va_Pc [.ref m0, .int x] (fun U => U.heap.size = sz ∧ va_P (dC, dI) vwCl [(zo14irriiiiiirriirrrrlriiii m0 th aS aI im (nI a) sp en wg op aB aT se dn aG aO aN aD bv aY rn kd nu tv), (zaI aS cS 901 fS)] U.heap ∧ va_K (dC, dI) vwCl [(cS, .int)] U ∧ va_D (fun _ => True) [(zo14irriiiiiirriirrrrlriiii m0 th aS aI im (nI a) sp en wg op aB aT se dn aG aO aN aD bv aY rn kd nu tv), (zaI aS cS 901 fS)])) (va_Qv (fun (u : Nat → Int32) => match u with | fS9 => (¬ wg = 0 ∧ fS9 = fS) ∨ (wg = 0 ∧ fS9 = emt fS a k x)) (fun (u : Nat → Int32) (t : State) => match u with | fS9 => va_P (dC, dI) vwCl [(zo14irriiiiiirriirrrrlriiii m0 th aS aI im (nI a) sp en wg op aB aT se dn aG aO aN aD bv aY rn kd nu tv), (zaI aS cS 901 fS9)] t.heap ∧ va_K (dC, dI) vwCl [(cS, .int)] t ∧ va_D (va_A [(zo14irriiiiiirriirrrrlriiii m0 th aS aI im (nI a) sp en wg op aB aT se dn aG aO aN aD bv aY rn kd nu tv), (zaI aS cS 901 fS)] sz) [(zo14irriiiiiirriirrrrlriiii m0 th aS aI im (nI a) sp en wg op aB aT se dn aG aO aN aD bv aY rn kd nu tv), (zaI aS cS 901 fS9)]) (va_A [(zo14irriiiiiirriirrrrlriiii m0 th aS aI im (nI a) sp en wg op aB aT se dn aG aO aN aD bv aY rn kd nu tv), (zaI aS cS 901 fS)] sz)) 0 0 (va_A [(zo14irriiiiiirriirrrrlriiii m0 th aS aI im (nI a) sp en wg op aB aT se dn aG aO aN aD bv aY rn kd nu tv), (zaI aS cS 901 fS)] sz) := by
  refine met_ofQ (cc := cX12_emits) (maxL := 2) (ret := none) (by decide) rfl ?_
  intro p e s m args below meth c s₁ Q B hml hv hQ
  obtain ⟨rfl, hsz, hP, hK, hD0⟩ := hv
  have hx := B.exec
  have hb := B.bytes
  have hr := B.returns
  have hts := atoms_spec (ws := wsX12_emits) B.pre
  have hown : s.vm.findClass RX12 = some m.cls := findClass_of_methodNamed B.named
  have hlocks := B.notSynchronized
  subst hsz
  have hD := hD0.self (sz := s.heap.size)
  generalize hAe : va_A [(zo14irriiiiiirriirrrrlriiii m0 th aS aI im (nI a) sp en wg op aB aT se dn aG aO aN aD bv aY rn kd nu tv), (zaI aS cS 901 fS)] s.heap.size = A at hD hQ ⊢
  have hA : ∀ q : Nat, s.heap.size ≤ q → A q := fun q h => by rw [← hAe]; exact Or.inr h
  have hS : va_S A s.heap s.heap [] := va_S.rf
  have hl := lv_entry [.ref m0, .int x] (n := 2) (Nat.le_of_ble_eq_true rfl)
  rw [lg_entry_eq]
  generalize (lg_sl [.ref m0, .int x] ++ List.replicate (2 - (lg_sl [.ref m0, .int x]).length) Slot.unset).toArray = ls at hl ⊢
  generalize hag : ([.ref m0, .int x] : List Value).toArray = args at hts hQ ⊢
  have hl : lv_has ls 2 [(0, .ref m0), (1, .int x)] := hl
  obtain ⟨H, hH⟩ : ∃ H : Heap, H = s.heap := ⟨_, rfl⟩
  rw [← hH] at hP
  rw [← hH]
  have hS : va_S A s.heap H [] := by rw [hH]; exact hS
  obtain ⟨locs, hlo⟩ : ∃ L : List Loc, L = [] := ⟨_, rfl⟩
  rw [← hlo] at hS
  rw [← hlo]
  clear hH hlo
  refine lv_aload_n hx hb dX12_emits_0 rfl (lv_at hl 0 rfl) ?_
  refine va_get (D := (dC, dI)) (ci := 14) (v := .int wg) (C := RX12) (T := TX12) (N := 23) hx hb hts kc_emits_0 hown hK hP 0 rfl rfl 7 (by decide) (hts (.fieldLink RX12 65 "MistHeapsModel" "isWrong" "Z") kc_emits_1) (fun _ h9 => h9) rfl dX12_emits_1 ?_
  refine lv_if_ne (tgt := 56) hx hb dX12_emits_4 (by decide) (fun c_1 => ?_) (fun c_1 => ?_)
  · skip
    rw [hQ]
    have hP9 := hP.sub (ws' := [(zo14irriiiiiirriirrrrlriiii m0 th aS aI im (nI a) sp en wg op aB aT se dn aG aO aN aD bv aY rn kd nu tv), (zaI aS cS 901 fS)]) [0, 1] rfl
    have hD9 := hD.sub (ws' := [(zo14irriiiiiirriirrrrlriiii m0 th aS aI im (nI a) sp en wg op aB aT se dn aG aO aN aD bv aY rn kd nu tv), (zaI aS cS 901 fS)]) [0, 1] (by decide) rfl
    have hK9 := hK.sub (tys' := [(cS, .int)]) [0] rfl
    exact W.vret hx hb hr (fun tQ htQ hWQ => ⟨⟨fS, rfl, by first | exact Or.inl ⟨by assumption, rfl⟩ | exact Or.inr ⟨by assumption, rfl⟩, by rw [htQ]; exact hP9, va_K.moved hWQ.alike hK9, hD9⟩, hS.F htQ⟩) hS.2.2 dX12_emits_56
  · skip
    refine lv_aload_n hx hb dX12_emits_7 rfl (lv_at hl 0 rfl) ?_
    refine va_get (D := (dC, dI)) (ci := 14) (v := .ref aS) (C := RX12) (T := TX12) (N := 23) hx hb hts kc_emits_0 hown hK hP 0 rfl rfl 1 (by decide) (hts (.fieldLink RX12 9 "MistHeapsModel" "s" "[I") kc_emits_2) (fun _ h9 => h9) rfl dX12_emits_8 ?_
    refine lv_sipush (v := 201) hx hb dX12_emits_11 (by decide) ?_
    refine lv_sipush (v := 140) hx hb dX12_emits_14 (by decide) ?_
    refine lv_aload_n hx hb dX12_emits_17 rfl (lv_at hl 0 rfl) ?_
    refine va_get (D := (dC, dI)) (ci := 14) (v := .int (nI a)) (C := RX12) (T := TX12) (N := 23) hx hb hts kc_emits_0 hown hK hP 0 rfl rfl 4 (by decide) (hts (.fieldLink RX12 86 "MistHeapsModel" "act" "I") kc_emits_3) (fun _ h9 => h9) rfl dX12_emits_18 ?_
    refine lv_imul hx hb dX12_emits_21 ?_
    refine qi_as (y := nI (140 * a)) (pk_mul 140 a) ?_
    refine lv_iadd hx hb dX12_emits_22 ?_
    refine qi_as (y := nI (201 + (140 * a))) (nI_add 201 (140 * a)) ?_
    refine lv_aload_n hx hb dX12_emits_23 rfl (lv_at hl 0 rfl) ?_
    refine va_get (D := (dC, dI)) (ci := 14) (v := .ref aS) (C := RX12) (T := TX12) (N := 23) hx hb hts kc_emits_0 hown hK hP 0 rfl rfl 1 (by decide) (hts (.fieldLink RX12 9 "MistHeapsModel" "s" "[I") kc_emits_2) (fun _ h9 => h9) rfl dX12_emits_24 ?_
    refine lv_sipush (v := 196) hx hb dX12_emits_27 (by decide) ?_
    refine lv_aload_n hx hb dX12_emits_30 rfl (lv_at hl 0 rfl) ?_
    refine va_get (D := (dC, dI)) (ci := 14) (v := .int (nI a)) (C := RX12) (T := TX12) (N := 23) hx hb hts kc_emits_0 hown hK hP 0 rfl rfl 4 (by decide) (hts (.fieldLink RX12 86 "MistHeapsModel" "act" "I") kc_emits_3) (fun _ h9 => h9) rfl dX12_emits_31 ?_
    refine lv_iadd hx hb dX12_emits_34 ?_
    refine qi_as (y := nI (196 + a)) (nI_add 196 a) ?_
    refine va_iald hx hb hK hP 1 0 rfl rfl (vp_in_nI (n := 196 + a) (N := 901) (by omega) (by omega)) dX12_emits_35 ?_
    refine qi_as (y := nI k) ((show fS (nI (196 + a) : Int32).toNatClampNeg = fS (196 + a) from by rw [nI_clamp (by omega)]).trans (zk)) ?_
    refine lv_iadd hx hb dX12_emits_36 ?_
    refine qi_as (y := nI ((201 + (140 * a)) + k)) (nI_add (201 + (140 * a)) k) ?_
    refine lv_iload_n hx hb dX12_emits_37 rfl (lv_at hl 1 rfl) ?_
    refine va_iast hx hb hK hP hD hS 1 0 rfl rfl (vp_in_nI (n := (201 + (140 * a)) + k) (N := 901) (by omega) (by omega)) dX12_emits_38 (fun H locs hP hD hS => ?_)
    rw [nI_clamp (n := (201 + (140 * a)) + k) (by omega)] at hP hD
    have hP : va_P (dC, dI) vwCl [(zo14irriiiiiirriirrrrlriiii m0 th aS aI im (nI a) sp en wg op aB aT se dn aG aO aN aD bv aY rn kd nu tv), (zaI aS cS 901 (upd fS ((201 + (140 * a)) + k) x))] H := hP
    have hD : va_D A [(zo14irriiiiiirriirrrrlriiii m0 th aS aI im (nI a) sp en wg op aB aT se dn aG aO aN aD bv aY rn kd nu tv), (zaI aS cS 901 (upd fS ((201 + (140 * a)) + k) x))] := hD
    refine lv_aload_n hx hb dX12_emits_39 rfl (lv_at hl 0 rfl) ?_
    refine va_get (D := (dC, dI)) (ci := 14) (v := .ref aS) (C := RX12) (T := TX12) (N := 23) hx hb hts kc_emits_0 hown hK hP 0 rfl rfl 1 (by decide) (hts (.fieldLink RX12 9 "MistHeapsModel" "s" "[I") kc_emits_2) (fun _ h9 => h9) rfl dX12_emits_40 ?_
    refine lv_sipush (v := 196) hx hb dX12_emits_43 (by decide) ?_
    refine lv_aload_n hx hb dX12_emits_46 rfl (lv_at hl 0 rfl) ?_
    refine va_get (D := (dC, dI)) (ci := 14) (v := .int (nI a)) (C := RX12) (T := TX12) (N := 23) hx hb hts kc_emits_0 hown hK hP 0 rfl rfl 4 (by decide) (hts (.fieldLink RX12 86 "MistHeapsModel" "act" "I") kc_emits_3) (fun _ h9 => h9) rfl dX12_emits_47 ?_
    refine lv_iadd hx hb dX12_emits_50 ?_
    refine qi_as (y := nI (196 + a)) (nI_add 196 a) ?_
    refine lv_dup2_11 hx hb dX12_emits_51 rfl rfl ?_
    refine va_iald hx hb hK hP 1 0 rfl rfl (vp_in_nI (n := 196 + a) (N := 901) (by omega) (by omega)) dX12_emits_52 ?_
    refine qi_as (y := nI k) ((show (upd fS ((201 + (140 * a)) + k) x) (nI (196 + a) : Int32).toNatClampNeg = (upd fS ((201 + (140 * a)) + k) x) (196 + a) from by rw [nI_clamp (by omega)]).trans ((pk_un (by omega)).trans zk)) ?_
    refine lv_iconst (v := 1) hx hb dX12_emits_53 (by decide) ?_
    refine lv_iadd hx hb dX12_emits_54 ?_
    refine qi_as (y := nI (k + 1)) (nI_add k 1) ?_
    refine va_iast hx hb hK hP hD hS 1 0 rfl rfl (vp_in_nI (n := 196 + a) (N := 901) (by omega) (by omega)) dX12_emits_55 (fun H locs hP hD hS => ?_)
    rw [nI_clamp (n := 196 + a) (by omega)] at hP hD
    have hP : va_P (dC, dI) vwCl [(zo14irriiiiiirriirrrrlriiii m0 th aS aI im (nI a) sp en wg op aB aT se dn aG aO aN aD bv aY rn kd nu tv), (zaI aS cS 901 (upd (upd fS ((201 + (140 * a)) + k) x) (196 + a) (nI (k + 1))))] H := hP
    have hD : va_D A [(zo14irriiiiiirriirrrrlriiii m0 th aS aI im (nI a) sp en wg op aB aT se dn aG aO aN aD bv aY rn kd nu tv), (zaI aS cS 901 (upd (upd fS ((201 + (140 * a)) + k) x) (196 + a) (nI (k + 1))))] := hD
    rw [hQ]
    have hP9 := hP.sub (ws' := [(zo14irriiiiiirriirrrrlriiii m0 th aS aI im (nI a) sp en wg op aB aT se dn aG aO aN aD bv aY rn kd nu tv), (zaI aS cS 901 (upd (upd fS ((201 + (140 * a)) + k) x) (196 + a) (nI (k + 1))))]) [0, 1] rfl
    have hD9 := hD.sub (ws' := [(zo14irriiiiiirriirrrrlriiii m0 th aS aI im (nI a) sp en wg op aB aT se dn aG aO aN aD bv aY rn kd nu tv), (zaI aS cS 901 (upd (upd fS ((201 + (140 * a)) + k) x) (196 + a) (nI (k + 1))))]) [0, 1] (by decide) rfl
    have hK9 := hK.sub (tys' := [(cS, .int)]) [0] rfl
    exact W.vret hx hb hr (fun tQ htQ hWQ => ⟨⟨(upd (upd fS ((201 + (140 * a)) + k) x) (196 + a) (nI (k + 1))), rfl, by first | exact Or.inl ⟨by assumption, rfl⟩ | exact Or.inr ⟨by assumption, rfl⟩, by rw [htQ]; exact hP9, va_K.moved hWQ.alike hK9, hD9⟩, hS.F htQ⟩) hS.2.2 dX12_emits_56

noncomputable def TP (f : Nat → Int32) (E : Nat) (ss : Nat → Nat) : Prop := (∀ p, p < E → f (91 + p) = nI (ss p)) ∧ (∀ p, E ≤ p → ss p = 0) ∧ ∀ p, ss p < 128
theorem TP.eq {f : Nat → Int32} {E p c : Nat} {ss : Nat → Nat} (h : TP f E ss) (hc : 0 < c) (hc2 : c < 128) : hv f p E = nI c ↔ ss p = c := by
  by_cases q : p < E
  · rw [hv, if_pos q, h.1 p q]; exact nI_eq (by have := h.2.2 p; omega) (by omega)
  · rw [hv, if_neg q]; exact ⟨fun e => absurd e.symm (nI_nm1 (by omega)), fun e => by have := h.2.1 p (by omega); omega⟩
theorem TP.nd {f : Nat → Int32} {E p : Nat} {ss : Nat → Nat} (h : TP f E ss) (hn : hv f p E < 48 ∨ 57 < hv f p E) : ¬ isD (ss p) := fun q => by
  have hp : p < E := Nat.lt_of_not_le (fun z => by have := h.2.1 p z; omega)
  rw [hv, if_pos hp, h.1 p hp] at hn
  have h8 := h.2.2 p
  rcases hn with z | z
  · have := (nI_ltI (a := ss p) (b := 48) (by omega) (by omega)).mp z; omega
  · have := (nI_ltI (a := 57) (b := ss p) (by omega) (by omega)).mp z; omega
theorem TP_PF {f g : Nat → Int32} {a E : Nat} {ss : Nat → Nat} (h : TP f E ss) (hE : E ≤ 100) (hF : PF a f g) : TP g E ss := ⟨fun p hp => (hF _ (by omega) (by omega)).trans (h.1 p hp), h.2.1, h.2.2⟩
theorem TP_PQ {f g : Nat → Int32} {a E : Nat} {ss : Nat → Nat} (h : TP f E ss) (hE : E ≤ 100) (hF : PQ a f g) : TP g E ss := ⟨fun p hp => (hF _ (by omega) (by omega) (by omega)).trans (h.1 p hp), h.2.1, h.2.2⟩
theorem dr_c {T : List Nat} {j : Nat} (h : j < T.length) : T.drop j = T.getD j 0 :: T.drop (j + 1) := by
  rw [List.drop_eq_getElem_cons h, List.getD_eq_getElem?_getD, List.getElem?_eq_getElem h]; rfl
section
variable {ss : Nat → Nat} {p j : Nat} {T : List Nat}
theorem ml_hit (h : mlen ss p T = j + mlen ss (p + j) (T.drop j)) (hj : j < T.length) (e : ss (p + j) = T.getD j 0) : mlen ss p T = (j + 1) + mlen ss (p + (j + 1)) (T.drop (j + 1)) := by
  rw [h, dr_c hj, mlen, if_pos e, show p + j + 1 = p + (j + 1) from Nat.add_assoc _ _ _]; omega
theorem ml_miss (h : mlen ss p T = j + mlen ss (p + j) (T.drop j)) (hj : j < T.length) (e : ¬ ss (p + j) = T.getD j 0) : mlen ss p T = j := by
  rw [h, dr_c hj, mlen, if_neg e]; rfl
theorem ml_all (h : mlen ss p T = j + mlen ss (p + j) (T.drop j)) (hj : T.length ≤ j) : mlen ss p T = j := by
  rw [h, List.drop_eq_nil_of_le hj]; rfl
theorem ml_0 : mlen ss p T = 0 + mlen ss (p + 0) (T.drop 0) := by rw [Nat.zero_add]; rfl
end
theorem am6_y {c j : Nat} (hj : j < 6) (e : c = (sTx 6).getD j 0) : ix6 c = some j := by subst e; exact (by decide : ∀ j, j < 6 → ix6 ((sTx 6).getD j 0) = some j) j hj
theorem am3_y {c j : Nat} (hj : j < 3) (e : c = (sTx 7).getD j 0) : ix3 c = some j := by subst e; exact (by decide : ∀ j, j < 3 → ix3 ((sTx 7).getD j 0) = some j) j hj
theorem am6_n {c : Nat} (h : ∀ q, q < 6 → ¬ c = (sTx 6).getD q 0) : ix6 c = none := by
  rw [ix6, if_neg (show ¬ c = 104 from h 0 (by decide)), if_neg (show ¬ c = 107 from h 1 (by decide)), if_neg (show ¬ c = 114 from h 2 (by decide)), if_neg (show ¬ c = 99 from h 3 (by decide)), if_neg (show ¬ c = 109 from h 4 (by decide)), if_neg (show ¬ c = 115 from h 5 (by decide))]
theorem am3_n {c : Nat} (h : ∀ q, q < 3 → ¬ c = (sTx 7).getD q 0) : ix3 c = none := by
  rw [ix3, if_neg (show ¬ c = 60 from h 0 (by decide)), if_neg (show ¬ c = 61 from h 1 (by decide)), if_neg (show ¬ c = 62 from h 2 (by decide))]
theorem pn_t1 {ss : Nat → Nat} {p v q : Nat} (h : isD (ss p)) (h2 : ¬ (48 < ss p ∧ isD (ss (p + 1)))) (e : v = ss p - 48) (e2 : q = p + 1) : pNum ss p = (some v, q) := by subst e; subst e2; exact pn_1 h h2
theorem pn_t2 {ss : Nat → Nat} {p v q : Nat} (h : isD (ss p)) (h2 : 48 < ss p ∧ isD (ss (p + 1))) (e : v = (ss p - 48) * 10 + (ss (p + 1) - 48)) (e2 : q = p + 2) : pNum ss p = (some v, q) := by subst e; subst e2; exact pn_2 h h2

set_option maxHeartbeats 4000000 in
set_option maxRecDepth 100000 in
theorem c_spells (l : Launch) (dC : Nat → ClassId) (dI : Nat → Nat → Nat) (sK sV : Nat → Nat) (m0 aS aI aB aT aG aO aN aD aY : Nat) (th im ac sp en wg op se dn rn kd nu tv : Int32) (bv : Int64) (cS : ClassId) (fS : Nat → Int32) (a p0 E : Nat) (i : Nat) (ss : Nat → Nat) (sz : Nat) (ga : a < 5) (gE : E ≤ 100) (gp : p0 ≤ E) (hi12 : i < 12) (gT : TP fS E ss) : Met l yX12_spells wsX12_spells ({ frames := 4, cells := 0, slots := 0, locals := 85 } : Room) (va_Pc [.ref m0, .ref (sK i)] (fun U => U.heap.size = sz ∧ va_P (dC, dI) vwCl [(zo14irriiiiiirriirrrrlriiii m0 th aS aI im (nI a) (nI p0) (nI E) 0 op aB aT se dn aG aO aN aD bv aY rn kd nu tv), (zaI aS cS 901 fS)] U.heap ∧ va_K (dC, dI) vwCl [(cS, .int)] U ∧ va_D (fun _ => True) [(zo14irriiiiiirriirrrrlriiii m0 th aS aI im (nI a) (nI p0) (nI E) 0 op aB aT se dn aG aO aN aD bv aY rn kd nu tv), (zaI aS cS 901 fS)] ∧ Gs sK sV (va_A [(zo14irriiiiiirriirrrrlriiii m0 th aS aI im (nI a) (nI p0) (nI E) 0 op aB aT se dn aG aO aN aD bv aY rn kd nu tv), (zaI aS cS 901 fS)] sz) U)) (va_Qv (fun (u : (Int32) × (Int32)) => match u with | (sp9, wg9) => p0 + mlen ss p0 (sTx i) ≤ E ∧ sp9 = nI (p0 + mlen ss p0 (sTx i)) ∧ ((wg9 = 0 ∧ mlen ss p0 (sTx i) = sLen i) ∨ (wg9 = 1 ∧ mlen ss p0 (sTx i) < sLen i))) (fun (u : (Int32) × (Int32)) (t : State) => match u with | (sp9, wg9) => va_P (dC, dI) vwCl [(zo14irriiiiiirriirrrrlriiii m0 th aS aI im (nI a) sp9 (nI E) wg9 op aB aT se dn aG aO aN aD bv aY rn kd nu tv), (zaI aS cS 901 fS)] t.heap ∧ va_K (dC, dI) vwCl [(cS, .int)] t ∧ va_D (va_A [(zo14irriiiiiirriirrrrlriiii m0 th aS aI im (nI a) (nI p0) (nI E) 0 op aB aT se dn aG aO aN aD bv aY rn kd nu tv), (zaI aS cS 901 fS)] sz) [(zo14irriiiiiirriirrrrlriiii m0 th aS aI im (nI a) sp9 (nI E) wg9 op aB aT se dn aG aO aN aD bv aY rn kd nu tv), (zaI aS cS 901 fS)]) (va_A [(zo14irriiiiiirriirrrrlriiii m0 th aS aI im (nI a) (nI p0) (nI E) 0 op aB aT se dn aG aO aN aD bv aY rn kd nu tv), (zaI aS cS 901 fS)] sz)) 0 0 (va_A [(zo14irriiiiiirriirrrrlriiii m0 th aS aI im (nI a) (nI p0) (nI E) 0 op aB aT se dn aG aO aN aD bv aY rn kd nu tv), (zaI aS cS 901 fS)] sz) := by
  refine met_ofQ (cc := cX12_spells) (maxL := 3) (ret := none) (by decide) rfl ?_
  intro p e s m args below meth c s₁ Q B hml hv hQ
  obtain ⟨rfl, hsz, hP, hK, hD0, hE⟩ := hv
  have hx := B.exec
  have hb := B.bytes
  have hr := B.returns
  have hts := atoms_spec (ws := wsX12_spells) B.pre
  have hown : s.vm.findClass RX12 = some m.cls := findClass_of_methodNamed B.named
  have hlocks := B.notSynchronized
  subst hsz
  have hD := hD0.self (sz := s.heap.size)
  generalize hAe : va_A [(zo14irriiiiiirriirrrrlriiii m0 th aS aI im (nI a) (nI p0) (nI E) 0 op aB aT se dn aG aO aN aD bv aY rn kd nu tv), (zaI aS cS 901 fS)] s.heap.size = A at hD hQ hE ⊢
  have hA : ∀ q : Nat, s.heap.size ≤ q → A q := fun q h => by rw [← hAe]; exact Or.inr h
  have hS : va_S A s.heap s.heap [] := va_S.rf
  have hl := lv_entry [.ref m0, .ref (sK i)] (n := 3) (Nat.le_of_ble_eq_true rfl)
  rw [lg_entry_eq]
  generalize (lg_sl [.ref m0, .ref (sK i)] ++ List.replicate (3 - (lg_sl [.ref m0, .ref (sK i)]).length) Slot.unset).toArray = ls at hl ⊢
  generalize hag : ([.ref m0, .ref (sK i)] : List Value).toArray = args at hts hQ ⊢
  have hl : lv_has ls 3 [(0, .ref m0), (1, .ref (sK i))] := hl
  obtain ⟨H, hH⟩ : ∃ H : Heap, H = s.heap := ⟨_, rfl⟩
  rw [← hH] at hP
  rw [← hH]
  have hS : va_S A s.heap H [] := by rw [hH]; exact hS
  obtain ⟨locs, hlo⟩ : ∃ L : List Loc, L = [] := ⟨_, rfl⟩
  rw [← hlo] at hS
  rw [← hlo]
  clear hH hlo
  have hs7 := sLen_lt hi12
  refine lv_iconst (v := 0) hx hb dX12_spells_0 (by decide) ?_
  refine lv_istore_n (lv' := [(2, .int 0), (0, .ref m0), (1, .ref (sK i))]) hx hb dX12_spells_1 rfl hl (by decide) rfl (fun ls hl => ?_)
  have L2 : ∀ (nF : Nat) (j : Nat) (p1 : Nat) (w1 : Int32), sLen i - j < nF → (j ≤ sLen i) → ((w1 = 0 ∧ p1 = p0 + j ∧ p1 ≤ E ∧ mlen ss p0 (sTx i) = j + mlen ss (p0 + j) ((sTx i).drop j)) ∨ (w1 = 1 ∧ p1 = p0 + mlen ss p0 (sTx i) ∧ mlen ss p0 (sTx i) < sLen i ∧ p1 ≤ E)) → ∀ (H : Heap) (locs : List Loc), va_K (dC, dI) vwCl [(cS, .int)] s → va_P (dC, dI) vwCl [(zo14irriiiiiirriirrrrlriiii m0 th aS aI im (nI a) (nI p1) (nI E) w1 op aB aT se dn aG aO aN aD bv aY rn kd nu tv), (zaI aS cS 901 fS)] H → va_D A [(zo14irriiiiiirriirrrrlriiii m0 th aS aI im (nI a) (nI p1) (nI E) w1 op aB aT se dn aG aO aN aD bv aY rn kd nu tv), (zaI aS cS 901 fS)] → va_S A s.heap H locs → ∀ (ls : Array Slot), lv_has ls 3 [(0, .ref m0), (1, .ref (sK i)), (2, .int (nI j))] → W p l e ({ frames := 4, cells := 0, slots := 0, locals := 85 } : Room) s m args below meth c H locs 0 0 Q (F0 m 2 ls []) := by
    intro nF
    induction nF with
    | zero => intro j p1 w1 hm; exact absurd hm (Nat.not_lt_zero _)
    | succ nF ih2 =>
      intro j p1 w1 hm hj z1 H locs hK hP hD hS ls hl
      rcases z1 with ⟨rfl, rfl, hpE, hML⟩ | ⟨rfl, rfl, hlt9, hpE⟩
      · skip
        refine lv_iload_n hx hb dX12_spells_2 rfl (lv_at hl 2 rfl) ?_
        refine lv_aload_n hx hb dX12_spells_3 rfl (lv_at hl 1 rfl) ?_
        refine vp_callSi (va_runV (As := []) (rest := [.int (nI j)]) ⟨hx, hb, hml, hown, hts⟩ (c_len l dC dI sK sV i hi12) (cwV 0 hts gX12_spells_J0_length_8abf5 rfl rfl rfl hd_yJ0_length_8abf5 ⟨Nat.le_of_ble_eq_true rfl, Nat.le_of_ble_eq_true rfl⟩) ⟨fun a U g mk q => by obtain ⟨q0, qhE⟩ := q; exact ⟨q0, qhE.mv g mk a⟩, va_Orecv (hE.2.1 i hi12).1 hS, fun U hU hW => ⟨rfl, hE.callF hS hU hW⟩⟩ rfl rfl hl.1 rfl (lv_room (Nat.le_of_ble_eq_true rfl)) dX12_spells_4 ⟨Nat.le_of_ble_eq_true rfl, Nat.le_of_ble_eq_true rfl⟩).run (fun r_1 hw_2 => ?_)
        refine qi_as (y := nI (sLen i)) (hw_2) ?_
        refine lv_icmp_ge (tgt := 25) hx hb dX12_spells_7 (by decide) (fun c_3 => ?_) (fun c_3 => ?_)
        · skip
          have c_3 : (sLen i) ≤ j := (nI_leI (a := (sLen i)) (b := j) (by omega) (by omega)).mp c_3
          rw [hQ]
          have hP9 := hP.sub (ws' := [(zo14irriiiiiirriirrrrlriiii m0 th aS aI im (nI a) (nI (p0 + j)) (nI E) 0 op aB aT se dn aG aO aN aD bv aY rn kd nu tv), (zaI aS cS 901 fS)]) [0, 1] rfl
          have hD9 := hD.sub (ws' := [(zo14irriiiiiirriirrrrlriiii m0 th aS aI im (nI a) (nI (p0 + j)) (nI E) 0 op aB aT se dn aG aO aN aD bv aY rn kd nu tv), (zaI aS cS 901 fS)]) [0, 1] (by decide) rfl
          have hK9 := hK.sub (tys' := [(cS, .int)]) [0] rfl
          exact W.vret hx hb hr (fun tQ htQ hWQ => ⟨⟨((nI (p0 + j)), 0), rfl, by have e9 := ml_all hML (by rw [sTx_len hi12]; omega); exact ⟨by omega, by rw [e9], Or.inl ⟨rfl, by omega⟩⟩, by rw [htQ]; exact hP9, va_K.moved hWQ.alike hK9, hD9⟩, hS.F htQ⟩) hS.2.2 dX12_spells_25
        · skip
          have c_3 : ¬ (sLen i) ≤ j := fun q => c_3 ((nI_leI (a := (sLen i)) (b := j) (by omega) (by omega)).mpr q)
          refine lv_aload_n hx hb dX12_spells_10 rfl (lv_at hl 0 rfl) ?_
          refine lv_aload_n hx hb dX12_spells_11 rfl (lv_at hl 1 rfl) ?_
          refine lv_iload_n hx hb dX12_spells_12 rfl (lv_at hl 2 rfl) ?_
          refine vp_callSi (va_runV (As := [.int (nI j)]) (rest := [.ref m0]) ⟨hx, hb, hml, hown, hts⟩ (c_charAt l dC dI sK sV i j hi12 (by omega)) (cwV 1 hts gX12_spells_J0_charAt_5068e rfl rfl rfl hd_yJ0_charAt_5068e ⟨Nat.le_of_ble_eq_true rfl, Nat.le_of_ble_eq_true rfl⟩) ⟨fun a U g mk q => by obtain ⟨q0, qhE⟩ := q; exact ⟨q0, qhE.mv g mk a⟩, va_Orecv (hE.2.1 i hi12).1 hS, fun U hU hW => ⟨rfl, hE.callF hS hU hW⟩⟩ rfl rfl hl.1 rfl (lv_room (Nat.le_of_ble_eq_true rfl)) dX12_spells_13 ⟨Nat.le_of_ble_eq_true rfl, Nat.le_of_ble_eq_true rfl⟩).run (fun r_4 hw_5 => ?_)
          obtain rfl := hw_5
          have hch := sTx_ch hi12 (k := j) (by omega)
          have hPc := hP.sub (ws' := [(zo14irriiiiiirriirrrrlriiii m0 th aS aI im (nI a) (nI (p0 + j)) (nI E) 0 op aB aT se dn aG aO aN aD bv aY rn kd nu tv), (zaI aS cS 901 fS)]) [0, 1] rfl
          have hDc := hD.sub (ws' := [(zo14irriiiiiirriirrrrlriiii m0 th aS aI im (nI a) (nI (p0 + j)) (nI E) 0 op aB aT se dn aG aO aN aD bv aY rn kd nu tv), (zaI aS cS 901 fS)]) [0, 1] (by decide) rfl
          have hKc := hK.sub (tys' := [(cS, .int)]) [0] rfl
          have hFc := va_free (wc := [(zo14irriiiiiirriirrrrlriiii m0 th aS aI im (nI a) (nI (p0 + j)) (nI E) 0 op aB aT se dn aG aO aN aD bv aY rn kd nu tv), (zaI aS cS 901 fS)]) hD hS hA [0, 1] rfl
          refine va_callv (va_runV (As := [.int (nI ((sTx i).getD j 0))]) (rest := []) ⟨hx, hb, hml, hown, hts⟩ (c_must l dC dI m0 aS aI aB aT aG aO aN aD aY th im (nI a) (nI (p0 + j)) (nI E) 0 op se dn rn kd nu tv bv cS fS a (p0 + j) E (nI ((sTx i).getD j 0)) H.size (by omega) (by omega) (by omega) (Or.inl rfl) (nI_nm1 (by omega))) (cwV 1 hts gX12_spells_X12_must rfl rfl rfl hd_yX12_must ⟨Nat.le_of_ble_eq_true rfl, Nat.le_of_ble_eq_true rfl⟩) ⟨fun a U g mk q => by obtain ⟨q0, q1, qP, qK, qD⟩ := q; exact ⟨q0, mvz g mk a q1, mvP g mk a qP, mvK g mk a qK, qD⟩, va_recv hK hP (ci := 14) (q := (RX12, TX12, 23)) (q0 := 0) rfl rfl, fun U hU hW => ⟨rfl, by rw [hU], by rw [hU]; exact hPc, va_K.moved hW.alike hKc, hDc.weaken (fun _ _ _ _ => trivial)⟩⟩ rfl rfl hl.1 rfl (lv_room (Nat.le_of_ble_eq_true rfl)) dX12_spells_16 ⟨Nat.le_of_ble_eq_true rfl, Nat.le_of_ble_eq_true rfl⟩) hS (fun q _ h => hFc q h) hFc (fun u tC H1 locs htC hvm hw_7 hB hz1 hk1 hS => ?_)
          obtain ⟨sp9_8, wg9_9⟩ := u
          try dsimp only at hw_7 hB
          obtain ⟨hP1, hK1, hD1⟩ := hB
          rw [htC] at hP1
          have hK1 := va_K.moved hvm.symm hK1
          obtain ⟨hP, hD⟩ := va_join (wr := []) (w1 := [(zo14irriiiiiirriirrrrlriiii m0 th aS aI im (nI a) sp9_8 (nI E) wg9_9 op aB aT se dn aG aO aN aD bv aY rn kd nu tv), (zaI aS cS 901 fS)]) hP hD [0, 1] [] rfl rfl (by decide) (by decide) hk1 hFc hP1 hD1
          have hK := (hK.sub (tys' := []) [] rfl).app hK1
          generalize H1 = H at hP hS ⊢
          have hP : va_P (dC, dI) vwCl [(zo14irriiiiiirriirrrrlriiii m0 th aS aI im (nI a) sp9_8 (nI E) wg9_9 op aB aT se dn aG aO aN aD bv aY rn kd nu tv), (zaI aS cS 901 fS)] H := hP
          have hD : va_D A [(zo14irriiiiiirriirrrrlriiii m0 th aS aI im (nI a) sp9_8 (nI E) wg9_9 op aB aT se dn aG aO aN aD bv aY rn kd nu tv), (zaI aS cS 901 fS)] := hD
          have hK : va_K (dC, dI) vwCl [(cS, .int)] s := hK
          rcases hw_7 with ⟨rfl, rfl, h_10⟩ | ⟨rfl, _, h_10, h_11, rfl⟩
          · skip
            have hm9 := ml_miss hML (by rw [sTx_len hi12]; omega) (fun z => h_10 rfl ((gT.eq (c := (sTx i).getD j 0) (by omega) (by omega)).mpr z))
            refine lv_iinc (v := nI (j + 1)) (lv' := [(2, .int (nI (j + 1))), (0, .ref m0), (1, .ref (sK i))]) hx hb dX12_spells_19 hl (k := 2) rfl (nI_add j 1) (by decide) rfl (fun ls hl => ?_)
            refine lv_goto (tgt := 2) hx hb dX12_spells_22 (by decide) ?_
            exact ih2 (j + 1) (p0 + j) (1) (by omega) (by omega) (Or.inr ⟨rfl, by rw [hm9], by omega, by omega⟩) _ _ (hK.sub [0] rfl) (hP.sub [0, 1] rfl) (hD.sub [0, 1] (by decide) rfl) hS ls (lv_sub hl [1, 2, 0] rfl)
          · skip
            have hm9 := ml_hit hML (by rw [sTx_len hi12]; omega) ((gT.eq (c := (sTx i).getD j 0) (by omega) (by omega)).mp h_10)
            refine lv_iinc (v := nI (j + 1)) (lv' := [(2, .int (nI (j + 1))), (0, .ref m0), (1, .ref (sK i))]) hx hb dX12_spells_19 hl (k := 2) rfl (nI_add j 1) (by decide) rfl (fun ls hl => ?_)
            refine lv_goto (tgt := 2) hx hb dX12_spells_22 (by decide) ?_
            exact ih2 (j + 1) ((p0 + j) + 1) (0) (by omega) (by omega) (Or.inl ⟨rfl, by omega, by omega, hm9⟩) _ _ (hK.sub [0] rfl) (hP.sub [0, 1] rfl) (hD.sub [0, 1] (by decide) rfl) hS ls (lv_sub hl [1, 2, 0] rfl)
      · skip
        refine lv_iload_n hx hb dX12_spells_2 rfl (lv_at hl 2 rfl) ?_
        refine lv_aload_n hx hb dX12_spells_3 rfl (lv_at hl 1 rfl) ?_
        refine vp_callSi (va_runV (As := []) (rest := [.int (nI j)]) ⟨hx, hb, hml, hown, hts⟩ (c_len l dC dI sK sV i hi12) (cwV 0 hts gX12_spells_J0_length_8abf5 rfl rfl rfl hd_yJ0_length_8abf5 ⟨Nat.le_of_ble_eq_true rfl, Nat.le_of_ble_eq_true rfl⟩) ⟨fun a U g mk q => by obtain ⟨q0, qhE⟩ := q; exact ⟨q0, qhE.mv g mk a⟩, va_Orecv (hE.2.1 i hi12).1 hS, fun U hU hW => ⟨rfl, hE.callF hS hU hW⟩⟩ rfl rfl hl.1 rfl (lv_room (Nat.le_of_ble_eq_true rfl)) dX12_spells_4 ⟨Nat.le_of_ble_eq_true rfl, Nat.le_of_ble_eq_true rfl⟩).run (fun r_12 hw_13 => ?_)
        refine qi_as (y := nI (sLen i)) (hw_13) ?_
        refine lv_icmp_ge (tgt := 25) hx hb dX12_spells_7 (by decide) (fun c_14 => ?_) (fun c_14 => ?_)
        · skip
          have c_14 : (sLen i) ≤ j := (nI_leI (a := (sLen i)) (b := j) (by omega) (by omega)).mp c_14
          rw [hQ]
          have hP9 := hP.sub (ws' := [(zo14irriiiiiirriirrrrlriiii m0 th aS aI im (nI a) (nI (p0 + mlen ss p0 (sTx i))) (nI E) 1 op aB aT se dn aG aO aN aD bv aY rn kd nu tv), (zaI aS cS 901 fS)]) [0, 1] rfl
          have hD9 := hD.sub (ws' := [(zo14irriiiiiirriirrrrlriiii m0 th aS aI im (nI a) (nI (p0 + mlen ss p0 (sTx i))) (nI E) 1 op aB aT se dn aG aO aN aD bv aY rn kd nu tv), (zaI aS cS 901 fS)]) [0, 1] (by decide) rfl
          have hK9 := hK.sub (tys' := [(cS, .int)]) [0] rfl
          exact W.vret hx hb hr (fun tQ htQ hWQ => ⟨⟨((nI (p0 + mlen ss p0 (sTx i))), 1), rfl, ⟨by omega, rfl, Or.inr ⟨rfl, hlt9⟩⟩, by rw [htQ]; exact hP9, va_K.moved hWQ.alike hK9, hD9⟩, hS.F htQ⟩) hS.2.2 dX12_spells_25
        · skip
          have c_14 : ¬ (sLen i) ≤ j := fun q => c_14 ((nI_leI (a := (sLen i)) (b := j) (by omega) (by omega)).mpr q)
          refine lv_aload_n hx hb dX12_spells_10 rfl (lv_at hl 0 rfl) ?_
          refine lv_aload_n hx hb dX12_spells_11 rfl (lv_at hl 1 rfl) ?_
          refine lv_iload_n hx hb dX12_spells_12 rfl (lv_at hl 2 rfl) ?_
          refine vp_callSi (va_runV (As := [.int (nI j)]) (rest := [.ref m0]) ⟨hx, hb, hml, hown, hts⟩ (c_charAt l dC dI sK sV i j hi12 (by omega)) (cwV 1 hts gX12_spells_J0_charAt_5068e rfl rfl rfl hd_yJ0_charAt_5068e ⟨Nat.le_of_ble_eq_true rfl, Nat.le_of_ble_eq_true rfl⟩) ⟨fun a U g mk q => by obtain ⟨q0, qhE⟩ := q; exact ⟨q0, qhE.mv g mk a⟩, va_Orecv (hE.2.1 i hi12).1 hS, fun U hU hW => ⟨rfl, hE.callF hS hU hW⟩⟩ rfl rfl hl.1 rfl (lv_room (Nat.le_of_ble_eq_true rfl)) dX12_spells_13 ⟨Nat.le_of_ble_eq_true rfl, Nat.le_of_ble_eq_true rfl⟩).run (fun r_15 hw_16 => ?_)
          obtain rfl := hw_16
          have hch := sTx_ch hi12 (k := j) (by omega)
          have hPc := hP.sub (ws' := [(zo14irriiiiiirriirrrrlriiii m0 th aS aI im (nI a) (nI (p0 + mlen ss p0 (sTx i))) (nI E) 1 op aB aT se dn aG aO aN aD bv aY rn kd nu tv), (zaI aS cS 901 fS)]) [0, 1] rfl
          have hDc := hD.sub (ws' := [(zo14irriiiiiirriirrrrlriiii m0 th aS aI im (nI a) (nI (p0 + mlen ss p0 (sTx i))) (nI E) 1 op aB aT se dn aG aO aN aD bv aY rn kd nu tv), (zaI aS cS 901 fS)]) [0, 1] (by decide) rfl
          have hKc := hK.sub (tys' := [(cS, .int)]) [0] rfl
          have hFc := va_free (wc := [(zo14irriiiiiirriirrrrlriiii m0 th aS aI im (nI a) (nI (p0 + mlen ss p0 (sTx i))) (nI E) 1 op aB aT se dn aG aO aN aD bv aY rn kd nu tv), (zaI aS cS 901 fS)]) hD hS hA [0, 1] rfl
          refine va_callv (va_runV (As := [.int (nI ((sTx i).getD j 0))]) (rest := []) ⟨hx, hb, hml, hown, hts⟩ (c_must l dC dI m0 aS aI aB aT aG aO aN aD aY th im (nI a) (nI (p0 + mlen ss p0 (sTx i))) (nI E) 1 op se dn rn kd nu tv bv cS fS a (p0 + mlen ss p0 (sTx i)) E (nI ((sTx i).getD j 0)) H.size (by omega) (by omega) (by omega) (Or.inr rfl) (nI_nm1 (by omega))) (cwV 1 hts gX12_spells_X12_must rfl rfl rfl hd_yX12_must ⟨Nat.le_of_ble_eq_true rfl, Nat.le_of_ble_eq_true rfl⟩) ⟨fun a U g mk q => by obtain ⟨q0, q1, qP, qK, qD⟩ := q; exact ⟨q0, mvz g mk a q1, mvP g mk a qP, mvK g mk a qK, qD⟩, va_recv hK hP (ci := 14) (q := (RX12, TX12, 23)) (q0 := 0) rfl rfl, fun U hU hW => ⟨rfl, by rw [hU], by rw [hU]; exact hPc, va_K.moved hW.alike hKc, hDc.weaken (fun _ _ _ _ => trivial)⟩⟩ rfl rfl hl.1 rfl (lv_room (Nat.le_of_ble_eq_true rfl)) dX12_spells_16 ⟨Nat.le_of_ble_eq_true rfl, Nat.le_of_ble_eq_true rfl⟩) hS (fun q _ h => hFc q h) hFc (fun u tC H1 locs htC hvm hw_18 hB hz1 hk1 hS => ?_)
          obtain ⟨sp9_19, wg9_20⟩ := u
          try dsimp only at hw_18 hB
          obtain ⟨hP1, hK1, hD1⟩ := hB
          rw [htC] at hP1
          have hK1 := va_K.moved hvm.symm hK1
          obtain ⟨hP, hD⟩ := va_join (wr := []) (w1 := [(zo14irriiiiiirriirrrrlriiii m0 th aS aI im (nI a) sp9_19 (nI E) wg9_20 op aB aT se dn aG aO aN aD bv aY rn kd nu tv), (zaI aS cS 901 fS)]) hP hD [0, 1] [] rfl rfl (by decide) (by decide) hk1 hFc hP1 hD1
          have hK := (hK.sub (tys' := []) [] rfl).app hK1
          generalize H1 = H at hP hS ⊢
          have hP : va_P (dC, dI) vwCl [(zo14irriiiiiirriirrrrlriiii m0 th aS aI im (nI a) sp9_19 (nI E) wg9_20 op aB aT se dn aG aO aN aD bv aY rn kd nu tv), (zaI aS cS 901 fS)] H := hP
          have hD : va_D A [(zo14irriiiiiirriirrrrlriiii m0 th aS aI im (nI a) sp9_19 (nI E) wg9_20 op aB aT se dn aG aO aN aD bv aY rn kd nu tv), (zaI aS cS 901 fS)] := hD
          have hK : va_K (dC, dI) vwCl [(cS, .int)] s := hK
          obtain ⟨rfl, rfl⟩ : _ ∧ _ := by rcases hw_18 with ⟨q, q2, _⟩ | ⟨_, q, _⟩; exact ⟨q, q2⟩; exact absurd q (by decide)
          refine lv_iinc (v := nI (j + 1)) (lv' := [(2, .int (nI (j + 1))), (0, .ref m0), (1, .ref (sK i))]) hx hb dX12_spells_19 hl (k := 2) rfl (nI_add j 1) (by decide) rfl (fun ls hl => ?_)
          refine lv_goto (tgt := 2) hx hb dX12_spells_22 (by decide) ?_
          exact ih2 (j + 1) (p0 + mlen ss p0 (sTx i)) (1) (by omega) (by omega) (Or.inr ⟨rfl, rfl, by omega, by omega⟩) _ _ (hK.sub [0] rfl) (hP.sub [0, 1] rfl) (hD.sub [0, 1] (by decide) rfl) hS ls (lv_sub hl [1, 2, 0] rfl)
  exact L2 _ (0) (p0) (0) (Nat.lt_succ_self _) (by omega) (Or.inl ⟨rfl, rfl, by omega, ml_0⟩) _ _ (hK.sub [0] rfl) (hP.sub [0, 1] rfl) (hD.sub [0, 1] (by decide) rfl) hS ls (lv_sub hl [1, 2, 0] rfl)

theorem am_step {c j : Nat} {T : List Nat} (h : ∀ q, q < j → ¬ c = T.getD q 0) (h2 : ¬ c = T.getD j 0) : ∀ q, q < j + 1 → ¬ c = T.getD q 0 := by
  intro q hq
  by_cases z : q = j
  · rw [z]; exact h2
  · exact h q (by omega)

theorem kc_among_0 : ∀ w ∈ wsX120, w ∈ wsX12_among := fun w h => List.mem_cons_of_mem _ (gin_wsX120 w h)
theorem kc_among_1 : (.fieldLink RX12 59 "MistHeapsModel" "spot" "I" : Cond) ∈ wsX12_among := kc_of 1145 rfl rfl rfl
set_option maxHeartbeats 4000000 in
set_option maxRecDepth 100000 in
theorem c_among (l : Launch) (dC : Nat → ClassId) (dI : Nat → Nat → Nat) (sK sV : Nat → Nat) (m0 aS aI aB aT aG aO aN aD aY : Nat) (th im ac sp en wg op se dn rn kd nu tv : Int32) (bv : Int64) (cS : ClassId) (fS : Nat → Int32) (a p0 E : Nat) (i : Nat) (ss : Nat → Nat) (sz : Nat) (ga : a < 5) (gE : E ≤ 100) (gp : p0 ≤ E) (hi12 : i < 12) (gT : TP fS E ss) : Met l yX12_among wsX12_among ({ frames := 4, cells := 0, slots := 0, locals := 85 } : Room) (va_Pc [.ref m0, .ref (sK i)] (fun U => U.heap.size = sz ∧ va_P (dC, dI) vwCl [(zo14irriiiiiirriirrrrlriiii m0 th aS aI im (nI a) (nI p0) (nI E) wg op aB aT se dn aG aO aN aD bv aY rn kd nu tv), (zaI aS cS 901 fS)] U.heap ∧ va_K (dC, dI) vwCl [(cS, .int)] U ∧ va_D (fun _ => True) [(zo14irriiiiiirriirrrrlriiii m0 th aS aI im (nI a) (nI p0) (nI E) wg op aB aT se dn aG aO aN aD bv aY rn kd nu tv), (zaI aS cS 901 fS)] ∧ Gs sK sV (va_A [(zo14irriiiiiirriirrrrlriiii m0 th aS aI im (nI a) (nI p0) (nI E) wg op aB aT se dn aG aO aN aD bv aY rn kd nu tv), (zaI aS cS 901 fS)] sz) U)) (va_Qi (fun (r : Int32) (u : Int32) => match u with | sp9 => (r = -1 ∧ sp9 = nI p0 ∧ ∀ q, q < sLen i → ¬ ss p0 = (sTx i).getD q 0) ∨ (∃ j : Nat, j < sLen i ∧ r = nI j ∧ p0 < E ∧ sp9 = nI (p0 + 1) ∧ ss p0 = (sTx i).getD j 0)) (fun (u : Int32) (t : State) => match u with | sp9 => va_P (dC, dI) vwCl [(zo14irriiiiiirriirrrrlriiii m0 th aS aI im (nI a) sp9 (nI E) wg op aB aT se dn aG aO aN aD bv aY rn kd nu tv), (zaI aS cS 901 fS)] t.heap ∧ va_K (dC, dI) vwCl [(cS, .int)] t ∧ va_D (va_A [(zo14irriiiiiirriirrrrlriiii m0 th aS aI im (nI a) (nI p0) (nI E) wg op aB aT se dn aG aO aN aD bv aY rn kd nu tv), (zaI aS cS 901 fS)] sz) [(zo14irriiiiiirriirrrrlriiii m0 th aS aI im (nI a) sp9 (nI E) wg op aB aT se dn aG aO aN aD bv aY rn kd nu tv), (zaI aS cS 901 fS)]) (va_A [(zo14irriiiiiirriirrrrlriiii m0 th aS aI im (nI a) (nI p0) (nI E) wg op aB aT se dn aG aO aN aD bv aY rn kd nu tv), (zaI aS cS 901 fS)] sz)) 0 0 (va_A [(zo14irriiiiiirriirrrrlriiii m0 th aS aI im (nI a) (nI p0) (nI E) wg op aB aT se dn aG aO aN aD bv aY rn kd nu tv), (zaI aS cS 901 fS)] sz) := by
  refine met_ofQ (cc := cX12_among) (maxL := 3) (ret := (some .int)) (by decide) rfl ?_
  intro p e s m args below meth c s₁ Q B hml hv hQ
  obtain ⟨rfl, hsz, hP, hK, hD0, hE⟩ := hv
  have hx := B.exec
  have hb := B.bytes
  have hr := B.returns
  have hts := atoms_spec (ws := wsX12_among) B.pre
  have hown : s.vm.findClass RX12 = some m.cls := findClass_of_methodNamed B.named
  have hlocks := B.notSynchronized
  subst hsz
  have hD := hD0.self (sz := s.heap.size)
  generalize hAe : va_A [(zo14irriiiiiirriirrrrlriiii m0 th aS aI im (nI a) (nI p0) (nI E) wg op aB aT se dn aG aO aN aD bv aY rn kd nu tv), (zaI aS cS 901 fS)] s.heap.size = A at hD hQ hE ⊢
  have hA : ∀ q : Nat, s.heap.size ≤ q → A q := fun q h => by rw [← hAe]; exact Or.inr h
  have hS : va_S A s.heap s.heap [] := va_S.rf
  have hl := lv_entry [.ref m0, .ref (sK i)] (n := 3) (Nat.le_of_ble_eq_true rfl)
  rw [lg_entry_eq]
  generalize (lg_sl [.ref m0, .ref (sK i)] ++ List.replicate (3 - (lg_sl [.ref m0, .ref (sK i)]).length) Slot.unset).toArray = ls at hl ⊢
  generalize hag : ([.ref m0, .ref (sK i)] : List Value).toArray = args at hts hQ ⊢
  have hl : lv_has ls 3 [(0, .ref m0), (1, .ref (sK i))] := hl
  obtain ⟨H, hH⟩ : ∃ H : Heap, H = s.heap := ⟨_, rfl⟩
  rw [← hH] at hP
  rw [← hH]
  have hS : va_S A s.heap H [] := by rw [hH]; exact hS
  obtain ⟨locs, hlo⟩ : ∃ L : List Loc, L = [] := ⟨_, rfl⟩
  rw [← hlo] at hS
  rw [← hlo]
  clear hH hlo
  have hs7 := sLen_lt hi12
  refine lv_iconst (v := 0) hx hb dX12_among_0 (by decide) ?_
  refine lv_istore_n (lv' := [(2, .int 0), (0, .ref m0), (1, .ref (sK i))]) hx hb dX12_among_1 rfl hl (by decide) rfl (fun ls hl => ?_)
  have L2 : ∀ (nF : Nat) (j : Nat), sLen i - j < nF → (j ≤ sLen i) → (∀ q, q < j → ¬ ss p0 = (sTx i).getD q 0) → ∀ (H : Heap) (locs : List Loc), va_K (dC, dI) vwCl [(cS, .int)] s → va_P (dC, dI) vwCl [(zo14irriiiiiirriirrrrlriiii m0 th aS aI im (nI a) (nI p0) (nI E) wg op aB aT se dn aG aO aN aD bv aY rn kd nu tv), (zaI aS cS 901 fS)] H → va_D A [(zo14irriiiiiirriirrrrlriiii m0 th aS aI im (nI a) (nI p0) (nI E) wg op aB aT se dn aG aO aN aD bv aY rn kd nu tv), (zaI aS cS 901 fS)] → va_S A s.heap H locs → ∀ (ls : Array Slot), lv_has ls 3 [(0, .ref m0), (1, .ref (sK i)), (2, .int (nI j))] → W p l e ({ frames := 4, cells := 0, slots := 0, locals := 85 } : Room) s m args below meth c H locs 0 0 Q (F0 m 2 ls []) := by
    intro nF
    induction nF with
    | zero => intro j hm; exact absurd hm (Nat.not_lt_zero _)
    | succ nF ih2 =>
      intro j hm hj hq9 H locs hK hP hD hS ls hl
      refine lv_iload_n hx hb dX12_among_2 rfl (lv_at hl 2 rfl) ?_
      refine lv_aload_n hx hb dX12_among_3 rfl (lv_at hl 1 rfl) ?_
      refine vp_callSi (va_runV (As := []) (rest := [.int (nI j)]) ⟨hx, hb, hml, hown, hts⟩ (c_len l dC dI sK sV i hi12) (cwV 0 hts gX12_among_J0_length_8abf5 rfl rfl rfl hd_yJ0_length_8abf5 ⟨Nat.le_of_ble_eq_true rfl, Nat.le_of_ble_eq_true rfl⟩) ⟨fun a U g mk q => by obtain ⟨q0, qhE⟩ := q; exact ⟨q0, qhE.mv g mk a⟩, va_Orecv (hE.2.1 i hi12).1 hS, fun U hU hW => ⟨rfl, hE.callF hS hU hW⟩⟩ rfl rfl hl.1 rfl (lv_room (Nat.le_of_ble_eq_true rfl)) dX12_among_4 ⟨Nat.le_of_ble_eq_true rfl, Nat.le_of_ble_eq_true rfl⟩).run (fun r_1 hw_2 => ?_)
      refine qi_as (y := nI (sLen i)) (hw_2) ?_
      refine lv_icmp_ge (tgt := 40) hx hb dX12_among_7 (by decide) (fun c_3 => ?_) (fun c_3 => ?_)
      · skip
        have c_3 : (sLen i) ≤ j := (nI_leI (a := (sLen i)) (b := j) (by omega) (by omega)).mp c_3
        refine lv_iconst (v := (-1)) hx hb dX12_among_40 (by decide) ?_
        rw [hQ]
        have hP9 := hP.sub (ws' := [(zo14irriiiiiirriirrrrlriiii m0 th aS aI im (nI a) (nI p0) (nI E) wg op aB aT se dn aG aO aN aD bv aY rn kd nu tv), (zaI aS cS 901 fS)]) [0, 1] rfl
        have hD9 := hD.sub (ws' := [(zo14irriiiiiirriirrrrlriiii m0 th aS aI im (nI a) (nI p0) (nI E) wg op aB aT se dn aG aO aN aD bv aY rn kd nu tv), (zaI aS cS 901 fS)]) [0, 1] (by decide) rfl
        have hK9 := hK.sub (tys' := [(cS, .int)]) [0] rfl
        exact W.iret (v := (-1)) hx hb hr (fun tQ htQ hWQ => ⟨⟨(-1), (nI p0), rfl, by first | exact Or.inr ⟨_, by omega, rfl, hlt, rfl, hs9⟩ | exact Or.inl ⟨rfl, rfl, fun q hq => hq9 q (by omega)⟩, by rw [htQ]; exact hP9, va_K.moved hWQ.alike hK9, hD9⟩, hS.F htQ⟩) hS.2.2 dX12_among_41
      · skip
        have c_3 : ¬ (sLen i) ≤ j := fun q => c_3 ((nI_leI (a := (sLen i)) (b := j) (by omega) (by omega)).mpr q)
        refine lv_aload_n hx hb dX12_among_10 rfl (lv_at hl 0 rfl) ?_
        have hPc := hP.sub (ws' := [(zo14irriiiiiirriirrrrlriiii m0 th aS aI im (nI a) (nI p0) (nI E) wg op aB aT se dn aG aO aN aD bv aY rn kd nu tv), (zaI aS cS 901 fS)]) [0, 1] rfl
        have hKc := hK.sub (tys' := [(cS, .int)]) [0] rfl
        refine vp_callSi (va_runV (As := []) (rest := []) ⟨hx, hb, hml, hown, hts⟩ (c_here l dC dI m0 aS aI aB aT aG aO aN aD aY th im (nI a) (nI p0) (nI E) wg op se dn rn kd nu tv bv cS fS a p0 E (by omega) (by omega) (by omega)) (cwV 0 hts gX12_among_X12_here rfl rfl rfl hd_yX12_here ⟨Nat.le_of_ble_eq_true rfl, Nat.le_of_ble_eq_true rfl⟩) ⟨fun a U g mk q => by obtain ⟨q0, qP, qK⟩ := q; exact ⟨q0, mvP g mk a qP, mvK g mk a qK⟩, va_recv hK hP (ci := 14) (q := (RX12, TX12, 23)) (q0 := 0) rfl rfl, fun U hU hW => ⟨rfl, by rw [hU]; exact hPc, va_K.moved hW.alike hKc⟩⟩ rfl rfl hl.1 rfl (lv_room (Nat.le_of_ble_eq_true rfl)) dX12_among_11 ⟨Nat.le_of_ble_eq_true rfl, Nat.le_of_ble_eq_true rfl⟩).run (fun r_4 hw_5 => ?_)
        refine lv_aload_n hx hb dX12_among_14 rfl (lv_at hl 1 rfl) ?_
        refine lv_iload_n hx hb dX12_among_15 rfl (lv_at hl 2 rfl) ?_
        refine vp_callSi (va_runV (As := [.int (nI j)]) (rest := [.int r_4]) ⟨hx, hb, hml, hown, hts⟩ (c_charAt l dC dI sK sV i j hi12 (by omega)) (cwV 1 hts gX12_among_J0_charAt_5068e rfl rfl rfl hd_yJ0_charAt_5068e ⟨Nat.le_of_ble_eq_true rfl, Nat.le_of_ble_eq_true rfl⟩) ⟨fun a U g mk q => by obtain ⟨q0, qhE⟩ := q; exact ⟨q0, qhE.mv g mk a⟩, va_Orecv (hE.2.1 i hi12).1 hS, fun U hU hW => ⟨rfl, hE.callF hS hU hW⟩⟩ rfl rfl hl.1 rfl (lv_room (Nat.le_of_ble_eq_true rfl)) dX12_among_16 ⟨Nat.le_of_ble_eq_true rfl, Nat.le_of_ble_eq_true rfl⟩).run (fun r_6 hw_7 => ?_)
        obtain rfl := hw_7
        have hch := sTx_ch hi12 (k := j) (by omega)
        refine lv_icmp_ne (tgt := 34) hx hb dX12_among_19 (by decide) (fun c_8 => ?_) (fun c_8 => ?_)
        · skip
          have hs9 : ¬ ss p0 = (sTx i).getD j 0 := fun z => c_8 (by rw [hw_5]; exact (gT.eq (p := p0) (c := (sTx i).getD j 0) (by omega) (by omega)).mpr z)
          refine lv_iinc (v := nI (j + 1)) (lv' := [(2, .int (nI (j + 1))), (0, .ref m0), (1, .ref (sK i))]) hx hb dX12_among_34 hl (k := 2) rfl (nI_add j 1) (by decide) rfl (fun ls hl => ?_)
          refine lv_goto (tgt := 2) hx hb dX12_among_37 (by decide) ?_
          exact ih2 (j + 1) (by omega) (by omega) (am_step hq9 hs9) _ _ (hK.sub [0] rfl) (hP.sub [0, 1] rfl) (hD.sub [0, 1] (by decide) rfl) hS ls (lv_sub hl [1, 2, 0] rfl)
        · skip
          have hs9 := (gT.eq (p := p0) (c := (sTx i).getD j 0) (by omega) (by omega)).mp (by rw [← hw_5]; exact c_8)
          have hlt : p0 < E := Nat.lt_of_not_le (fun z => by have := gT.2.1 p0 z; omega)
          refine lv_aload_n hx hb dX12_among_22 rfl (lv_at hl 0 rfl) ?_
          refine lv_dup hx hb dX12_among_23 rfl ?_
          refine va_get (D := (dC, dI)) (ci := 14) (v := .int (nI p0)) (C := RX12) (T := TX12) (N := 23) hx hb hts kc_among_0 hown hK hP 0 rfl rfl 5 (by decide) (hts (.fieldLink RX12 59 "MistHeapsModel" "spot" "I") kc_among_1) (fun _ h9 => h9) rfl dX12_among_24 ?_
          refine lv_iconst (v := 1) hx hb dX12_among_27 (by decide) ?_
          refine lv_iadd hx hb dX12_among_28 ?_
          refine qi_as (y := nI (p0 + 1)) (nI_add p0 1) ?_
          refine va_put (D := (dC, dI)) (ci := 14) (v := .int (nI (p0 + 1))) (ty := .int) (C := RX12) (T := TX12) (N := 23) hx hb hts kc_among_0 tyX12 tyX12_ok nmX12 hown hK hP hD hS 0 rfl rfl 5 (by decide) (hts (.fieldLink RX12 59 "MistHeapsModel" "spot" "I") kc_among_1) (fun _ h9 => h9) rfl (by decide +kernel) rfl rfl (Nat.le_of_ble_eq_true rfl) dX12_among_29 (fun H locs hP hD hS => ?_)
          have hP : va_P (dC, dI) vwCl [(zo14irriiiiiirriirrrrlriiii m0 th aS aI im (nI a) (nI (p0 + 1)) (nI E) wg op aB aT se dn aG aO aN aD bv aY rn kd nu tv), (zaI aS cS 901 fS)] H := hP
          have hD : va_D A [(zo14irriiiiiirriirrrrlriiii m0 th aS aI im (nI a) (nI (p0 + 1)) (nI E) wg op aB aT se dn aG aO aN aD bv aY rn kd nu tv), (zaI aS cS 901 fS)] := hD
          refine lv_iload_n hx hb dX12_among_32 rfl (lv_at hl 2 rfl) ?_
          rw [hQ]
          have hP9 := hP.sub (ws' := [(zo14irriiiiiirriirrrrlriiii m0 th aS aI im (nI a) (nI (p0 + 1)) (nI E) wg op aB aT se dn aG aO aN aD bv aY rn kd nu tv), (zaI aS cS 901 fS)]) [0, 1] rfl
          have hD9 := hD.sub (ws' := [(zo14irriiiiiirriirrrrlriiii m0 th aS aI im (nI a) (nI (p0 + 1)) (nI E) wg op aB aT se dn aG aO aN aD bv aY rn kd nu tv), (zaI aS cS 901 fS)]) [0, 1] (by decide) rfl
          have hK9 := hK.sub (tys' := [(cS, .int)]) [0] rfl
          exact W.iret (v := nI j) hx hb hr (fun tQ htQ hWQ => ⟨⟨(nI j), (nI (p0 + 1)), rfl, by first | exact Or.inr ⟨_, by omega, rfl, hlt, rfl, hs9⟩ | exact Or.inl ⟨rfl, rfl, fun q hq => hq9 q (by omega)⟩, by rw [htQ]; exact hP9, va_K.moved hWQ.alike hK9, hD9⟩, hS.F htQ⟩) hS.2.2 dX12_among_33
  exact L2 _ (0) (Nat.lt_succ_self _) (by omega) (fun q hq => absurd hq (Nat.not_lt_zero q)) _ _ (hK.sub [0] rfl) (hP.sub [0, 1] rfl) (hD.sub [0, 1] (by decide) rfl) hS ls (lv_sub hl [1, 2, 0] rfl)

theorem dig_of {r : Int32} (h1 : ¬ r < 48) (h2 : ¬ 57 < r) : ∃ g : Nat, g ≤ 9 ∧ r = nI (48 + g) := by
  obtain ⟨j, hj, rfl⟩ := nI_of2 (n := 57) (M := 57) rfl (fun q => h1 (Int32.lt_trans q (by decide))) (Int32.not_lt.mp h2)
  have h3 : ¬ j < 48 := fun q => h1 (nI_lt (b := 48) q (by omega))
  exact ⟨j - 48, by omega, congrArg nI (by omega)⟩

theorem kc_figures_0 : ∀ w ∈ wsX120, w ∈ wsX12_figures := fun w h => List.mem_cons_of_mem _ (gin_wsX120 w h)
theorem kc_figures_1 : (.fieldLink RX12 65 "MistHeapsModel" "isWrong" "Z" : Cond) ∈ wsX12_figures := kc_of 1147 rfl rfl rfl
theorem kc_figures_2 : (.fieldLink RX12 59 "MistHeapsModel" "spot" "I" : Cond) ∈ wsX12_figures := kc_of 1145 rfl rfl rfl
set_option maxHeartbeats 4000000 in
set_option maxRecDepth 100000 in
theorem c_figures (l : Launch) (dC : Nat → ClassId) (dI : Nat → Nat → Nat) (m0 aS aI aB aT aG aO aN aD aY : Nat) (th im ac sp en wg op se dn rn kd nu tv : Int32) (bv : Int64) (cS : ClassId) (fS : Nat → Int32) (a p0 E : Nat) (ss : Nat → Nat) (sz : Nat) (ga : a < 5) (gE : E ≤ 100) (gp : p0 ≤ E) (zw : wg = 0 ∨ wg = 1) (gT : TP fS E ss) : Met l yX12_figures wsX12_figures ({ frames := 1, cells := 0, slots := 0, locals := 22 } : Room) (va_Pc [.ref m0] (fun U => U.heap.size = sz ∧ va_P (dC, dI) vwCl [(zo14irriiiiiirriirrrrlriiii m0 th aS aI im (nI a) (nI p0) (nI E) wg op aB aT se dn aG aO aN aD bv aY rn kd nu tv), (zaI aS cS 901 fS)] U.heap ∧ va_K (dC, dI) vwCl [(cS, .int)] U ∧ va_D (fun _ => True) [(zo14irriiiiiirriirrrrlriiii m0 th aS aI im (nI a) (nI p0) (nI E) wg op aB aT se dn aG aO aN aD bv aY rn kd nu tv), (zaI aS cS 901 fS)])) (va_Qi (fun (r : Int32) (u : (Int32) × (Int32)) => match u with | (sp9, wg9) => (wg9 = 1 ∧ sp9 = nI p0 ∧ (wg = 0 → pNum ss p0 = (none, p0)) ∧ ∃ v : Nat, v ≤ 99 ∧ r = nI v) ∨ (wg9 = 0 ∧ wg = 0 ∧ ∃ v q : Nat, v ≤ 99 ∧ p0 < q ∧ q ≤ E ∧ r = nI v ∧ sp9 = nI q ∧ pNum ss p0 = (some v, q))) (fun (u : (Int32) × (Int32)) (t : State) => match u with | (sp9, wg9) => va_P (dC, dI) vwCl [(zo14irriiiiiirriirrrrlriiii m0 th aS aI im (nI a) sp9 (nI E) wg9 op aB aT se dn aG aO aN aD bv aY rn kd nu tv), (zaI aS cS 901 fS)] t.heap ∧ va_K (dC, dI) vwCl [(cS, .int)] t ∧ va_D (va_A [(zo14irriiiiiirriirrrrlriiii m0 th aS aI im (nI a) (nI p0) (nI E) wg op aB aT se dn aG aO aN aD bv aY rn kd nu tv), (zaI aS cS 901 fS)] sz) [(zo14irriiiiiirriirrrrlriiii m0 th aS aI im (nI a) sp9 (nI E) wg9 op aB aT se dn aG aO aN aD bv aY rn kd nu tv), (zaI aS cS 901 fS)]) (va_A [(zo14irriiiiiirriirrrrlriiii m0 th aS aI im (nI a) (nI p0) (nI E) wg op aB aT se dn aG aO aN aD bv aY rn kd nu tv), (zaI aS cS 901 fS)] sz)) 0 0 (va_A [(zo14irriiiiiirriirrrrlriiii m0 th aS aI im (nI a) (nI p0) (nI E) wg op aB aT se dn aG aO aN aD bv aY rn kd nu tv), (zaI aS cS 901 fS)] sz) := by
  refine met_ofQ (cc := cX12_figures) (maxL := 3) (ret := (some .int)) (by decide) rfl ?_
  intro p e s m args below meth c s₁ Q B hml hv hQ
  obtain ⟨rfl, hsz, hP, hK, hD0⟩ := hv
  have hx := B.exec
  have hb := B.bytes
  have hr := B.returns
  have hts := atoms_spec (ws := wsX12_figures) B.pre
  have hown : s.vm.findClass RX12 = some m.cls := findClass_of_methodNamed B.named
  have hlocks := B.notSynchronized
  subst hsz
  have hD := hD0.self (sz := s.heap.size)
  generalize hAe : va_A [(zo14irriiiiiirriirrrrlriiii m0 th aS aI im (nI a) (nI p0) (nI E) wg op aB aT se dn aG aO aN aD bv aY rn kd nu tv), (zaI aS cS 901 fS)] s.heap.size = A at hD hQ ⊢
  have hA : ∀ q : Nat, s.heap.size ≤ q → A q := fun q h => by rw [← hAe]; exact Or.inr h
  have hS : va_S A s.heap s.heap [] := va_S.rf
  have hl := lv_entry [.ref m0] (n := 3) (Nat.le_of_ble_eq_true rfl)
  rw [lg_entry_eq]
  generalize (lg_sl [.ref m0] ++ List.replicate (3 - (lg_sl [.ref m0]).length) Slot.unset).toArray = ls at hl ⊢
  generalize hag : ([.ref m0] : List Value).toArray = args at hts hQ ⊢
  have hl : lv_has ls 3 [(0, .ref m0)] := hl
  obtain ⟨H, hH⟩ : ∃ H : Heap, H = s.heap := ⟨_, rfl⟩
  rw [← hH] at hP
  rw [← hH]
  have hS : va_S A s.heap H [] := by rw [hH]; exact hS
  obtain ⟨locs, hlo⟩ : ∃ L : List Loc, L = [] := ⟨_, rfl⟩
  rw [← hlo] at hS
  rw [← hlo]
  clear hH hlo
  refine lv_aload_n hx hb dX12_figures_0 rfl (lv_at hl 0 rfl) ?_
  refine lv_aload_n hx hb dX12_figures_1 rfl (lv_at hl 0 rfl) ?_
  refine va_get (D := (dC, dI)) (ci := 14) (v := .int wg) (C := RX12) (T := TX12) (N := 23) hx hb hts kc_figures_0 hown hK hP 0 rfl rfl 7 (by decide) (hts (.fieldLink RX12 65 "MistHeapsModel" "isWrong" "Z") kc_figures_1) (fun _ h9 => h9) rfl dX12_figures_2 ?_
  refine lv_if_ne (tgt := 22) hx hb dX12_figures_5 (by decide) (fun c_1 => ?_) (fun c_1 => ?_)
  · skip
    refine lv_iconst (v := 1) hx hb dX12_figures_22 (by decide) ?_
    refine lv_goto (tgt := 27) hx hb dX12_figures_23 (by decide) ?_
    refine va_put (D := (dC, dI)) (ci := 14) (v := .int 1) (ty := .boolean) (C := RX12) (T := TX12) (N := 23) hx hb hts kc_figures_0 tyX12 tyX12_ok nmX12 hown hK hP hD hS 0 rfl rfl 7 (by decide) (hts (.fieldLink RX12 65 "MistHeapsModel" "isWrong" "Z") kc_figures_1) (fun _ h9 => h9) rfl (by decide +kernel) rfl rfl (Nat.le_of_ble_eq_true rfl) dX12_figures_27 (fun H locs hP hD hS => ?_)
    have hP : va_P (dC, dI) vwCl [(zo14irriiiiiirriirrrrlriiii m0 th aS aI im (nI a) (nI p0) (nI E) 1 op aB aT se dn aG aO aN aD bv aY rn kd nu tv), (zaI aS cS 901 fS)] H := hP
    have hD : va_D A [(zo14irriiiiiirriirrrrlriiii m0 th aS aI im (nI a) (nI p0) (nI E) 1 op aB aT se dn aG aO aN aD bv aY rn kd nu tv), (zaI aS cS 901 fS)] := hD
    refine lv_iconst (v := 0) hx hb dX12_figures_30 (by decide) ?_
    refine lv_istore_n (lv' := [(1, .int 0), (0, .ref m0)]) hx hb dX12_figures_31 rfl hl (by decide) rfl (fun ls hl => ?_)
    refine lv_iconst (v := 0) hx hb dX12_figures_32 (by decide) ?_
    refine lv_istore_n (lv' := [(2, .int 0), (1, .int 0), (0, .ref m0)]) hx hb dX12_figures_33 rfl hl (by decide) rfl (fun ls hl => ?_)
    refine lv_iload_n hx hb dX12_figures_34 rfl (lv_at hl 0 rfl) ?_
    refine lv_iconst (v := 2) hx hb dX12_figures_35 (by decide) ?_
    refine lv_icmp_ge (tgt := 97) hx hb dX12_figures_36 (by decide) (fun c_2 => absurd c_2 (by decide)) (fun _ => ?_)
    refine lv_aload_n hx hb dX12_figures_39 rfl (lv_at hl 2 rfl) ?_
    refine va_get (D := (dC, dI)) (ci := 14) (v := .int 1) (C := RX12) (T := TX12) (N := 23) hx hb hts kc_figures_0 hown hK hP 0 rfl rfl 7 (by decide) (hts (.fieldLink RX12 65 "MistHeapsModel" "isWrong" "Z") kc_figures_1) (fun _ h9 => h9) rfl dX12_figures_40 ?_
    refine lv_if_ne (tgt := 97) hx hb dX12_figures_43 (by decide) (fun _ => ?_) (fun c_3 => absurd c_3 (by decide))
    refine lv_iload_n hx hb dX12_figures_97 rfl (lv_at hl 1 rfl) ?_
    rw [hQ]
    have hP9 := hP.sub (ws' := [(zo14irriiiiiirriirrrrlriiii m0 th aS aI im (nI a) (nI p0) (nI E) 1 op aB aT se dn aG aO aN aD bv aY rn kd nu tv), (zaI aS cS 901 fS)]) [0, 1] rfl
    have hD9 := hD.sub (ws' := [(zo14irriiiiiirriirrrrlriiii m0 th aS aI im (nI a) (nI p0) (nI E) 1 op aB aT se dn aG aO aN aD bv aY rn kd nu tv), (zaI aS cS 901 fS)]) [0, 1] (by decide) rfl
    have hK9 := hK.sub (tys' := [(cS, .int)]) [0] rfl
    exact W.iret (v := 0) hx hb hr (fun tQ htQ hWQ => ⟨⟨0, ((nI p0), 1), rfl, Or.inl ⟨rfl, rfl, fun e => absurd e (by assumption), 0, by omega, rfl⟩, by rw [htQ]; exact hP9, va_K.moved hWQ.alike hK9, hD9⟩, hS.F htQ⟩) hS.2.2 dX12_figures_98
  · skip
    refine lv_aload_n hx hb dX12_figures_8 rfl (lv_at hl 0 rfl) ?_
    have hPc := hP.sub (ws' := [(zo14irriiiiiirriirrrrlriiii m0 th aS aI im (nI a) (nI p0) (nI E) wg op aB aT se dn aG aO aN aD bv aY rn kd nu tv), (zaI aS cS 901 fS)]) [0, 1] rfl
    have hKc := hK.sub (tys' := [(cS, .int)]) [0] rfl
    refine vp_callSi (va_runV (As := []) (rest := [.ref m0]) ⟨hx, hb, hml, hown, hts⟩ (c_here l dC dI m0 aS aI aB aT aG aO aN aD aY th im (nI a) (nI p0) (nI E) wg op se dn rn kd nu tv bv cS fS a p0 E (by omega) (by omega) (by omega)) (cwV 0 hts gX12_figures_X12_here rfl rfl rfl hd_yX12_here ⟨Nat.le_of_ble_eq_true rfl, Nat.le_of_ble_eq_true rfl⟩) ⟨fun a U g mk q => by obtain ⟨q0, qP, qK⟩ := q; exact ⟨q0, mvP g mk a qP, mvK g mk a qK⟩, va_recv hK hP (ci := 14) (q := (RX12, TX12, 23)) (q0 := 0) rfl rfl, fun U hU hW => ⟨rfl, by rw [hU]; exact hPc, va_K.moved hW.alike hKc⟩⟩ rfl rfl hl.1 rfl (lv_room (Nat.le_of_ble_eq_true rfl)) dX12_figures_9 ⟨Nat.le_of_ble_eq_true rfl, Nat.le_of_ble_eq_true rfl⟩).run (fun r_4 hw_5 => ?_)
    refine lv_bipush (v := 48) hx hb dX12_figures_12 (by decide) ?_
    refine lv_bipush (v := 57) hx hb dX12_figures_14 (by decide) ?_
    refine vp_callSi (va_runS (As := [.int r_4, .int 48, .int 57]) (rest := [.ref m0]) ⟨hx, hb, hml, hown, hts⟩ (c_in l dC dI r_4 48 57) (va_cwS 3 hts gX12_figures_X12_in rfl rfl rfl hd_yX12_in.2 ⟨Nat.le_of_ble_eq_true rfl, Nat.le_of_ble_eq_true rfl⟩) ⟨fun a U g mk q => ⟨q.1, trivial⟩, fun U hU hW => ⟨rfl, trivial⟩⟩ rfl rfl hl.1 rfl (lv_room (Nat.le_of_ble_eq_true rfl)) dX12_figures_16 ⟨Nat.le_of_ble_eq_true rfl, Nat.le_of_ble_eq_true rfl⟩).run (fun r_6 hw_7 => ?_)
    rcases hw_7 with ⟨rfl, h_8, h_9⟩ | ⟨rfl, h_10⟩
    · skip
      obtain ⟨g_11, hg_12, rfl⟩ := dig_of h_8 h_9
      have hs1 : ss (p0) = 48 + g_11 := (gT.eq (by omega) (by omega)).mp hw_5.symm
      have hlg_11 : p0 < E := Nat.lt_of_not_le (fun z => by have := gT.2.1 _ z; omega)
      refine lv_if_ne (tgt := 26) hx hb dX12_figures_19 (by decide) (fun _ => ?_) (fun c_13 => absurd c_13 (by decide))
      refine lv_iconst (v := 0) hx hb dX12_figures_26 (by decide) ?_
      refine va_put (D := (dC, dI)) (ci := 14) (v := .int 0) (ty := .boolean) (C := RX12) (T := TX12) (N := 23) hx hb hts kc_figures_0 tyX12 tyX12_ok nmX12 hown hK hP hD hS 0 rfl rfl 7 (by decide) (hts (.fieldLink RX12 65 "MistHeapsModel" "isWrong" "Z") kc_figures_1) (fun _ h9 => h9) rfl (by decide +kernel) rfl rfl (Nat.le_of_ble_eq_true rfl) dX12_figures_27 (fun H locs hP hD hS => ?_)
      have hP : va_P (dC, dI) vwCl [(zo14irriiiiiirriirrrrlriiii m0 th aS aI im (nI a) (nI p0) (nI E) 0 op aB aT se dn aG aO aN aD bv aY rn kd nu tv), (zaI aS cS 901 fS)] H := hP
      have hD : va_D A [(zo14irriiiiiirriirrrrlriiii m0 th aS aI im (nI a) (nI p0) (nI E) 0 op aB aT se dn aG aO aN aD bv aY rn kd nu tv), (zaI aS cS 901 fS)] := hD
      refine lv_iconst (v := 0) hx hb dX12_figures_30 (by decide) ?_
      refine lv_istore_n (lv' := [(1, .int 0), (0, .ref m0)]) hx hb dX12_figures_31 rfl hl (by decide) rfl (fun ls hl => ?_)
      refine lv_iconst (v := 0) hx hb dX12_figures_32 (by decide) ?_
      refine lv_istore_n (lv' := [(2, .int 0), (1, .int 0), (0, .ref m0)]) hx hb dX12_figures_33 rfl hl (by decide) rfl (fun ls hl => ?_)
      refine lv_iload_n hx hb dX12_figures_34 rfl (lv_at hl 0 rfl) ?_
      refine lv_iconst (v := 2) hx hb dX12_figures_35 (by decide) ?_
      refine lv_icmp_ge (tgt := 97) hx hb dX12_figures_36 (by decide) (fun c_14 => absurd c_14 (by decide)) (fun _ => ?_)
      refine lv_aload_n hx hb dX12_figures_39 rfl (lv_at hl 2 rfl) ?_
      refine va_get (D := (dC, dI)) (ci := 14) (v := .int 0) (C := RX12) (T := TX12) (N := 23) hx hb hts kc_figures_0 hown hK hP 0 rfl rfl 7 (by decide) (hts (.fieldLink RX12 65 "MistHeapsModel" "isWrong" "Z") kc_figures_1) (fun _ h9 => h9) rfl dX12_figures_40 ?_
      refine lv_if_ne (tgt := 97) hx hb dX12_figures_43 (by decide) (fun c_15 => absurd c_15 (by decide)) (fun _ => ?_)
      refine lv_aload_n hx hb dX12_figures_46 rfl (lv_at hl 2 rfl) ?_
      have hPc := hP.sub (ws' := [(zo14irriiiiiirriirrrrlriiii m0 th aS aI im (nI a) (nI p0) (nI E) 0 op aB aT se dn aG aO aN aD bv aY rn kd nu tv), (zaI aS cS 901 fS)]) [0, 1] rfl
      have hKc := hK.sub (tys' := [(cS, .int)]) [0] rfl
      refine vp_callSi (va_runV (As := []) (rest := []) ⟨hx, hb, hml, hown, hts⟩ (c_here l dC dI m0 aS aI aB aT aG aO aN aD aY th im (nI a) (nI p0) (nI E) 0 op se dn rn kd nu tv bv cS fS a p0 E (by omega) (by omega) (by omega)) (cwV 0 hts gX12_figures_X12_here rfl rfl rfl hd_yX12_here ⟨Nat.le_of_ble_eq_true rfl, Nat.le_of_ble_eq_true rfl⟩) ⟨fun a U g mk q => by obtain ⟨q0, qP, qK⟩ := q; exact ⟨q0, mvP g mk a qP, mvK g mk a qK⟩, va_recv hK hP (ci := 14) (q := (RX12, TX12, 23)) (q0 := 0) rfl rfl, fun U hU hW => ⟨rfl, by rw [hU]; exact hPc, va_K.moved hW.alike hKc⟩⟩ rfl rfl hl.1 rfl (lv_room (Nat.le_of_ble_eq_true rfl)) dX12_figures_47 ⟨Nat.le_of_ble_eq_true rfl, Nat.le_of_ble_eq_true rfl⟩).run (fun r_16 hw_17 => ?_)
      obtain rfl : r_16 = nI (48 + g_11) := hw_17.trans hw_5.symm
      refine lv_bipush (v := 48) hx hb dX12_figures_50 (by decide) ?_
      refine lv_bipush (v := 57) hx hb dX12_figures_52 (by decide) ?_
      refine vp_callSi (va_runS (As := [.int (nI (48 + g_11)), .int 48, .int 57]) (rest := []) ⟨hx, hb, hml, hown, hts⟩ (c_in l dC dI (nI (48 + g_11)) 48 57) (va_cwS 3 hts gX12_figures_X12_in rfl rfl rfl hd_yX12_in.2 ⟨Nat.le_of_ble_eq_true rfl, Nat.le_of_ble_eq_true rfl⟩) ⟨fun a U g mk q => ⟨q.1, trivial⟩, fun U hU hW => ⟨rfl, trivial⟩⟩ rfl rfl hl.1 rfl (lv_room (Nat.le_of_ble_eq_true rfl)) dX12_figures_54 ⟨Nat.le_of_ble_eq_true rfl, Nat.le_of_ble_eq_true rfl⟩).run (fun r_18 hw_19 => ?_)
      obtain rfl : r_18 = 1 := by rcases hw_19 with ⟨e, _⟩ | ⟨_, q | q⟩; exact e; exact absurd q h_8; exact absurd q h_9
      refine lv_if_eq (tgt := 97) hx hb dX12_figures_57 (by decide) (fun c_20 => absurd c_20 (by decide)) (fun _ => ?_)
      refine lv_iload_n hx hb dX12_figures_60 rfl (lv_at hl 0 rfl) ?_
      refine lv_if_eq (tgt := 68) hx hb dX12_figures_61 (by decide) (fun _ => ?_) (fun c_21 => absurd c_21 (by decide))
      refine lv_bipush (v := 10) hx hb dX12_figures_68 (by decide) ?_
      refine lv_iload_n hx hb dX12_figures_70 rfl (lv_at hl 1 rfl) ?_
      refine lv_imul hx hb dX12_figures_71 ?_
      refine qi_as (y := 0) (by decide) ?_
      refine lv_aload_n hx hb dX12_figures_72 rfl (lv_at hl 2 rfl) ?_
      have hPc := hP.sub (ws' := [(zo14irriiiiiirriirrrrlriiii m0 th aS aI im (nI a) (nI p0) (nI E) 0 op aB aT se dn aG aO aN aD bv aY rn kd nu tv), (zaI aS cS 901 fS)]) [0, 1] rfl
      have hKc := hK.sub (tys' := [(cS, .int)]) [0] rfl
      refine vp_callSi (va_runV (As := []) (rest := [.int 0]) ⟨hx, hb, hml, hown, hts⟩ (c_here l dC dI m0 aS aI aB aT aG aO aN aD aY th im (nI a) (nI p0) (nI E) 0 op se dn rn kd nu tv bv cS fS a p0 E (by omega) (by omega) (by omega)) (cwV 0 hts gX12_figures_X12_here rfl rfl rfl hd_yX12_here ⟨Nat.le_of_ble_eq_true rfl, Nat.le_of_ble_eq_true rfl⟩) ⟨fun a U g mk q => by obtain ⟨q0, qP, qK⟩ := q; exact ⟨q0, mvP g mk a qP, mvK g mk a qK⟩, va_recv hK hP (ci := 14) (q := (RX12, TX12, 23)) (q0 := 0) rfl rfl, fun U hU hW => ⟨rfl, by rw [hU]; exact hPc, va_K.moved hW.alike hKc⟩⟩ rfl rfl hl.1 rfl (lv_room (Nat.le_of_ble_eq_true rfl)) dX12_figures_73 ⟨Nat.le_of_ble_eq_true rfl, Nat.le_of_ble_eq_true rfl⟩).run (fun r_22 hw_23 => ?_)
      obtain rfl : r_22 = nI (48 + g_11) := hw_23.trans hw_5.symm
      refine lv_iadd hx hb dX12_figures_76 ?_
      refine qi_as (y := nI (0 + (48 + g_11))) (nI_add 0 (48 + g_11)) ?_
      refine lv_bipush (v := 48) hx hb dX12_figures_77 (by decide) ?_
      refine lv_isub hx hb dX12_figures_79 ?_
      refine qi_as (y := nI ((0 + (48 + g_11)) - 48)) (pk_sub (a := 0 + (48 + g_11)) (b := 48) (by omega)) ?_
      refine lv_istore_n (lv' := [(1, .int (nI ((0 + (48 + g_11)) - 48))), (2, .int 0), (0, .ref m0)]) hx hb dX12_figures_80 rfl hl (by decide) rfl (fun ls hl => ?_)
      refine lv_aload_n hx hb dX12_figures_81 rfl (lv_at hl 2 rfl) ?_
      refine lv_dup hx hb dX12_figures_82 rfl ?_
      refine va_get (D := (dC, dI)) (ci := 14) (v := .int (nI p0)) (C := RX12) (T := TX12) (N := 23) hx hb hts kc_figures_0 hown hK hP 0 rfl rfl 5 (by decide) (hts (.fieldLink RX12 59 "MistHeapsModel" "spot" "I") kc_figures_2) (fun _ h9 => h9) rfl dX12_figures_83 ?_
      refine lv_iconst (v := 1) hx hb dX12_figures_86 (by decide) ?_
      refine lv_iadd hx hb dX12_figures_87 ?_
      refine qi_as (y := nI (p0 + 1)) (nI_add p0 1) ?_
      refine va_put (D := (dC, dI)) (ci := 14) (v := .int (nI (p0 + 1))) (ty := .int) (C := RX12) (T := TX12) (N := 23) hx hb hts kc_figures_0 tyX12 tyX12_ok nmX12 hown hK hP hD hS 0 rfl rfl 5 (by decide) (hts (.fieldLink RX12 59 "MistHeapsModel" "spot" "I") kc_figures_2) (fun _ h9 => h9) rfl (by decide +kernel) rfl rfl (Nat.le_of_ble_eq_true rfl) dX12_figures_88 (fun H locs hP hD hS => ?_)
      have hP : va_P (dC, dI) vwCl [(zo14irriiiiiirriirrrrlriiii m0 th aS aI im (nI a) (nI (p0 + 1)) (nI E) 0 op aB aT se dn aG aO aN aD bv aY rn kd nu tv), (zaI aS cS 901 fS)] H := hP
      have hD : va_D A [(zo14irriiiiiirriirrrrlriiii m0 th aS aI im (nI a) (nI (p0 + 1)) (nI E) 0 op aB aT se dn aG aO aN aD bv aY rn kd nu tv), (zaI aS cS 901 fS)] := hD
      refine lv_iinc (v := 1) (lv' := [(2, .int 1), (1, .int (nI ((0 + (48 + g_11)) - 48))), (0, .ref m0)]) hx hb dX12_figures_91 hl (k := 1) rfl (by decide) (by decide) rfl (fun ls hl => ?_)
      refine lv_goto (tgt := 34) hx hb dX12_figures_94 (by decide) ?_
      refine lv_iload_n hx hb dX12_figures_34 rfl (lv_at hl 0 rfl) ?_
      refine lv_iconst (v := 2) hx hb dX12_figures_35 (by decide) ?_
      refine lv_icmp_ge (tgt := 97) hx hb dX12_figures_36 (by decide) (fun c_24 => absurd c_24 (by decide)) (fun _ => ?_)
      refine lv_aload_n hx hb dX12_figures_39 rfl (lv_at hl 2 rfl) ?_
      refine va_get (D := (dC, dI)) (ci := 14) (v := .int 0) (C := RX12) (T := TX12) (N := 23) hx hb hts kc_figures_0 hown hK hP 0 rfl rfl 7 (by decide) (hts (.fieldLink RX12 65 "MistHeapsModel" "isWrong" "Z") kc_figures_1) (fun _ h9 => h9) rfl dX12_figures_40 ?_
      refine lv_if_ne (tgt := 97) hx hb dX12_figures_43 (by decide) (fun c_25 => absurd c_25 (by decide)) (fun _ => ?_)
      refine lv_aload_n hx hb dX12_figures_46 rfl (lv_at hl 2 rfl) ?_
      have hPc := hP.sub (ws' := [(zo14irriiiiiirriirrrrlriiii m0 th aS aI im (nI a) (nI (p0 + 1)) (nI E) 0 op aB aT se dn aG aO aN aD bv aY rn kd nu tv), (zaI aS cS 901 fS)]) [0, 1] rfl
      have hKc := hK.sub (tys' := [(cS, .int)]) [0] rfl
      refine vp_callSi (va_runV (As := []) (rest := []) ⟨hx, hb, hml, hown, hts⟩ (c_here l dC dI m0 aS aI aB aT aG aO aN aD aY th im (nI a) (nI (p0 + 1)) (nI E) 0 op se dn rn kd nu tv bv cS fS a (p0 + 1) E (by omega) (by omega) (by omega)) (cwV 0 hts gX12_figures_X12_here rfl rfl rfl hd_yX12_here ⟨Nat.le_of_ble_eq_true rfl, Nat.le_of_ble_eq_true rfl⟩) ⟨fun a U g mk q => by obtain ⟨q0, qP, qK⟩ := q; exact ⟨q0, mvP g mk a qP, mvK g mk a qK⟩, va_recv hK hP (ci := 14) (q := (RX12, TX12, 23)) (q0 := 0) rfl rfl, fun U hU hW => ⟨rfl, by rw [hU]; exact hPc, va_K.moved hW.alike hKc⟩⟩ rfl rfl hl.1 rfl (lv_room (Nat.le_of_ble_eq_true rfl)) dX12_figures_47 ⟨Nat.le_of_ble_eq_true rfl, Nat.le_of_ble_eq_true rfl⟩).run (fun r_26 hw_27 => ?_)
      refine lv_bipush (v := 48) hx hb dX12_figures_50 (by decide) ?_
      refine lv_bipush (v := 57) hx hb dX12_figures_52 (by decide) ?_
      refine vp_callSi (va_runS (As := [.int r_26, .int 48, .int 57]) (rest := []) ⟨hx, hb, hml, hown, hts⟩ (c_in l dC dI r_26 48 57) (va_cwS 3 hts gX12_figures_X12_in rfl rfl rfl hd_yX12_in.2 ⟨Nat.le_of_ble_eq_true rfl, Nat.le_of_ble_eq_true rfl⟩) ⟨fun a U g mk q => ⟨q.1, trivial⟩, fun U hU hW => ⟨rfl, trivial⟩⟩ rfl rfl hl.1 rfl (lv_room (Nat.le_of_ble_eq_true rfl)) dX12_figures_54 ⟨Nat.le_of_ble_eq_true rfl, Nat.le_of_ble_eq_true rfl⟩).run (fun r_28 hw_29 => ?_)
      rcases hw_29 with ⟨rfl, h_30, h_31⟩ | ⟨rfl, h_32⟩
      · skip
        obtain ⟨g_33, hg_34, rfl⟩ := dig_of h_30 h_31
        have hs2 : ss (p0 + 1) = 48 + g_33 := (gT.eq (by omega) (by omega)).mp hw_27.symm
        have hlg_33 : p0 + 1 < E := Nat.lt_of_not_le (fun z => by have := gT.2.1 _ z; omega)
        refine lv_if_eq (tgt := 97) hx hb dX12_figures_57 (by decide) (fun c_35 => absurd c_35 (by decide)) (fun _ => ?_)
        refine lv_iload_n hx hb dX12_figures_60 rfl (lv_at hl 0 rfl) ?_
        refine lv_if_eq (tgt := 68) hx hb dX12_figures_61 (by decide) (fun c_36 => absurd c_36 (by decide)) (fun _ => ?_)
        refine lv_iload_n hx hb dX12_figures_64 rfl (lv_at hl 1 rfl) ?_
        refine lv_if_le (tgt := 97) hx hb dX12_figures_65 (by decide) (fun c_37 => ?_) (fun c_37 => ?_)
        · skip
          have c_37 : ((0 + (48 + g_11)) - 48) ≤ 0 := (nI_leI (a := ((0 + (48 + g_11)) - 48)) (b := 0) (by omega) (by omega)).mp c_37
          refine lv_iload_n hx hb dX12_figures_97 rfl (lv_at hl 1 rfl) ?_
          rw [hQ]
          have hP9 := hP.sub (ws' := [(zo14irriiiiiirriirrrrlriiii m0 th aS aI im (nI a) (nI (p0 + 1)) (nI E) 0 op aB aT se dn aG aO aN aD bv aY rn kd nu tv), (zaI aS cS 901 fS)]) [0, 1] rfl
          have hD9 := hD.sub (ws' := [(zo14irriiiiiirriirrrrlriiii m0 th aS aI im (nI a) (nI (p0 + 1)) (nI E) 0 op aB aT se dn aG aO aN aD bv aY rn kd nu tv), (zaI aS cS 901 fS)]) [0, 1] (by decide) rfl
          have hK9 := hK.sub (tys' := [(cS, .int)]) [0] rfl
          exact W.iret (v := nI ((0 + (48 + g_11)) - 48)) hx hb hr (fun tQ htQ hWQ => ⟨⟨(nI ((0 + (48 + g_11)) - 48)), ((nI (p0 + 1)), 0), rfl, Or.inr ⟨rfl, by assumption, (0 + (48 + g_11)) - 48, p0 + 1, by omega, by omega, by omega, rfl, rfl, pn_t1 (by omega) (by omega) (by omega) (by omega)⟩, by rw [htQ]; exact hP9, va_K.moved hWQ.alike hK9, hD9⟩, hS.F htQ⟩) hS.2.2 dX12_figures_98
        · skip
          have c_37 : ¬ ((0 + (48 + g_11)) - 48) ≤ 0 := fun q => c_37 ((nI_leI (a := ((0 + (48 + g_11)) - 48)) (b := 0) (by omega) (by omega)).mpr q)
          refine lv_bipush (v := 10) hx hb dX12_figures_68 (by decide) ?_
          refine lv_iload_n hx hb dX12_figures_70 rfl (lv_at hl 1 rfl) ?_
          refine lv_imul hx hb dX12_figures_71 ?_
          refine qi_as (y := nI (10 * ((0 + (48 + g_11)) - 48))) (pk_mul 10 ((0 + (48 + g_11)) - 48)) ?_
          refine lv_aload_n hx hb dX12_figures_72 rfl (lv_at hl 2 rfl) ?_
          have hPc := hP.sub (ws' := [(zo14irriiiiiirriirrrrlriiii m0 th aS aI im (nI a) (nI (p0 + 1)) (nI E) 0 op aB aT se dn aG aO aN aD bv aY rn kd nu tv), (zaI aS cS 901 fS)]) [0, 1] rfl
          have hKc := hK.sub (tys' := [(cS, .int)]) [0] rfl
          refine vp_callSi (va_runV (As := []) (rest := [.int (nI (10 * ((0 + (48 + g_11)) - 48)))]) ⟨hx, hb, hml, hown, hts⟩ (c_here l dC dI m0 aS aI aB aT aG aO aN aD aY th im (nI a) (nI (p0 + 1)) (nI E) 0 op se dn rn kd nu tv bv cS fS a (p0 + 1) E (by omega) (by omega) (by omega)) (cwV 0 hts gX12_figures_X12_here rfl rfl rfl hd_yX12_here ⟨Nat.le_of_ble_eq_true rfl, Nat.le_of_ble_eq_true rfl⟩) ⟨fun a U g mk q => by obtain ⟨q0, qP, qK⟩ := q; exact ⟨q0, mvP g mk a qP, mvK g mk a qK⟩, va_recv hK hP (ci := 14) (q := (RX12, TX12, 23)) (q0 := 0) rfl rfl, fun U hU hW => ⟨rfl, by rw [hU]; exact hPc, va_K.moved hW.alike hKc⟩⟩ rfl rfl hl.1 rfl (lv_room (Nat.le_of_ble_eq_true rfl)) dX12_figures_73 ⟨Nat.le_of_ble_eq_true rfl, Nat.le_of_ble_eq_true rfl⟩).run (fun r_38 hw_39 => ?_)
          obtain rfl : r_38 = nI (48 + g_33) := hw_39.trans hw_27.symm
          refine lv_iadd hx hb dX12_figures_76 ?_
          refine qi_as (y := nI ((10 * ((0 + (48 + g_11)) - 48)) + (48 + g_33))) (nI_add (10 * ((0 + (48 + g_11)) - 48)) (48 + g_33)) ?_
          refine lv_bipush (v := 48) hx hb dX12_figures_77 (by decide) ?_
          refine lv_isub hx hb dX12_figures_79 ?_
          refine qi_as (y := nI (((10 * ((0 + (48 + g_11)) - 48)) + (48 + g_33)) - 48)) (pk_sub (a := (10 * ((0 + (48 + g_11)) - 48)) + (48 + g_33)) (b := 48) (by omega)) ?_
          refine lv_istore_n (lv' := [(1, .int (nI (((10 * ((0 + (48 + g_11)) - 48)) + (48 + g_33)) - 48))), (2, .int 1), (0, .ref m0)]) hx hb dX12_figures_80 rfl hl (by decide) rfl (fun ls hl => ?_)
          refine lv_aload_n hx hb dX12_figures_81 rfl (lv_at hl 2 rfl) ?_
          refine lv_dup hx hb dX12_figures_82 rfl ?_
          refine va_get (D := (dC, dI)) (ci := 14) (v := .int (nI (p0 + 1))) (C := RX12) (T := TX12) (N := 23) hx hb hts kc_figures_0 hown hK hP 0 rfl rfl 5 (by decide) (hts (.fieldLink RX12 59 "MistHeapsModel" "spot" "I") kc_figures_2) (fun _ h9 => h9) rfl dX12_figures_83 ?_
          refine lv_iconst (v := 1) hx hb dX12_figures_86 (by decide) ?_
          refine lv_iadd hx hb dX12_figures_87 ?_
          refine qi_as (y := nI ((p0 + 1) + 1)) (nI_add (p0 + 1) 1) ?_
          refine va_put (D := (dC, dI)) (ci := 14) (v := .int (nI ((p0 + 1) + 1))) (ty := .int) (C := RX12) (T := TX12) (N := 23) hx hb hts kc_figures_0 tyX12 tyX12_ok nmX12 hown hK hP hD hS 0 rfl rfl 5 (by decide) (hts (.fieldLink RX12 59 "MistHeapsModel" "spot" "I") kc_figures_2) (fun _ h9 => h9) rfl (by decide +kernel) rfl rfl (Nat.le_of_ble_eq_true rfl) dX12_figures_88 (fun H locs hP hD hS => ?_)
          have hP : va_P (dC, dI) vwCl [(zo14irriiiiiirriirrrrlriiii m0 th aS aI im (nI a) (nI ((p0 + 1) + 1)) (nI E) 0 op aB aT se dn aG aO aN aD bv aY rn kd nu tv), (zaI aS cS 901 fS)] H := hP
          have hD : va_D A [(zo14irriiiiiirriirrrrlriiii m0 th aS aI im (nI a) (nI ((p0 + 1) + 1)) (nI E) 0 op aB aT se dn aG aO aN aD bv aY rn kd nu tv), (zaI aS cS 901 fS)] := hD
          refine lv_iinc (v := 2) (lv' := [(2, .int 2), (1, .int (nI (((10 * ((0 + (48 + g_11)) - 48)) + (48 + g_33)) - 48))), (0, .ref m0)]) hx hb dX12_figures_91 hl (k := 1) rfl (by decide) (by decide) rfl (fun ls hl => ?_)
          refine lv_goto (tgt := 34) hx hb dX12_figures_94 (by decide) ?_
          refine lv_iload_n hx hb dX12_figures_34 rfl (lv_at hl 0 rfl) ?_
          refine lv_iconst (v := 2) hx hb dX12_figures_35 (by decide) ?_
          refine lv_icmp_ge (tgt := 97) hx hb dX12_figures_36 (by decide) (fun _ => ?_) (fun c_40 => absurd c_40 (by decide))
          refine lv_iload_n hx hb dX12_figures_97 rfl (lv_at hl 1 rfl) ?_
          rw [hQ]
          have hP9 := hP.sub (ws' := [(zo14irriiiiiirriirrrrlriiii m0 th aS aI im (nI a) (nI ((p0 + 1) + 1)) (nI E) 0 op aB aT se dn aG aO aN aD bv aY rn kd nu tv), (zaI aS cS 901 fS)]) [0, 1] rfl
          have hD9 := hD.sub (ws' := [(zo14irriiiiiirriirrrrlriiii m0 th aS aI im (nI a) (nI ((p0 + 1) + 1)) (nI E) 0 op aB aT se dn aG aO aN aD bv aY rn kd nu tv), (zaI aS cS 901 fS)]) [0, 1] (by decide) rfl
          have hK9 := hK.sub (tys' := [(cS, .int)]) [0] rfl
          exact W.iret (v := nI (((10 * ((0 + (48 + g_11)) - 48)) + (48 + g_33)) - 48)) hx hb hr (fun tQ htQ hWQ => ⟨⟨(nI (((10 * ((0 + (48 + g_11)) - 48)) + (48 + g_33)) - 48)), ((nI ((p0 + 1) + 1)), 0), rfl, Or.inr ⟨rfl, by assumption, ((10 * ((0 + (48 + g_11)) - 48)) + (48 + g_33)) - 48, (p0 + 1) + 1, by omega, by omega, by omega, rfl, rfl, pn_t2 (by omega) (by omega) (by omega) (by omega)⟩, by rw [htQ]; exact hP9, va_K.moved hWQ.alike hK9, hD9⟩, hS.F htQ⟩) hS.2.2 dX12_figures_98
      · skip
        have hn2 : ¬ isD (ss (p0 + 1)) := gT.nd (by rw [← hw_27]; exact h_32)
        refine lv_if_eq (tgt := 97) hx hb dX12_figures_57 (by decide) (fun _ => ?_) (fun c_41 => absurd c_41 (by decide))
        refine lv_iload_n hx hb dX12_figures_97 rfl (lv_at hl 1 rfl) ?_
        rw [hQ]
        have hP9 := hP.sub (ws' := [(zo14irriiiiiirriirrrrlriiii m0 th aS aI im (nI a) (nI (p0 + 1)) (nI E) 0 op aB aT se dn aG aO aN aD bv aY rn kd nu tv), (zaI aS cS 901 fS)]) [0, 1] rfl
        have hD9 := hD.sub (ws' := [(zo14irriiiiiirriirrrrlriiii m0 th aS aI im (nI a) (nI (p0 + 1)) (nI E) 0 op aB aT se dn aG aO aN aD bv aY rn kd nu tv), (zaI aS cS 901 fS)]) [0, 1] (by decide) rfl
        have hK9 := hK.sub (tys' := [(cS, .int)]) [0] rfl
        exact W.iret (v := nI ((0 + (48 + g_11)) - 48)) hx hb hr (fun tQ htQ hWQ => ⟨⟨(nI ((0 + (48 + g_11)) - 48)), ((nI (p0 + 1)), 0), rfl, Or.inr ⟨rfl, by assumption, (0 + (48 + g_11)) - 48, p0 + 1, by omega, by omega, by omega, rfl, rfl, pn_t1 (by omega) (fun z => hn2 z.2) (by omega) (by omega)⟩, by rw [htQ]; exact hP9, va_K.moved hWQ.alike hK9, hD9⟩, hS.F htQ⟩) hS.2.2 dX12_figures_98
    · skip
      have hn1 : ¬ isD (ss (p0)) := gT.nd (by rw [← hw_5]; exact h_10)
      refine lv_if_ne (tgt := 26) hx hb dX12_figures_19 (by decide) (fun c_42 => absurd c_42 (by decide)) (fun _ => ?_)
      refine lv_iconst (v := 1) hx hb dX12_figures_22 (by decide) ?_
      refine lv_goto (tgt := 27) hx hb dX12_figures_23 (by decide) ?_
      refine va_put (D := (dC, dI)) (ci := 14) (v := .int 1) (ty := .boolean) (C := RX12) (T := TX12) (N := 23) hx hb hts kc_figures_0 tyX12 tyX12_ok nmX12 hown hK hP hD hS 0 rfl rfl 7 (by decide) (hts (.fieldLink RX12 65 "MistHeapsModel" "isWrong" "Z") kc_figures_1) (fun _ h9 => h9) rfl (by decide +kernel) rfl rfl (Nat.le_of_ble_eq_true rfl) dX12_figures_27 (fun H locs hP hD hS => ?_)
      have hP : va_P (dC, dI) vwCl [(zo14irriiiiiirriirrrrlriiii m0 th aS aI im (nI a) (nI p0) (nI E) 1 op aB aT se dn aG aO aN aD bv aY rn kd nu tv), (zaI aS cS 901 fS)] H := hP
      have hD : va_D A [(zo14irriiiiiirriirrrrlriiii m0 th aS aI im (nI a) (nI p0) (nI E) 1 op aB aT se dn aG aO aN aD bv aY rn kd nu tv), (zaI aS cS 901 fS)] := hD
      refine lv_iconst (v := 0) hx hb dX12_figures_30 (by decide) ?_
      refine lv_istore_n (lv' := [(1, .int 0), (0, .ref m0)]) hx hb dX12_figures_31 rfl hl (by decide) rfl (fun ls hl => ?_)
      refine lv_iconst (v := 0) hx hb dX12_figures_32 (by decide) ?_
      refine lv_istore_n (lv' := [(2, .int 0), (1, .int 0), (0, .ref m0)]) hx hb dX12_figures_33 rfl hl (by decide) rfl (fun ls hl => ?_)
      refine lv_iload_n hx hb dX12_figures_34 rfl (lv_at hl 0 rfl) ?_
      refine lv_iconst (v := 2) hx hb dX12_figures_35 (by decide) ?_
      refine lv_icmp_ge (tgt := 97) hx hb dX12_figures_36 (by decide) (fun c_43 => absurd c_43 (by decide)) (fun _ => ?_)
      refine lv_aload_n hx hb dX12_figures_39 rfl (lv_at hl 2 rfl) ?_
      refine va_get (D := (dC, dI)) (ci := 14) (v := .int 1) (C := RX12) (T := TX12) (N := 23) hx hb hts kc_figures_0 hown hK hP 0 rfl rfl 7 (by decide) (hts (.fieldLink RX12 65 "MistHeapsModel" "isWrong" "Z") kc_figures_1) (fun _ h9 => h9) rfl dX12_figures_40 ?_
      refine lv_if_ne (tgt := 97) hx hb dX12_figures_43 (by decide) (fun _ => ?_) (fun c_44 => absurd c_44 (by decide))
      refine lv_iload_n hx hb dX12_figures_97 rfl (lv_at hl 1 rfl) ?_
      rw [hQ]
      have hP9 := hP.sub (ws' := [(zo14irriiiiiirriirrrrlriiii m0 th aS aI im (nI a) (nI p0) (nI E) 1 op aB aT se dn aG aO aN aD bv aY rn kd nu tv), (zaI aS cS 901 fS)]) [0, 1] rfl
      have hD9 := hD.sub (ws' := [(zo14irriiiiiirriirrrrlriiii m0 th aS aI im (nI a) (nI p0) (nI E) 1 op aB aT se dn aG aO aN aD bv aY rn kd nu tv), (zaI aS cS 901 fS)]) [0, 1] (by decide) rfl
      have hK9 := hK.sub (tys' := [(cS, .int)]) [0] rfl
      exact W.iret (v := 0) hx hb hr (fun tQ htQ hWQ => ⟨⟨0, ((nI p0), 1), rfl, Or.inl ⟨rfl, rfl, fun _ => pn_no hn1, 0, by omega, rfl⟩, by rw [htQ]; exact hP9, va_K.moved hWQ.alike hK9, hD9⟩, hS.F htQ⟩) hS.2.2 dX12_figures_98
end mg11a
section mg11a
theorem ggX12_every_X12_factor : GoodIn wsX12_every wsX12_factor := gga_of 1264 rfl rfl rfl
theorem gX12_every_X12_factor : GoodIn wsX12_every (wsV RX12 92 RX12 yX12_factor wsX12_factor) := goodIn_app (ggh_of [1261, 1263, 30, 72] rfl rfl rfl) ggX12_every_X12_factor
theorem ggX12_some_X12_every : GoodIn wsX12_some wsX12_every := gga_of 1260 rfl rfl rfl
theorem gX12_some_X12_every : GoodIn wsX12_some (wsV RX12 112 RX12 yX12_every wsX12_every) := goodIn_app (ggh_of [1257, 1259, 29, 72] rfl rfl rfl) ggX12_some_X12_every
noncomputable def dk12alev_cX12_factor_0 : List (Nat × List Nat) := [(0, [42]), (1, [180, 0, 65]), (4, [153, 0, 4]), (7, [177])]
set_option maxRecDepth 100000 in
theorem dk12alev_cX12_factor_0_a : btA cX12_factor dk12alev_cX12_factor_0 = true := by decide +kernel
theorem dX12_factor_0 : decode cX12_factor 0 = .ok (.aload_n 0, 1) := bd42 (btAt dk12alev_cX12_factor_0_a 0 rfl)
theorem dX12_factor_1 : decode cX12_factor 1 = .ok (.getfield 65, 3) := bd180 (a := 0) (b := 65) (btAt dk12alev_cX12_factor_0_a 1 rfl)
theorem dX12_factor_4 : decode cX12_factor 4 = .ok (.ifCond .eq 4, 3) := bd153 (a := 0) (b := 4) (btAt dk12alev_cX12_factor_0_a 2 rfl)
theorem dX12_factor_7 : decode cX12_factor 7 = .ok (.return_, 1) := bd177 (btAt dk12alev_cX12_factor_0_a 3 rfl)
noncomputable def dk12alev_cX12_every_0 : List (Nat × List Nat) := [(0, [42]), (1, [182, 0, 92]), (4, [42]), (5, [180, 0, 65]), (8, [154, 0, 35]), (43, [177])]
set_option maxRecDepth 100000 in
theorem dk12alev_cX12_every_0_a : btA cX12_every dk12alev_cX12_every_0 = true := by decide +kernel
theorem dX12_every_0 : decode cX12_every 0 = .ok (.aload_n 0, 1) := bd42 (btAt dk12alev_cX12_every_0_a 0 rfl)
theorem dX12_every_1 : decode cX12_every 1 = .ok (.invokevirtual 92, 3) := bd182 (a := 0) (b := 92) (btAt dk12alev_cX12_every_0_a 1 rfl)
theorem dX12_every_4 : decode cX12_every 4 = .ok (.aload_n 0, 1) := bd42 (btAt dk12alev_cX12_every_0_a 2 rfl)
theorem dX12_every_5 : decode cX12_every 5 = .ok (.getfield 65, 3) := bd180 (a := 0) (b := 65) (btAt dk12alev_cX12_every_0_a 3 rfl)
theorem dX12_every_8 : decode cX12_every 8 = .ok (.ifCond .ne 35, 3) := bd154 (a := 0) (b := 35) (btAt dk12alev_cX12_every_0_a 4 rfl)
theorem dX12_every_43 : decode cX12_every 43 = .ok (.return_, 1) := bd177 (btAt dk12alev_cX12_every_0_a 5 rfl)
noncomputable def dk12alev_cX12_some_0 : List (Nat × List Nat) := [(0, [42]), (1, [182, 0, 112]), (4, [42]), (5, [180, 0, 65]), (8, [154, 0, 35]), (43, [177])]
set_option maxRecDepth 100000 in
theorem dk12alev_cX12_some_0_a : btA cX12_some dk12alev_cX12_some_0 = true := by decide +kernel
theorem dX12_some_0 : decode cX12_some 0 = .ok (.aload_n 0, 1) := bd42 (btAt dk12alev_cX12_some_0_a 0 rfl)
theorem dX12_some_1 : decode cX12_some 1 = .ok (.invokevirtual 112, 3) := bd182 (a := 0) (b := 112) (btAt dk12alev_cX12_some_0_a 1 rfl)
theorem dX12_some_4 : decode cX12_some 4 = .ok (.aload_n 0, 1) := bd42 (btAt dk12alev_cX12_some_0_a 2 rfl)
theorem dX12_some_5 : decode cX12_some 5 = .ok (.getfield 65, 3) := bd180 (a := 0) (b := 65) (btAt dk12alev_cX12_some_0_a 3 rfl)
theorem dX12_some_8 : decode cX12_some 8 = .ok (.ifCond .ne 35, 3) := bd154 (a := 0) (b := 35) (btAt dk12alev_cX12_some_0_a 4 rfl)
theorem dX12_some_43 : decode cX12_some 43 = .ok (.return_, 1) := bd177 (btAt dk12alev_cX12_some_0_a 5 rfl)
theorem PI.mono {f : Nat → Int32} {a d p q E : Nat} {K : List Nat} (h : PI f a K d p E) (h1 : p ≤ q) (h2 : q ≤ E) : PI f a K d q E := by
  obtain ⟨a1, a2, a3, a4, a5, a6, a7, a8⟩ := h
  exact ⟨a1, h2, a3, a4, by omega, by omega, a7, a8⟩
theorem PI.as {f : Nat → Int32} {a d p E : Nat} {K L M : List Nat} (h : PI f a ((K ++ L) ++ M) d p E) : PI f a (K ++ (L ++ M)) d p E := by rw [← List.append_assoc]; exact h
theorem PI.em {f : Nat → Int32} {a d d' p E t : Nat} {K : List Nat} {x : Int32} (h : PI f a K d p E) (hk : K.length + 1 ≤ p) (hd : 3 * d' ≤ p) (hs : stepd x d = some d') (ht : x = rcd t) : PI (emt f a K.length x) a (K ++ [t]) d' p E := by
  obtain ⟨a1, a2, a3, a4, a5, a6, a7, a8⟩ := h
  have e : (K ++ [t]).length = K.length + 1 := by rw [List.length_append]; rfl
  refine ⟨a1, a2, a3, by rw [e]; exact em_k, by rw [e]; exact hk, hd, by rw [e]; exact em_sd a1 (by omega) a7 hs, fun i hi => ?_⟩
  rw [e] at hi
  by_cases q : i = K.length
  · subst q
    rw [emt, pk_un (by omega), pk_us, getD_r, ht]
  · rw [emt, pk_un (by omega), pk_un (by omega), getD_l (by omega)]
    exact a8 i (by omega)
theorem rcd_t {j i v : Nat} (hj : j < 6) (hi : i < 3) (hv : v ≤ 99) : nI (j + 8 * i + 32 * v) = rcd (j * 300 + i * 100 + v) := by
  rw [rcd, if_pos (by omega)]
  congr 1
  omega
theorem rcd_c {w v K : Nat} (hw : (w = 0 ∧ K = 10) ∨ (w = 1 ∧ K = 200) ∨ (w = 3 ∧ K = 400)) (hv : v ≤ 99) : nI 0 - nI K - nI v = rcd (2000 + 100 * w + v) := by
  have e : (2000 + 100 * w + v - 2000) / 100 = w := by omega
  have e2 : (2000 + 100 * w + v - 2000) % 100 = v := by omega
  rw [rcd, if_neg (by omega), if_neg (by omega), e, e2]
  rcases hw with ⟨rfl, rfl⟩ | ⟨rfl, rfl⟩ | ⟨rfl, rfl⟩ <;> rfl
theorem stepd_test {j i v d : Nat} (hj : j < 6) (hi : i < 3) (hv : v ≤ 99) (hd : d < 60) : stepd (nI (j + 8 * i + 32 * v)) d = some (d + 1) := by
  have e : nI (j + 8 * i + 32 * v) - nI (j + 8 * i + 32 * v) / 8 * 8 = nI ((j + 8 * i + 32 * v) % 8) := pk_rem (d := 8) (by omega) (by omega) (by omega)
  rw [stepd, if_pos (nI_pos' (by omega)), if_pos ⟨by rw [e]; exact nI_lt (b := 6) (by omega) (by omega), hd⟩]
theorem stepd_not {d : Nat} (h : 1 ≤ d) : stepd (-1) d = some d := by rw [stepd, if_neg (by decide), if_pos rfl, if_pos h]
theorem stepd_both {d : Nat} (h : 2 ≤ d) : stepd (-2) d = some (d - 1) := by rw [stepd, if_neg (by decide), if_neg (by decide), if_pos (by decide), if_pos h]
theorem stepd_either {d : Nat} (h : 2 ≤ d) : stepd (-3) d = some (d - 1) := by rw [stepd, if_neg (by decide), if_neg (by decide), if_pos (by decide), if_pos h]

theorem kc_emitsW_0 : ∀ w ∈ wsX120, w ∈ wsX12_emits := fun w h => List.mem_cons_of_mem _ (gin_wsX120 w h)
theorem kc_emitsW_1 : (.fieldLink RX12 65 "MistHeapsModel" "isWrong" "Z" : Cond) ∈ wsX12_emits := kc_of 1147 rfl rfl rfl
set_option maxHeartbeats 4000000 in
set_option maxRecDepth 100000 in
theorem c_emitsW (l : Launch) (dC : Nat → ClassId) (dI : Nat → Nat → Nat) (m0 aS aI aB aT aG aO aN aD aY : Nat) (th im ac sp en wg op se dn rn kd nu tv : Int32) (bv : Int64) (x : Int32) : Met l yX12_emits wsX12_emits ({ frames := 0, cells := 0, slots := 0, locals := 0 } : Room) (va_Pc [.ref m0, .int x] (fun U => va_P (dC, dI) vwCl [(zo14irriiiiiirriirrrrlriiii m0 th aS aI im ac sp en 1 op aB aT se dn aG aO aN aD bv aY rn kd nu tv)] U.heap ∧ va_K (dC, dI) vwCl [] U)) (va_Sv (fun _ => True)) 0 0 (fun _ => False) := by
  refine met_ofQ (cc := cX12_emits) (maxL := 2) (ret := none) (by decide) rfl ?_
  intro p e s m args below meth c s₁ Q B hml hv hQ
  obtain ⟨rfl, hP, hK⟩ := hv
  have hx := B.exec
  have hb := B.bytes
  have hr := B.returns
  have hts := atoms_spec (ws := wsX12_emits) B.pre
  have hown : s.vm.findClass RX12 = some m.cls := findClass_of_methodNamed B.named
  have hlocks := B.notSynchronized
  obtain ⟨A, hAe⟩ : ∃ A : Nat → Prop, A = fun _ => False := ⟨_, rfl⟩
  rw [← hAe] at hQ
  have hS : va_S A s.heap s.heap [] := va_S.rf
  have hl := lv_entry [.ref m0, .int x] (n := 2) (Nat.le_of_ble_eq_true rfl)
  rw [lg_entry_eq]
  generalize (lg_sl [.ref m0, .int x] ++ List.replicate (2 - (lg_sl [.ref m0, .int x]).length) Slot.unset).toArray = ls at hl ⊢
  generalize hag : ([.ref m0, .int x] : List Value).toArray = args at hts hQ ⊢
  have hl : lv_has ls 2 [(0, .ref m0), (1, .int x)] := hl
  refine lv_aload_n hx hb dX12_emits_0 rfl (lv_at hl 0 rfl) ?_
  refine va_get (D := (dC, dI)) (ci := 14) (v := .int 1) (C := RX12) (T := TX12) (N := 23) hx hb hts kc_emitsW_0 hown hK hP 0 rfl rfl 7 (by decide) (hts (.fieldLink RX12 65 "MistHeapsModel" "isWrong" "Z") kc_emitsW_1) (fun _ h9 => h9) rfl dX12_emits_1 ?_
  refine lv_if_ne (tgt := 56) hx hb dX12_emits_4 (by decide) (fun _ => ?_) (fun c_1 => absurd c_1 (by decide))
  rw [hQ]
  exact W.vret hx hb hr (fun tQ htQ hWQ => ⟨rfl, trivial, by rw [htQ]⟩) (fun q hq => absurd hq List.not_mem_nil) dX12_emits_56

theorem kc_factorW_0 : ∀ w ∈ wsX120, w ∈ wsX12_factor := fun w h => List.mem_cons_of_mem _ (gin_wsX120 w h)
theorem kc_factorW_1 : (.fieldLink RX12 65 "MistHeapsModel" "isWrong" "Z" : Cond) ∈ wsX12_factor := kc_of 1147 rfl rfl rfl
set_option maxHeartbeats 4000000 in
set_option maxRecDepth 100000 in
theorem c_factorW (l : Launch) (dC : Nat → ClassId) (dI : Nat → Nat → Nat) (m0 aS aI aB aT aG aO aN aD aY : Nat) (th im ac sp en wg op se dn rn kd nu tv : Int32) (bv : Int64) : Met l yX12_factor wsX12_factor ({ frames := 0, cells := 0, slots := 0, locals := 0 } : Room) (va_Pc [.ref m0] (fun U => va_P (dC, dI) vwCl [(zo14irriiiiiirriirrrrlriiii m0 th aS aI im ac sp en 1 op aB aT se dn aG aO aN aD bv aY rn kd nu tv)] U.heap ∧ va_K (dC, dI) vwCl [] U)) (va_Sv (fun _ => True)) 0 0 (fun _ => False) := by
  refine met_ofQ (cc := cX12_factor) (maxL := 5) (ret := none) (by decide) rfl ?_
  intro p e s m args below meth c s₁ Q B hml hv hQ
  obtain ⟨rfl, hP, hK⟩ := hv
  have hx := B.exec
  have hb := B.bytes
  have hr := B.returns
  have hts := atoms_spec (ws := wsX12_factor) B.pre
  have hown : s.vm.findClass RX12 = some m.cls := findClass_of_methodNamed B.named
  have hlocks := B.notSynchronized
  obtain ⟨A, hAe⟩ : ∃ A : Nat → Prop, A = fun _ => False := ⟨_, rfl⟩
  rw [← hAe] at hQ
  have hS : va_S A s.heap s.heap [] := va_S.rf
  have hl := lv_entry [.ref m0] (n := 5) (Nat.le_of_ble_eq_true rfl)
  rw [lg_entry_eq]
  generalize (lg_sl [.ref m0] ++ List.replicate (5 - (lg_sl [.ref m0]).length) Slot.unset).toArray = ls at hl ⊢
  generalize hag : ([.ref m0] : List Value).toArray = args at hts hQ ⊢
  have hl : lv_has ls 5 [(0, .ref m0)] := hl
  refine lv_aload_n hx hb dX12_factor_0 rfl (lv_at hl 0 rfl) ?_
  refine va_get (D := (dC, dI)) (ci := 14) (v := .int 1) (C := RX12) (T := TX12) (N := 23) hx hb hts kc_factorW_0 hown hK hP 0 rfl rfl 7 (by decide) (hts (.fieldLink RX12 65 "MistHeapsModel" "isWrong" "Z") kc_factorW_1) (fun _ h9 => h9) rfl dX12_factor_1 ?_
  refine lv_if_eq (tgt := 8) hx hb dX12_factor_4 (by decide) (fun c_1 => absurd c_1 (by decide)) (fun _ => ?_)
  rw [hQ]
  exact W.vret hx hb hr (fun tQ htQ hWQ => ⟨rfl, trivial, by rw [htQ]⟩) (fun q hq => absurd hq List.not_mem_nil) dX12_factor_7

theorem kc_everyW_0 : ∀ w ∈ wsX120, w ∈ wsX12_every := fun w h => List.mem_cons_of_mem _ (gin_wsX120 w h)
theorem kc_everyW_1 : (.fieldLink RX12 65 "MistHeapsModel" "isWrong" "Z" : Cond) ∈ wsX12_every := kc_of 1147 rfl rfl rfl
set_option maxHeartbeats 4000000 in
set_option maxRecDepth 100000 in
theorem c_everyW (l : Launch) (dC : Nat → ClassId) (dI : Nat → Nat → Nat) (m0 aS aI aB aT aG aO aN aD aY : Nat) (th im ac sp en wg op se dn rn kd nu tv : Int32) (bv : Int64) : Met l yX12_every wsX12_every ({ frames := 1, cells := 0, slots := 0, locals := 24 } : Room) (va_Pc [.ref m0] (fun U => va_P (dC, dI) vwCl [(zo14irriiiiiirriirrrrlriiii m0 th aS aI im ac sp en 1 op aB aT se dn aG aO aN aD bv aY rn kd nu tv)] U.heap ∧ va_K (dC, dI) vwCl [] U)) (va_Sv (fun _ => True)) 0 0 (fun _ => False) := by
  refine met_ofQ (cc := cX12_every) (maxL := 1) (ret := none) (by decide) rfl ?_
  intro p e s m args below meth c s₁ Q B hml hv hQ
  obtain ⟨rfl, hP, hK⟩ := hv
  have hx := B.exec
  have hb := B.bytes
  have hr := B.returns
  have hts := atoms_spec (ws := wsX12_every) B.pre
  have hown : s.vm.findClass RX12 = some m.cls := findClass_of_methodNamed B.named
  have hlocks := B.notSynchronized
  obtain ⟨A, hAe⟩ : ∃ A : Nat → Prop, A = fun _ => False := ⟨_, rfl⟩
  rw [← hAe] at hQ
  have hS : va_S A s.heap s.heap [] := va_S.rf
  have hl := lv_entry [.ref m0] (n := 1) (Nat.le_of_ble_eq_true rfl)
  rw [lg_entry_eq]
  generalize (lg_sl [.ref m0] ++ List.replicate (1 - (lg_sl [.ref m0]).length) Slot.unset).toArray = ls at hl ⊢
  generalize hag : ([.ref m0] : List Value).toArray = args at hts hQ ⊢
  have hl : lv_has ls 1 [(0, .ref m0)] := hl
  refine lv_aload_n hx hb dX12_every_0 rfl (lv_at hl 0 rfl) ?_
  have hPc := hP.sub (ws' := [(zo14irriiiiiirriirrrrlriiii m0 th aS aI im ac sp en 1 op aB aT se dn aG aO aN aD bv aY rn kd nu tv)]) [0] rfl
  have hKc := hK.sub (tys' := []) [] rfl
  refine va_csv (va_runV (As := []) (rest := []) ⟨hx, hb, hml, hown, hts⟩ (c_factorW l dC dI m0 aS aI aB aT aG aO aN aD aY th im ac sp en 1 op se dn rn kd nu tv bv) (cwV 0 hts gX12_every_X12_factor rfl rfl rfl hd_yX12_factor ⟨Nat.le_of_ble_eq_true rfl, Nat.le_of_ble_eq_true rfl⟩) ⟨fun a U g mk q => by obtain ⟨q0, qP, qK⟩ := q; exact ⟨q0, mvP g mk a qP, mvK g mk a qK⟩, va_recv hK hP (ci := 14) (q := (RX12, TX12, 23)) (q0 := 0) rfl rfl, fun U hU hW => ⟨rfl, by rw [hU]; exact hPc, va_K.moved hW.alike hKc⟩⟩ rfl rfl hl.1 rfl (lv_room (Nat.le_of_ble_eq_true rfl)) dX12_every_1 ⟨Nat.le_of_ble_eq_true rfl, Nat.le_of_ble_eq_true rfl⟩).run (fun hw_2 => ?_)
  refine lv_aload_n hx hb dX12_every_4 rfl (lv_at hl 0 rfl) ?_
  refine va_get (D := (dC, dI)) (ci := 14) (v := .int 1) (C := RX12) (T := TX12) (N := 23) hx hb hts kc_everyW_0 hown hK hP 0 rfl rfl 7 (by decide) (hts (.fieldLink RX12 65 "MistHeapsModel" "isWrong" "Z") kc_everyW_1) (fun _ h9 => h9) rfl dX12_every_5 ?_
  refine lv_if_ne (tgt := 43) hx hb dX12_every_8 (by decide) (fun _ => ?_) (fun c_3 => absurd c_3 (by decide))
  rw [hQ]
  exact W.vret hx hb hr (fun tQ htQ hWQ => ⟨rfl, trivial, by rw [htQ]⟩) (fun q hq => absurd hq List.not_mem_nil) dX12_every_43

theorem kc_someW_0 : ∀ w ∈ wsX120, w ∈ wsX12_some := fun w h => List.mem_cons_of_mem _ (gin_wsX120 w h)
theorem kc_someW_1 : (.fieldLink RX12 65 "MistHeapsModel" "isWrong" "Z" : Cond) ∈ wsX12_some := kc_of 1147 rfl rfl rfl
set_option maxHeartbeats 4000000 in
set_option maxRecDepth 100000 in
theorem c_someW (l : Launch) (dC : Nat → ClassId) (dI : Nat → Nat → Nat) (m0 aS aI aB aT aG aO aN aD aY : Nat) (th im ac sp en wg op se dn rn kd nu tv : Int32) (bv : Int64) : Met l yX12_some wsX12_some ({ frames := 2, cells := 0, slots := 0, locals := 44 } : Room) (va_Pc [.ref m0] (fun U => va_P (dC, dI) vwCl [(zo14irriiiiiirriirrrrlriiii m0 th aS aI im ac sp en 1 op aB aT se dn aG aO aN aD bv aY rn kd nu tv)] U.heap ∧ va_K (dC, dI) vwCl [] U)) (va_Sv (fun _ => True)) 0 0 (fun _ => False) := by
  refine met_ofQ (cc := cX12_some) (maxL := 1) (ret := none) (by decide) rfl ?_
  intro p e s m args below meth c s₁ Q B hml hv hQ
  obtain ⟨rfl, hP, hK⟩ := hv
  have hx := B.exec
  have hb := B.bytes
  have hr := B.returns
  have hts := atoms_spec (ws := wsX12_some) B.pre
  have hown : s.vm.findClass RX12 = some m.cls := findClass_of_methodNamed B.named
  have hlocks := B.notSynchronized
  obtain ⟨A, hAe⟩ : ∃ A : Nat → Prop, A = fun _ => False := ⟨_, rfl⟩
  rw [← hAe] at hQ
  have hS : va_S A s.heap s.heap [] := va_S.rf
  have hl := lv_entry [.ref m0] (n := 1) (Nat.le_of_ble_eq_true rfl)
  rw [lg_entry_eq]
  generalize (lg_sl [.ref m0] ++ List.replicate (1 - (lg_sl [.ref m0]).length) Slot.unset).toArray = ls at hl ⊢
  generalize hag : ([.ref m0] : List Value).toArray = args at hts hQ ⊢
  have hl : lv_has ls 1 [(0, .ref m0)] := hl
  refine lv_aload_n hx hb dX12_some_0 rfl (lv_at hl 0 rfl) ?_
  have hPc := hP.sub (ws' := [(zo14irriiiiiirriirrrrlriiii m0 th aS aI im ac sp en 1 op aB aT se dn aG aO aN aD bv aY rn kd nu tv)]) [0] rfl
  have hKc := hK.sub (tys' := []) [] rfl
  refine va_csv (va_runV (As := []) (rest := []) ⟨hx, hb, hml, hown, hts⟩ (c_everyW l dC dI m0 aS aI aB aT aG aO aN aD aY th im ac sp en 1 op se dn rn kd nu tv bv) (cwV 0 hts gX12_some_X12_every rfl rfl rfl hd_yX12_every ⟨Nat.le_of_ble_eq_true rfl, Nat.le_of_ble_eq_true rfl⟩) ⟨fun a U g mk q => by obtain ⟨q0, qP, qK⟩ := q; exact ⟨q0, mvP g mk a qP, mvK g mk a qK⟩, va_recv hK hP (ci := 14) (q := (RX12, TX12, 23)) (q0 := 0) rfl rfl, fun U hU hW => ⟨rfl, by rw [hU]; exact hPc, va_K.moved hW.alike hKc⟩⟩ rfl rfl hl.1 rfl (lv_room (Nat.le_of_ble_eq_true rfl)) dX12_some_1 ⟨Nat.le_of_ble_eq_true rfl, Nat.le_of_ble_eq_true rfl⟩).run (fun hw_2 => ?_)
  refine lv_aload_n hx hb dX12_some_4 rfl (lv_at hl 0 rfl) ?_
  refine va_get (D := (dC, dI)) (ci := 14) (v := .int 1) (C := RX12) (T := TX12) (N := 23) hx hb hts kc_someW_0 hown hK hP 0 rfl rfl 7 (by decide) (hts (.fieldLink RX12 65 "MistHeapsModel" "isWrong" "Z") kc_someW_1) (fun _ h9 => h9) rfl dX12_some_5 ?_
  refine lv_if_ne (tgt := 43) hx hb dX12_some_8 (by decide) (fun _ => ?_) (fun c_3 => absurd c_3 (by decide))
  rw [hQ]
  exact W.vret hx hb hr (fun tQ htQ hWQ => ⟨rfl, trivial, by rw [htQ]⟩) (fun q hq => absurd hq List.not_mem_nil) dX12_some_43

section
variable {s : Nat → Nat} {F : Nat → pR} {p q : Nat} {L : List Nat}
theorem pEv_n (h : F p = (none, q)) : pEv s F p = (none, q) := by rw [pEv, h]; exact ps_none
theorem pEv_s (h : F p = (some L, q)) : pEv s F p = pSep s 38 1802 F 101 (some L, q) := by rw [pEv, h]
theorem pSm_n (h : pEv s F p = (none, q)) : pSm s F p = (none, q) := by rw [pSm, h]; exact ps_none
theorem pSm_s (h : pEv s F p = (some L, q)) : pSm s F p = pSep s 124 1803 (pEv s F) 101 (some L, q) := by rw [pSm, h]
end
end mg11a
