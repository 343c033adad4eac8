theorem ggJ0_length_8abf5_J0_coder_7d493 : GoodIn wsJ0_length_8abf5 wsJ0_coder_7d493 := gga_of 384 rfl rfl rfl
theorem gJ0_length_8abf5_J0_coder_7d493 : GoodIn wsJ0_length_8abf5 (wsV RJ0 335 RJ0 yJ0_coder_7d493 wsJ0_coder_7d493) := goodIn_app (ggh_of [381, 382, 383, 73] rfl rfl rfl) ggJ0_length_8abf5_J0_coder_7d493
theorem ggJ0_checkIndex_df160_J3_checkIndex_8e157 : GoodIn wsJ0_checkIndex_df160 wsJ3_checkIndex_8e157 := gga_of 405 rfl rfl rfl
theorem gJ0_checkIndex_df160_J3_checkIndex_8e157 : GoodIn wsJ0_checkIndex_df160 (va_wsS RJ0 1059 yJ3_checkIndex_8e157 wsJ3_checkIndex_8e157) := goodIn_app (ggh_of [403, 404, 75] rfl rfl rfl) ggJ0_checkIndex_df160_J3_checkIndex_8e157
theorem ggJ1_charAt_3b067_J0_checkIndex_df160 : GoodIn wsJ1_charAt_3b067 wsJ0_checkIndex_df160 := gga_of 400 rfl rfl rfl
theorem gJ1_charAt_3b067_J0_checkIndex_df160 : GoodIn wsJ1_charAt_3b067 (va_wsS RJ1 9 yJ0_checkIndex_df160 wsJ0_checkIndex_df160) := goodIn_app (ggh_of [398, 399, 73] rfl rfl rfl) ggJ1_charAt_3b067_J0_checkIndex_df160
theorem ggJ0_charAt_5068e_J0_isLatin1_aae02 : GoodIn wsJ0_charAt_5068e wsJ0_isLatin1_aae02 := gga_of 394 rfl rfl rfl
theorem gJ0_charAt_5068e_J0_isLatin1_aae02 : GoodIn wsJ0_charAt_5068e (wsV RJ0 492 RJ0 yJ0_isLatin1_aae02 wsJ0_isLatin1_aae02) := goodIn_app (ggh_of [391, 392, 393, 73] rfl rfl rfl) ggJ0_charAt_5068e_J0_isLatin1_aae02
theorem ggJ0_charAt_5068e_J1_charAt_3b067 : GoodIn wsJ0_charAt_5068e wsJ1_charAt_3b067 := gga_of 397 rfl rfl rfl
theorem gJ0_charAt_5068e_J1_charAt_3b067 : GoodIn wsJ0_charAt_5068e (va_wsS RJ0 495 yJ1_charAt_3b067 wsJ1_charAt_3b067) := goodIn_app (ggh_of [395, 396, 74] rfl rfl rfl) ggJ0_charAt_5068e_J1_charAt_3b067
noncomputable def dk11atext_cJ0_coder_7d493_0 : List (Nat × Instr × Nat) := [(0, .getstatic 38, 3), (3, .ifCond .eq 10, 3), (6, .aload_n 0, 1), (7, .getfield 15, 3), (10, .goto 4, 3), (14, .ireturn, 1)]
set_option maxRecDepth 100000 in
theorem dk11atext_cJ0_coder_7d493_0_a : dkA cJ0_coder_7d493 dk11atext_cJ0_coder_7d493_0 = true := by decide +kernel
theorem dJ0_coder_7d493_0 : decode cJ0_coder_7d493 0 = .ok (.getstatic 38, 3) := dkAt dk11atext_cJ0_coder_7d493_0_a 0 rfl
theorem dJ0_coder_7d493_3 : decode cJ0_coder_7d493 3 = .ok (.ifCond .eq 10, 3) := dkAt dk11atext_cJ0_coder_7d493_0_a 1 rfl
theorem dJ0_coder_7d493_6 : decode cJ0_coder_7d493 6 = .ok (.aload_n 0, 1) := dkAt dk11atext_cJ0_coder_7d493_0_a 2 rfl
theorem dJ0_coder_7d493_7 : decode cJ0_coder_7d493 7 = .ok (.getfield 15, 3) := dkAt dk11atext_cJ0_coder_7d493_0_a 3 rfl
theorem dJ0_coder_7d493_10 : decode cJ0_coder_7d493 10 = .ok (.goto 4, 3) := dkAt dk11atext_cJ0_coder_7d493_0_a 4 rfl
theorem dJ0_coder_7d493_14 : decode cJ0_coder_7d493 14 = .ok (.ireturn, 1) := dkAt dk11atext_cJ0_coder_7d493_0_a 5 rfl
noncomputable def dk11atext_cJ0_length_8abf5_0 : List (Nat × Instr × Nat) := [(0, .aload_n 0, 1), (1, .getfield 9, 3), (4, .arraylength, 1), (5, .aload_n 0, 1), (6, .invokevirtual 335, 3), (9, .ishr, 1), (10, .ireturn, 1)]
set_option maxRecDepth 100000 in
theorem dk11atext_cJ0_length_8abf5_0_a : dkA cJ0_length_8abf5 dk11atext_cJ0_length_8abf5_0 = true := by decide +kernel
theorem dJ0_length_8abf5_0 : decode cJ0_length_8abf5 0 = .ok (.aload_n 0, 1) := dkAt dk11atext_cJ0_length_8abf5_0_a 0 rfl
theorem dJ0_length_8abf5_1 : decode cJ0_length_8abf5 1 = .ok (.getfield 9, 3) := dkAt dk11atext_cJ0_length_8abf5_0_a 1 rfl
theorem dJ0_length_8abf5_4 : decode cJ0_length_8abf5 4 = .ok (.arraylength, 1) := dkAt dk11atext_cJ0_length_8abf5_0_a 2 rfl
theorem dJ0_length_8abf5_5 : decode cJ0_length_8abf5 5 = .ok (.aload_n 0, 1) := dkAt dk11atext_cJ0_length_8abf5_0_a 3 rfl
theorem dJ0_length_8abf5_6 : decode cJ0_length_8abf5 6 = .ok (.invokevirtual 335, 3) := dkAt dk11atext_cJ0_length_8abf5_0_a 4 rfl
theorem dJ0_length_8abf5_9 : decode cJ0_length_8abf5 9 = .ok (.ishr, 1) := dkAt dk11atext_cJ0_length_8abf5_0_a 5 rfl
theorem dJ0_length_8abf5_10 : decode cJ0_length_8abf5 10 = .ok (.ireturn, 1) := dkAt dk11atext_cJ0_length_8abf5_0_a 6 rfl
noncomputable def dk11atext_cJ0_isLatin1_aae02_0 : List (Nat × Instr × Nat) := [(0, .getstatic 38, 3), (3, .ifCond .eq 14, 3), (6, .aload_n 0, 1), (7, .getfield 15, 3), (10, .ifCond .ne 7, 3), (13, .iconst 1, 1), (14, .goto 4, 3), (18, .ireturn, 1)]
set_option maxRecDepth 100000 in
theorem dk11atext_cJ0_isLatin1_aae02_0_a : dkA cJ0_isLatin1_aae02 dk11atext_cJ0_isLatin1_aae02_0 = true := by decide +kernel
theorem dJ0_isLatin1_aae02_0 : decode cJ0_isLatin1_aae02 0 = .ok (.getstatic 38, 3) := dkAt dk11atext_cJ0_isLatin1_aae02_0_a 0 rfl
theorem dJ0_isLatin1_aae02_3 : decode cJ0_isLatin1_aae02 3 = .ok (.ifCond .eq 14, 3) := dkAt dk11atext_cJ0_isLatin1_aae02_0_a 1 rfl
theorem dJ0_isLatin1_aae02_6 : decode cJ0_isLatin1_aae02 6 = .ok (.aload_n 0, 1) := dkAt dk11atext_cJ0_isLatin1_aae02_0_a 2 rfl
theorem dJ0_isLatin1_aae02_7 : decode cJ0_isLatin1_aae02 7 = .ok (.getfield 15, 3) := dkAt dk11atext_cJ0_isLatin1_aae02_0_a 3 rfl
theorem dJ0_isLatin1_aae02_10 : decode cJ0_isLatin1_aae02 10 = .ok (.ifCond .ne 7, 3) := dkAt dk11atext_cJ0_isLatin1_aae02_0_a 4 rfl
theorem dJ0_isLatin1_aae02_13 : decode cJ0_isLatin1_aae02 13 = .ok (.iconst 1, 1) := dkAt dk11atext_cJ0_isLatin1_aae02_0_a 5 rfl
theorem dJ0_isLatin1_aae02_14 : decode cJ0_isLatin1_aae02 14 = .ok (.goto 4, 3) := dkAt dk11atext_cJ0_isLatin1_aae02_0_a 6 rfl
theorem dJ0_isLatin1_aae02_18 : decode cJ0_isLatin1_aae02 18 = .ok (.ireturn, 1) := dkAt dk11atext_cJ0_isLatin1_aae02_0_a 7 rfl
noncomputable def dk11atext_cJ3_checkIndex_8e157_0 : List (Nat × Instr × Nat) := [(0, .iload_n 0, 1), (1, .ifCond .lt 8, 3), (4, .iload_n 0, 1), (5, .iload_n 1, 1), (6, .if_icmp .lt 10, 3), (16, .iload_n 0, 1), (17, .ireturn, 1)]
set_option maxRecDepth 100000 in
theorem dk11atext_cJ3_checkIndex_8e157_0_a : dkA cJ3_checkIndex_8e157 dk11atext_cJ3_checkIndex_8e157_0 = true := by decide +kernel
theorem dJ3_checkIndex_8e157_0 : decode cJ3_checkIndex_8e157 0 = .ok (.iload_n 0, 1) := dkAt dk11atext_cJ3_checkIndex_8e157_0_a 0 rfl
theorem dJ3_checkIndex_8e157_1 : decode cJ3_checkIndex_8e157 1 = .ok (.ifCond .lt 8, 3) := dkAt dk11atext_cJ3_checkIndex_8e157_0_a 1 rfl
theorem dJ3_checkIndex_8e157_4 : decode cJ3_checkIndex_8e157 4 = .ok (.iload_n 0, 1) := dkAt dk11atext_cJ3_checkIndex_8e157_0_a 2 rfl
theorem dJ3_checkIndex_8e157_5 : decode cJ3_checkIndex_8e157 5 = .ok (.iload_n 1, 1) := dkAt dk11atext_cJ3_checkIndex_8e157_0_a 3 rfl
theorem dJ3_checkIndex_8e157_6 : decode cJ3_checkIndex_8e157 6 = .ok (.if_icmp .lt 10, 3) := dkAt dk11atext_cJ3_checkIndex_8e157_0_a 4 rfl
theorem dJ3_checkIndex_8e157_16 : decode cJ3_checkIndex_8e157 16 = .ok (.iload_n 0, 1) := dkAt dk11atext_cJ3_checkIndex_8e157_0_a 5 rfl
theorem dJ3_checkIndex_8e157_17 : decode cJ3_checkIndex_8e157 17 = .ok (.ireturn, 1) := dkAt dk11atext_cJ3_checkIndex_8e157_0_a 6 rfl
noncomputable def dk11atext_cJ0_checkIndex_df160_0 : List (Nat × Instr × Nat) := [(0, .iload_n 0, 1), (1, .iload_n 1, 1), (2, .getstatic 1053, 3), (5, .invokestatic 1059, 3), (8, .pop, 1), (9, .return_, 1)]
set_option maxRecDepth 100000 in
theorem dk11atext_cJ0_checkIndex_df160_0_a : dkA cJ0_checkIndex_df160 dk11atext_cJ0_checkIndex_df160_0 = true := by decide +kernel
theorem dJ0_checkIndex_df160_0 : decode cJ0_checkIndex_df160 0 = .ok (.iload_n 0, 1) := dkAt dk11atext_cJ0_checkIndex_df160_0_a 0 rfl
theorem dJ0_checkIndex_df160_1 : decode cJ0_checkIndex_df160 1 = .ok (.iload_n 1, 1) := dkAt dk11atext_cJ0_checkIndex_df160_0_a 1 rfl
theorem dJ0_checkIndex_df160_2 : decode cJ0_checkIndex_df160 2 = .ok (.getstatic 1053, 3) := dkAt dk11atext_cJ0_checkIndex_df160_0_a 2 rfl
theorem dJ0_checkIndex_df160_5 : decode cJ0_checkIndex_df160 5 = .ok (.invokestatic 1059, 3) := dkAt dk11atext_cJ0_checkIndex_df160_0_a 3 rfl
theorem dJ0_checkIndex_df160_8 : decode cJ0_checkIndex_df160 8 = .ok (.pop, 1) := dkAt dk11atext_cJ0_checkIndex_df160_0_a 4 rfl
theorem dJ0_checkIndex_df160_9 : decode cJ0_checkIndex_df160 9 = .ok (.return_, 1) := dkAt dk11atext_cJ0_checkIndex_df160_0_a 5 rfl
noncomputable def dk11atext_cJ1_charAt_3b067_0 : List (Nat × Instr × Nat) := [(0, .iload_n 1, 1), (1, .aload_n 0, 1), (2, .arraylength, 1), (3, .invokestatic 9, 3), (6, .aload_n 0, 1), (7, .iload_n 1, 1), (8, .baload, 1), (9, .sipush 255, 3), (12, .iand, 1), (13, .i2c, 1), (14, .ireturn, 1)]
set_option maxRecDepth 100000 in
theorem dk11atext_cJ1_charAt_3b067_0_a : dkA cJ1_charAt_3b067 dk11atext_cJ1_charAt_3b067_0 = true := by decide +kernel
theorem dJ1_charAt_3b067_0 : decode cJ1_charAt_3b067 0 = .ok (.iload_n 1, 1) := dkAt dk11atext_cJ1_charAt_3b067_0_a 0 rfl
theorem dJ1_charAt_3b067_1 : decode cJ1_charAt_3b067 1 = .ok (.aload_n 0, 1) := dkAt dk11atext_cJ1_charAt_3b067_0_a 1 rfl
theorem dJ1_charAt_3b067_2 : decode cJ1_charAt_3b067 2 = .ok (.arraylength, 1) := dkAt dk11atext_cJ1_charAt_3b067_0_a 2 rfl
theorem dJ1_charAt_3b067_3 : decode cJ1_charAt_3b067 3 = .ok (.invokestatic 9, 3) := dkAt dk11atext_cJ1_charAt_3b067_0_a 3 rfl
theorem dJ1_charAt_3b067_6 : decode cJ1_charAt_3b067 6 = .ok (.aload_n 0, 1) := dkAt dk11atext_cJ1_charAt_3b067_0_a 4 rfl
theorem dJ1_charAt_3b067_7 : decode cJ1_charAt_3b067 7 = .ok (.iload_n 1, 1) := dkAt dk11atext_cJ1_charAt_3b067_0_a 5 rfl
theorem dJ1_charAt_3b067_8 : decode cJ1_charAt_3b067 8 = .ok (.baload, 1) := dkAt dk11atext_cJ1_charAt_3b067_0_a 6 rfl
theorem dJ1_charAt_3b067_9 : decode cJ1_charAt_3b067 9 = .ok (.sipush 255, 3) := dkAt dk11atext_cJ1_charAt_3b067_0_a 7 rfl
theorem dJ1_charAt_3b067_12 : decode cJ1_charAt_3b067 12 = .ok (.iand, 1) := dkAt dk11atext_cJ1_charAt_3b067_0_a 8 rfl
theorem dJ1_charAt_3b067_13 : decode cJ1_charAt_3b067 13 = .ok (.i2c, 1) := dkAt dk11atext_cJ1_charAt_3b067_0_a 9 rfl
theorem dJ1_charAt_3b067_14 : decode cJ1_charAt_3b067 14 = .ok (.ireturn, 1) := dkAt dk11atext_cJ1_charAt_3b067_0_a 10 rfl
noncomputable def dk11atext_cJ0_charAt_5068e_0 : List (Nat × Instr × Nat) := [(0, .aload_n 0, 1), (1, .invokevirtual 492, 3), (4, .ifCond .eq 12, 3), (7, .aload_n 0, 1), (8, .getfield 9, 3), (11, .iload_n 1, 1), (12, .invokestatic 495, 3), (15, .ireturn, 1)]
set_option maxRecDepth 100000 in
theorem dk11atext_cJ0_charAt_5068e_0_a : dkA cJ0_charAt_5068e dk11atext_cJ0_charAt_5068e_0 = true := by decide +kernel
theorem dJ0_charAt_5068e_0 : decode cJ0_charAt_5068e 0 = .ok (.aload_n 0, 1) := dkAt dk11atext_cJ0_charAt_5068e_0_a 0 rfl
theorem dJ0_charAt_5068e_1 : decode cJ0_charAt_5068e 1 = .ok (.invokevirtual 492, 3) := dkAt dk11atext_cJ0_charAt_5068e_0_a 1 rfl
theorem dJ0_charAt_5068e_4 : decode cJ0_charAt_5068e 4 = .ok (.ifCond .eq 12, 3) := dkAt dk11atext_cJ0_charAt_5068e_0_a 2 rfl
theorem dJ0_charAt_5068e_7 : decode cJ0_charAt_5068e 7 = .ok (.aload_n 0, 1) := dkAt dk11atext_cJ0_charAt_5068e_0_a 3 rfl
theorem dJ0_charAt_5068e_8 : decode cJ0_charAt_5068e 8 = .ok (.getfield 9, 3) := dkAt dk11atext_cJ0_charAt_5068e_0_a 4 rfl
theorem dJ0_charAt_5068e_11 : decode cJ0_charAt_5068e 11 = .ok (.iload_n 1, 1) := dkAt dk11atext_cJ0_charAt_5068e_0_a 5 rfl
theorem dJ0_charAt_5068e_12 : decode cJ0_charAt_5068e 12 = .ok (.invokestatic 495, 3) := dkAt dk11atext_cJ0_charAt_5068e_0_a 6 rfl
theorem dJ0_charAt_5068e_15 : decode cJ0_charAt_5068e 15 = .ok (.ireturn, 1) := dkAt dk11atext_cJ0_charAt_5068e_0_a 7 rfl
theorem va_T_cong {ty : FieldType} {t N : Nat} {f g : Nat → Value} {A : Nat → Prop} {U : State} {H : Heap} (h : va_T ty t N f A U H) (he : ∀ j, j < N → f j = g j) : va_T ty t N g A U H := by
  obtain ⟨cell, h1, h2, h3, h4, h5, h6, h7⟩ := h
  exact ⟨cell, h1, h2, h3, h4, h5, fun j hj => (h6 j hj).trans (congrArg some (he j hj)), h7⟩
noncomputable def sTab : List (String × Nat × String) := [(RX5, 81, "see "), (RX5, 83, "hide "), (RX5, 85, "sight "), (RX5, 87, "drift "), (RX5, 112, "hkrcms"), (RX5, 118, "<=>"), (RX12, 101, "hkrcms"), (RX12, 107, "<=>"), (RX12, 119, "ee "), (RX12, 125, "ight "), (RX12, 130, "hide "), (RX12, 132, "drift ")]
noncomputable def sLen (i : Nat) : Nat := [4, 5, 6, 6, 6, 3, 6, 3, 3, 5, 5, 6].getD i 0
theorem sLen_lt0 {i : Nat} (h : i < 12) : sLen i < 7 := (by decide : ∀ i, i < 12 → sLen i < 7) i h
noncomputable def sTx (i : Nat) : List Nat := [[115, 101, 101, 32], [104, 105, 100, 101, 32], [115, 105, 103, 104, 116, 32], [100, 114, 105, 102, 116, 32], [104, 107, 114, 99, 109, 115], [60, 61, 62], [104, 107, 114, 99, 109, 115], [60, 61, 62], [101, 101, 32], [105, 103, 104, 116, 32], [104, 105, 100, 101, 32], [100, 114, 105, 102, 116, 32]].getD i []
theorem sTx_len {i : Nat} (h : i < 12) : (sTx i).length = sLen i := (by decide : ∀ i, i < 12 → (sTx i).length = sLen i) i h
theorem sTx_ch {i k : Nat} (h : i < 12) (hk : k < sLen i) : 0 < (sTx i).getD k 0 ∧ (sTx i).getD k 0 < 128 := (by decide +kernel : ∀ i, i < 12 → ∀ k, k < 7 → k < sLen i → 0 < (sTx i).getD k 0 ∧ (sTx i).getD k 0 < 128) i h k (by have := sLen_lt0 h; omega) hk
/-- the formatter of the machine's own messages: it may be null -/
noncomputable def sF (sV : Nat → Nat) : Option Nat := if sV 12 = 0 then none else some (sV 13)
theorem sLen_lt {i : Nat} (h : i < 12) : sLen i < 7 := (by decide : ∀ i, i < 12 → sLen i < 7) i h
/-- the texts of the words, and what says that a text is of bytes -/
noncomputable def Gs (sK sV : Nat → Nat) (A : Nat → Prop) (U : State) : Prop := (∀ i, i < 12 → vk_R (sTab.getD i ("", 0, "")).1 (sTab.getD i ("", 0, "")).2.1 (sTab.getD i ("", 0, "")).2.2 (sK i) U) ∧ (∀ i, i < 12 → va_O "java/lang/String" (sK i) A U U.heap ∧ va_OF "java/lang/String" "coder" "B" (.int 0) (sK i) A U U.heap ∧ va_OF "java/lang/String" "value" "[B" (.ref (sV i)) (sK i) A U U.heap ∧ va_T .byte (sV i) (sLen i) (fun k => .int (nI ((sTx i).getD k 0))) A U U.heap) ∧ va_Z "java/lang/String" "COMPACT_STRINGS" "Z" (.int 1) A U U.heap ∧ va_Z "jdk/internal/util/Preconditions" "SIOOBE_FORMATTER" "Ljava/util/function/BiFunction;" (va_rf (sF sV)) A U U.heap
theorem Gs.same {sK sV : Nat → Nat} {A : Nat → Prop} {u U : State} (h : Gs sK sV A u) (hvm : u.vm = U.vm) (hh : U.heap = u.heap) : Gs sK sV A U := by
  obtain ⟨h1, h5, h6, h7⟩ := h
  have hv : u.vm.Alike U.vm := by rw [hvm]; exact Vm.Alike.refl _
  refine ⟨fun i hi => (h1 i hi).same hvm.symm, fun i hi => ?_, ?_, ?_⟩
  · obtain ⟨a, b, c, d⟩ := h5 i hi
    rw [hh]
    exact ⟨a.moved hv, b.moved hv, c.moved hv, d.moved hv⟩
  · rw [hh]; exact h6.moved hv
  · rw [hh]; exact h7.moved hv
theorem Gs.call {sK sV : Nat → Nat} {A B : Nat → Prop} {s U : State} {H : Heap} {locs : List Loc} (h : Gs sK sV A s) (hS : va_S A s.heap H locs) (hU : U.heap = H) (hW : s.WarmedH U.vm) (hB : ∀ q, B q → A q) : Gs sK sV B U := by
  obtain ⟨h1, h5, h6, h7⟩ := h
  refine ⟨fun i hi => (h1 i hi).warm hW, fun i hi => ?_, ?_, ?_⟩
  · obtain ⟨a, b, c, d⟩ := h5 i hi
    rw [hU]
    exact ⟨((a.kept (H1 := H) hS.2.1).moved hW.alike).narrow hB, ((b.kept (H1 := H) hS.2.1).moved hW.alike).narrow hB, ((c.kept (H1 := H) hS.2.1).moved hW.alike).narrow hB, ((d.kept (H1 := H) hS.2.1).moved hW.alike).narrow hB⟩
  · rw [hU]; exact ((h6.kept (H1 := H) hS.2.1).moved hW.alike).narrow hB
  · rw [hU]; exact ((h7.kept (H1 := H) hS.2.1).moved hW.alike).narrow hB
theorem Gs.callF {sK sV : Nat → Nat} {A : Nat → Prop} {s U : State} {H : Heap} {locs : List Loc} (h : Gs sK sV A s) (hS : va_S A s.heap H locs) (hU : U.heap = H) (hW : s.WarmedH U.vm) : Gs sK sV (fun _ => False) U := h.call hS hU hW (fun _ q => q.elim)
theorem ch_sm {c : Nat} (h : c < 128) : ((nI c &&& 255).toUInt32 % 65536).toInt32 = nI c := (by decide +kernel : ∀ c, c < 128 → ((nI c &&& 255).toUInt32 % 65536).toInt32 = nI c) c h
theorem ch_s2 {c : Nat} (h : c < 128) : ((nI c).toUInt32 % 65536).toInt32 = nI c := (by decide +kernel : ∀ c, c < 128 → ((nI c).toUInt32 % 65536).toInt32 = nI c) c h
theorem by_sm {c : Nat} (h : c < 128) : (nI c).toInt8.toInt32 = nI c := (by decide +kernel : ∀ c, c < 128 → (nI c).toInt8.toInt32 = nI c) c h
theorem ch_of (x : Int32) : ∃ k : Nat, k < 65536 ∧ ((x &&& 255).toUInt32 % 65536).toInt32 = nI k := ⟨(x &&& 255).toBitVec.toNat % 65536, Nat.mod_lt _ (by decide), pk_char _⟩

theorem kc_coder_0 : (.fieldLink RJ0 38 "java/lang/String" "COMPACT_STRINGS" "Z" : Cond) ∈ wsJ0_coder_7d493 := kc_of 385 rfl rfl rfl
theorem kc_coder_1 : (.fieldLink RJ0 15 "java/lang/String" "coder" "B" : Cond) ∈ wsJ0_coder_7d493 := kc_of 1577 rfl rfl rfl
set_option maxHeartbeats 4000000 in
set_option maxRecDepth 100000 in
theorem c_coder (l : Launch) (dC : Nat → ClassId) (dI : Nat → Nat → Nat) (sK sV : Nat → Nat) (i : Nat) (hi12 : i < 12) : Met l yJ0_coder_7d493 wsJ0_coder_7d493 ({ frames := 0, cells := 0, slots := 0, locals := 0 } : Room) (va_Pc [.ref (sK i)] (fun U => Gs sK sV (fun _ => False) U)) (vp_Si (fun r => r = 0)) 0 0 (fun _ => False) := by
  refine met_ofQ (cc := cJ0_coder_7d493) (maxL := 1) (ret := (some .byte)) (by decide) rfl ?_
  intro p e s m args below meth c s₁ Q B hml hv hQ
  obtain ⟨rfl, hE⟩ := hv
  have hx := B.exec
  have hb := B.bytes
  have hr := B.returns
  have hts := atoms_spec (ws := wsJ0_coder_7d493) B.pre
  have hown : s.vm.findClass RJ0 = some m.cls := findClass_of_methodNamed B.named
  have hlocks := B.notSynchronized
  obtain ⟨A, hAe⟩ : ∃ A : Nat → Prop, A = fun _ => False := ⟨_, rfl⟩
  rw [← hAe] at hQ hE
  have hS : va_S A s.heap s.heap [] := va_S.rf
  have hl := lv_entry [.ref (sK i)] (n := 1) (Nat.le_of_ble_eq_true rfl)
  rw [lg_entry_eq]
  generalize (lg_sl [.ref (sK i)] ++ List.replicate (1 - (lg_sl [.ref (sK i)]).length) Slot.unset).toArray = ls at hl ⊢
  generalize hag : ([.ref (sK i)] : List Value).toArray = args at hts hQ ⊢
  have hl : lv_has ls 1 [(0, .ref (sK i))] := hl
  refine va_gets (C := "java/lang/String") (n := "COMPACT_STRINGS") (d := "Z") (v := .int 1) hx hb hE.2.2.1 hS hown (hts (.fieldLink RJ0 38 "java/lang/String" "COMPACT_STRINGS" "Z") kc_coder_0) (fun _ h9 => h9) dJ0_coder_7d493_0 ?_
  refine lv_if_eq (tgt := 13) hx hb dJ0_coder_7d493_3 (by decide) (fun c_1 => absurd c_1 (by decide)) (fun _ => ?_)
  refine lv_aload_n hx hb dJ0_coder_7d493_6 rfl (lv_at hl 0 rfl) ?_
  refine vk_getf (o := "java/lang/String") (n := "coder") (d := "B") (v := .int 0) hx hb (hE.2.1 i hi12).2.1 hS hown (hts (.fieldLink RJ0 15 "java/lang/String" "coder" "B") kc_coder_1) (fun _ h9 => h9) dJ0_coder_7d493_7 ?_
  refine lv_goto (tgt := 14) hx hb dJ0_coder_7d493_10 (by decide) ?_
  rw [hQ]
  exact W.zret (v := 0) hx hb hr rfl (fun tQ htQ hWQ => ⟨0, rfl, rfl, by rw [htQ]⟩) (fun q hq => absurd hq List.not_mem_nil) dJ0_coder_7d493_14

theorem shr0 {n : Nat} (h : n < 7) : nI n >>> ((0 : Int32) &&& 31) = nI n := (by decide : ∀ n, n < 7 → nI n >>> ((0 : Int32) &&& 31) = nI n) n h

theorem kc_len_0 : (.fieldLink RJ0 9 "java/lang/String" "value" "[B" : Cond) ∈ wsJ0_length_8abf5 := kc_of 1576 rfl rfl rfl
set_option maxHeartbeats 4000000 in
set_option maxRecDepth 100000 in
theorem c_len (l : Launch) (dC : Nat → ClassId) (dI : Nat → Nat → Nat) (sK sV : Nat → Nat) (i : Nat) (hi12 : i < 12) : Met l yJ0_length_8abf5 wsJ0_length_8abf5 ({ frames := 1, cells := 0, slots := 0, locals := 20 } : Room) (va_Pc [.ref (sK i)] (fun U => Gs sK sV (fun _ => False) U)) (vp_Si (fun r => r = nI (sLen i))) 0 0 (fun _ => False) := by
  refine met_ofQ (cc := cJ0_length_8abf5) (maxL := 1) (ret := (some .int)) (by decide) rfl ?_
  intro p e s m args below meth c s₁ Q B hml hv hQ
  obtain ⟨rfl, hE⟩ := hv
  have hx := B.exec
  have hb := B.bytes
  have hr := B.returns
  have hts := atoms_spec (ws := wsJ0_length_8abf5) B.pre
  have hown : s.vm.findClass RJ0 = some m.cls := findClass_of_methodNamed B.named
  have hlocks := B.notSynchronized
  obtain ⟨A, hAe⟩ : ∃ A : Nat → Prop, A = fun _ => False := ⟨_, rfl⟩
  rw [← hAe] at hQ hE
  have hS : va_S A s.heap s.heap [] := va_S.rf
  have hl := lv_entry [.ref (sK i)] (n := 1) (Nat.le_of_ble_eq_true rfl)
  rw [lg_entry_eq]
  generalize (lg_sl [.ref (sK i)] ++ List.replicate (1 - (lg_sl [.ref (sK i)]).length) Slot.unset).toArray = ls at hl ⊢
  generalize hag : ([.ref (sK i)] : List Value).toArray = args at hts hQ ⊢
  have hl : lv_has ls 1 [(0, .ref (sK i))] := hl
  refine lv_aload_n hx hb dJ0_length_8abf5_0 rfl (lv_at hl 0 rfl) ?_
  refine vk_getf (o := "java/lang/String") (n := "value") (d := "[B") (v := .ref (sV i)) hx hb (hE.2.1 i hi12).2.2.1 hS hown (hts (.fieldLink RJ0 9 "java/lang/String" "value" "[B") kc_len_0) (fun _ h9 => h9) dJ0_length_8abf5_1 ?_
  refine va_tlen (v := nI (sLen i)) hx hb (hE.2.1 i hi12).2.2.2 hS rfl dJ0_length_8abf5_4 ?_
  refine lv_aload_n hx hb dJ0_length_8abf5_5 rfl (lv_at hl 0 rfl) ?_
  refine vp_callSi (va_runV (As := []) (rest := [.int (nI (sLen i))]) ⟨hx, hb, hml, hown, hts⟩ (c_coder l dC dI sK sV i hi12) (cwV 0 hts gJ0_length_8abf5_J0_coder_7d493 rfl rfl rfl hd_yJ0_coder_7d493 ⟨Nat.le_of_ble_eq_true rfl, Nat.le_of_ble_eq_true rfl⟩) ⟨fun a U g mk q => by obtain ⟨q0, qhE⟩ := q; exact ⟨q0, qhE.same rfl rfl⟩, va_Orecv (hE.2.1 i hi12).1 hS, fun U hU hW => ⟨rfl, hE.callF hS hU hW⟩⟩ rfl rfl hl.1 rfl (lv_room (Nat.le_of_ble_eq_true rfl)) dJ0_length_8abf5_6 ⟨Nat.le_of_ble_eq_true rfl, Nat.le_of_ble_eq_true rfl⟩).run (fun r_1 hw_2 => ?_)
  refine qi_as (y := 0) (hw_2) ?_
  refine lv_ishr hx hb dJ0_length_8abf5_9 ?_
  refine qi_as (y := nI (sLen i)) (shr0 (sLen_lt hi12)) ?_
  rw [hQ]
  exact W.iret (v := nI (sLen i)) hx hb hr (fun tQ htQ hWQ => ⟨nI (sLen i), rfl, rfl, by rw [htQ]⟩) (fun q hq => absurd hq List.not_mem_nil) dJ0_length_8abf5_10

theorem kc_latin_0 : (.fieldLink RJ0 38 "java/lang/String" "COMPACT_STRINGS" "Z" : Cond) ∈ wsJ0_isLatin1_aae02 := kc_of 385 rfl rfl rfl
theorem kc_latin_1 : (.fieldLink RJ0 15 "java/lang/String" "coder" "B" : Cond) ∈ wsJ0_isLatin1_aae02 := kc_of 1577 rfl rfl rfl
set_option maxHeartbeats 4000000 in
set_option maxRecDepth 100000 in
theorem c_latin (l : Launch) (dC : Nat → ClassId) (dI : Nat → Nat → Nat) (sK sV : Nat → Nat) (i : Nat) (hi12 : i < 12) : Met l yJ0_isLatin1_aae02 wsJ0_isLatin1_aae02 ({ frames := 0, cells := 0, slots := 0, locals := 0 } : Room) (va_Pc [.ref (sK i)] (fun U => Gs sK sV (fun _ => False) U)) (vp_Si (fun r => r = 1)) 0 0 (fun _ => False) := by
  refine met_ofQ (cc := cJ0_isLatin1_aae02) (maxL := 1) (ret := (some .boolean)) (by decide) rfl ?_
  intro p e s m args below meth c s₁ Q B hml hv hQ
  obtain ⟨rfl, hE⟩ := hv
  have hx := B.exec
  have hb := B.bytes
  have hr := B.returns
  have hts := atoms_spec (ws := wsJ0_isLatin1_aae02) B.pre
  have hown : s.vm.findClass RJ0 = some m.cls := findClass_of_methodNamed B.named
  have hlocks := B.notSynchronized
  obtain ⟨A, hAe⟩ : ∃ A : Nat → Prop, A = fun _ => False := ⟨_, rfl⟩
  rw [← hAe] at hQ hE
  have hS : va_S A s.heap s.heap [] := va_S.rf
  have hl := lv_entry [.ref (sK i)] (n := 1) (Nat.le_of_ble_eq_true rfl)
  rw [lg_entry_eq]
  generalize (lg_sl [.ref (sK i)] ++ List.replicate (1 - (lg_sl [.ref (sK i)]).length) Slot.unset).toArray = ls at hl ⊢
  generalize hag : ([.ref (sK i)] : List Value).toArray = args at hts hQ ⊢
  have hl : lv_has ls 1 [(0, .ref (sK i))] := hl
  refine va_gets (C := "java/lang/String") (n := "COMPACT_STRINGS") (d := "Z") (v := .int 1) hx hb hE.2.2.1 hS hown (hts (.fieldLink RJ0 38 "java/lang/String" "COMPACT_STRINGS" "Z") kc_latin_0) (fun _ h9 => h9) dJ0_isLatin1_aae02_0 ?_
  refine lv_if_eq (tgt := 17) hx hb dJ0_isLatin1_aae02_3 (by decide) (fun c_1 => absurd c_1 (by decide)) (fun _ => ?_)
  refine lv_aload_n hx hb dJ0_isLatin1_aae02_6 rfl (lv_at hl 0 rfl) ?_
  refine vk_getf (o := "java/lang/String") (n := "coder") (d := "B") (v := .int 0) hx hb (hE.2.1 i hi12).2.1 hS hown (hts (.fieldLink RJ0 15 "java/lang/String" "coder" "B") kc_latin_1) (fun _ h9 => h9) dJ0_isLatin1_aae02_7 ?_
  refine lv_if_ne (tgt := 17) hx hb dJ0_isLatin1_aae02_10 (by decide) (fun c_2 => absurd c_2 (by decide)) (fun _ => ?_)
  refine lv_iconst (v := 1) hx hb dJ0_isLatin1_aae02_13 (by decide) ?_
  refine lv_goto (tgt := 18) hx hb dJ0_isLatin1_aae02_14 (by decide) ?_
  rw [hQ]
  exact W.zret (v := 1) hx hb hr rfl (fun tQ htQ hWQ => ⟨1, rfl, rfl, by rw [htQ]⟩) (fun q hq => absurd hq List.not_mem_nil) dJ0_isLatin1_aae02_18

set_option maxHeartbeats 4000000 in
set_option maxRecDepth 100000 in
theorem c_chk3 (l : Launch) (dC : Nat → ClassId) (dI : Nat → Nat → Nat) (k n a : Nat) (hkn : k < n) (hn7 : n < 100) : Met l yJ3_checkIndex_8e157 wsJ3_checkIndex_8e157 ({ frames := 0, cells := 0, slots := 0, locals := 0 } : Room) (va_Pc [.int (nI k), .int (nI n), .ref a] (fun U => True)) (vp_Si (fun r => True)) 0 0 (fun _ => False) := by
  refine met_ofQ (cc := cJ3_checkIndex_8e157) (maxL := 3) (ret := (some .int)) (by decide) rfl ?_
  intro p e s m args below meth c s₁ Q B hml hv hQ
  obtain ⟨rfl, -⟩ := hv
  have hx := B.exec
  have hb := B.bytes
  have hr := B.returns
  have hts := atoms_spec (ws := wsJ3_checkIndex_8e157) B.pre
  have hown : s.vm.findClass RJ3 = some m.cls := findClass_of_methodNamed B.named
  have hlocks := B.notSynchronized
  obtain ⟨A, hAe⟩ : ∃ A : Nat → Prop, A = fun _ => False := ⟨_, rfl⟩
  rw [← hAe] at hQ
  have hS : va_S A s.heap s.heap [] := va_S.rf
  have hl := lv_entry [.int (nI k), .int (nI n), .ref a] (n := 3) (Nat.le_of_ble_eq_true rfl)
  rw [lg_entry_eq]
  generalize (lg_sl [.int (nI k), .int (nI n), .ref a] ++ List.replicate (3 - (lg_sl [.int (nI k), .int (nI n), .ref a]).length) Slot.unset).toArray = ls at hl ⊢
  generalize hag : ([.int (nI k), .int (nI n), .ref a] : List Value).toArray = args at hts hQ ⊢
  have hl : lv_has ls 3 [(0, .int (nI k)), (1, .int (nI n)), (2, .ref a)] := hl
  refine lv_iload_n hx hb dJ3_checkIndex_8e157_0 rfl (lv_at hl 0 rfl) ?_
  refine lv_if_lt (tgt := 9) hx hb dJ3_checkIndex_8e157_1 (by decide) (fun c_1 => absurd c_1 (nI_pos (by omega))) (fun c_1 => ?_)
  have c_1 : ¬ k < 0 := fun q => c_1 ((nI_ltI (a := k) (b := 0) (by omega) (by omega)).mpr q)
  refine lv_iload_n hx hb dJ3_checkIndex_8e157_4 rfl (lv_at hl 0 rfl) ?_
  refine lv_iload_n hx hb dJ3_checkIndex_8e157_5 rfl (lv_at hl 1 rfl) ?_
  refine lv_icmp_lt (tgt := 16) hx hb dJ3_checkIndex_8e157_6 (by decide) (fun c_2 => ?_) (fun c_2 => absurd c_2 (not_not_intro (nI_lt hkn (by omega))))
  have c_2 : k < n := (nI_ltI (a := k) (b := n) (by omega) (by omega)).mp c_2
  refine lv_iload_n hx hb dJ3_checkIndex_8e157_16 rfl (lv_at hl 0 rfl) ?_
  rw [hQ]
  exact W.iret (v := nI k) hx hb hr (fun tQ htQ hWQ => ⟨nI k, rfl, trivial, by rw [htQ]⟩) (fun q hq => absurd hq List.not_mem_nil) dJ3_checkIndex_8e157_17

set_option maxHeartbeats 4000000 in
set_option maxRecDepth 100000 in
theorem c_chk3N (l : Launch) (dC : Nat → ClassId) (dI : Nat → Nat → Nat) (k n : Nat) (hkn : k < n) (hn7 : n < 100) : Met l yJ3_checkIndex_8e157 wsJ3_checkIndex_8e157 ({ frames := 0, cells := 0, slots := 0, locals := 0 } : Room) (va_Pc [.int (nI k), .int (nI n), .null] (fun U => True)) (vp_Si (fun r => True)) 0 0 (fun _ => False) := by
  refine met_ofQ (cc := cJ3_checkIndex_8e157) (maxL := 3) (ret := (some .int)) (by decide) rfl ?_
  intro p e s m args below meth c s₁ Q B hml hv hQ
  obtain ⟨rfl, -⟩ := hv
  have hx := B.exec
  have hb := B.bytes
  have hr := B.returns
  have hts := atoms_spec (ws := wsJ3_checkIndex_8e157) B.pre
  have hown : s.vm.findClass RJ3 = some m.cls := findClass_of_methodNamed B.named
  have hlocks := B.notSynchronized
  obtain ⟨A, hAe⟩ : ∃ A : Nat → Prop, A = fun _ => False := ⟨_, rfl⟩
  rw [← hAe] at hQ
  have hS : va_S A s.heap s.heap [] := va_S.rf
  have hl := lv_entry [.int (nI k), .int (nI n), .null] (n := 3) (Nat.le_of_ble_eq_true rfl)
  rw [lg_entry_eq]
  generalize (lg_sl [.int (nI k), .int (nI n), .null] ++ List.replicate (3 - (lg_sl [.int (nI k), .int (nI n), .null]).length) Slot.unset).toArray = ls at hl ⊢
  generalize hag : ([.int (nI k), .int (nI n), .null] : List Value).toArray = args at hts hQ ⊢
  have hl : lv_has ls 3 [(0, .int (nI k)), (1, .int (nI n)), (2, .null)] := hl
  refine lv_iload_n hx hb dJ3_checkIndex_8e157_0 rfl (lv_at hl 0 rfl) ?_
  refine lv_if_lt (tgt := 9) hx hb dJ3_checkIndex_8e157_1 (by decide) (fun c_1 => absurd c_1 (nI_pos (by omega))) (fun c_1 => ?_)
  have c_1 : ¬ k < 0 := fun q => c_1 ((nI_ltI (a := k) (b := 0) (by omega) (by omega)).mpr q)
  refine lv_iload_n hx hb dJ3_checkIndex_8e157_4 rfl (lv_at hl 0 rfl) ?_
  refine lv_iload_n hx hb dJ3_checkIndex_8e157_5 rfl (lv_at hl 1 rfl) ?_
  refine lv_icmp_lt (tgt := 16) hx hb dJ3_checkIndex_8e157_6 (by decide) (fun c_2 => ?_) (fun c_2 => absurd c_2 (not_not_intro (nI_lt hkn (by omega))))
  have c_2 : k < n := (nI_ltI (a := k) (b := n) (by omega) (by omega)).mp c_2
  refine lv_iload_n hx hb dJ3_checkIndex_8e157_16 rfl (lv_at hl 0 rfl) ?_
  rw [hQ]
  exact W.iret (v := nI k) hx hb hr (fun tQ htQ hWQ => ⟨nI k, rfl, trivial, by rw [htQ]⟩) (fun q hq => absurd hq List.not_mem_nil) dJ3_checkIndex_8e157_17

theorem kc_chk0_0 : (.fieldLink RJ0 1053 "jdk/internal/util/Preconditions" "SIOOBE_FORMATTER" "Ljava/util/function/BiFunction;" : Cond) ∈ wsJ0_checkIndex_df160 := kc_of 401 rfl rfl rfl
set_option maxHeartbeats 4000000 in
set_option maxRecDepth 100000 in
theorem c_chk0 (l : Launch) (dC : Nat → ClassId) (dI : Nat → Nat → Nat) (sK sV : Nat → Nat) (k n : Nat) (hkn : k < n) (hn7 : n < 100) : Met l yJ0_checkIndex_df160 wsJ0_checkIndex_df160 ({ frames := 1, cells := 0, slots := 0, locals := 22 } : Room) (va_Pc [.int (nI k), .int (nI n)] (fun U => Gs sK sV (fun _ => False) U)) (va_Sv (fun _ => True)) 0 0 (fun _ => False) := by
  refine met_ofQ (cc := cJ0_checkIndex_df160) (maxL := 2) (ret := none) (by decide) rfl ?_
  intro p e s m args below meth c s₁ Q B hml hv hQ
  obtain ⟨rfl, hE⟩ := hv
  have hx := B.exec
  have hb := B.bytes
  have hr := B.returns
  have hts := atoms_spec (ws := wsJ0_checkIndex_df160) B.pre
  have hown : s.vm.findClass RJ0 = some m.cls := findClass_of_methodNamed B.named
  have hlocks := B.notSynchronized
  obtain ⟨A, hAe⟩ : ∃ A : Nat → Prop, A = fun _ => False := ⟨_, rfl⟩
  rw [← hAe] at hQ hE
  have hS : va_S A s.heap s.heap [] := va_S.rf
  have hl := lv_entry [.int (nI k), .int (nI n)] (n := 2) (Nat.le_of_ble_eq_true rfl)
  rw [lg_entry_eq]
  generalize (lg_sl [.int (nI k), .int (nI n)] ++ List.replicate (2 - (lg_sl [.int (nI k), .int (nI n)]).length) Slot.unset).toArray = ls at hl ⊢
  generalize hag : ([.int (nI k), .int (nI n)] : List Value).toArray = args at hts hQ ⊢
  have hl : lv_has ls 2 [(0, .int (nI k)), (1, .int (nI n))] := hl
  refine lv_iload_n hx hb dJ0_checkIndex_df160_0 rfl (lv_at hl 0 rfl) ?_
  refine lv_iload_n hx hb dJ0_checkIndex_df160_1 rfl (lv_at hl 1 rfl) ?_
  refine va_gets (C := "jdk/internal/util/Preconditions") (n := "SIOOBE_FORMATTER") (d := "Ljava/util/function/BiFunction;") (v := va_rf (sF sV)) hx hb hE.2.2.2 hS hown (hts (.fieldLink RJ0 1053 "jdk/internal/util/Preconditions" "SIOOBE_FORMATTER" "Ljava/util/function/BiFunction;") kc_chk0_0) (fun _ h9 => h9) dJ0_checkIndex_df160_2 ?_
  by_cases h12 : sV 12 = 0
  · skip
    refine qq_as (v := .null) (by rw [sF, if_pos h12]; rfl) ?_
    refine vp_callSi (va_runS (As := [.int (nI k), .int (nI n), .null]) (rest := []) ⟨hx, hb, hml, hown, hts⟩ (c_chk3N l dC dI k n hkn hn7) (va_cwS 3 hts gJ0_checkIndex_df160_J3_checkIndex_8e157 rfl rfl rfl hd_yJ3_checkIndex_8e157.2 ⟨Nat.le_of_ble_eq_true rfl, Nat.le_of_ble_eq_true rfl⟩) ⟨fun a U g mk q => ⟨q.1, trivial⟩, fun U hU hW => ⟨rfl, trivial⟩⟩ rfl rfl hl.1 rfl (lv_room (Nat.le_of_ble_eq_true rfl)) dJ0_checkIndex_df160_5 ⟨Nat.le_of_ble_eq_true rfl, Nat.le_of_ble_eq_true rfl⟩).run (fun r_1 hw_2 => ?_)
    refine lv_pop hx hb dJ0_checkIndex_df160_8 rfl ?_
    rw [hQ]
    exact W.vret hx hb hr (fun tQ htQ hWQ => ⟨rfl, trivial, by rw [htQ]⟩) (fun q hq => absurd hq List.not_mem_nil) dJ0_checkIndex_df160_9
  · skip
    refine qq_as (v := .ref (sV 13)) (by rw [sF, if_neg h12]; rfl) ?_
    refine vp_callSi (va_runS (As := [.int (nI k), .int (nI n), .ref (sV 13)]) (rest := []) ⟨hx, hb, hml, hown, hts⟩ (c_chk3 l dC dI k n (sV 13) hkn hn7) (va_cwS 3 hts gJ0_checkIndex_df160_J3_checkIndex_8e157 rfl rfl rfl hd_yJ3_checkIndex_8e157.2 ⟨Nat.le_of_ble_eq_true rfl, Nat.le_of_ble_eq_true rfl⟩) ⟨fun a U g mk q => ⟨q.1, trivial⟩, fun U hU hW => ⟨rfl, trivial⟩⟩ rfl rfl hl.1 rfl (lv_room (Nat.le_of_ble_eq_true rfl)) dJ0_checkIndex_df160_5 ⟨Nat.le_of_ble_eq_true rfl, Nat.le_of_ble_eq_true rfl⟩).run (fun r_3 hw_4 => ?_)
    refine lv_pop hx hb dJ0_checkIndex_df160_8 rfl ?_
    rw [hQ]
    exact W.vret hx hb hr (fun tQ htQ hWQ => ⟨rfl, trivial, by rw [htQ]⟩) (fun q hq => absurd hq List.not_mem_nil) dJ0_checkIndex_df160_9

set_option maxHeartbeats 4000000 in
set_option maxRecDepth 100000 in
theorem c_char1 (l : Launch) (dC : Nat → ClassId) (dI : Nat → Nat → Nat) (sK sV : Nat → Nat) (i k : Nat) (hi12 : i < 12) (hkl : k < sLen i) : Met l yJ1_charAt_3b067 wsJ1_charAt_3b067 ({ frames := 2, cells := 0, slots := 0, locals := 43 } : Room) (va_Pc [.ref (sV i), .int (nI k)] (fun U => Gs sK sV (fun _ => False) U)) (vp_Si (fun r => r = nI ((sTx i).getD k 0))) 0 0 (fun _ => False) := by
  refine met_ofQ (cc := cJ1_charAt_3b067) (maxL := 2) (ret := (some .char)) (by decide) rfl ?_
  intro p e s m args below meth c s₁ Q B hml hv hQ
  obtain ⟨rfl, hE⟩ := hv
  have hx := B.exec
  have hb := B.bytes
  have hr := B.returns
  have hts := atoms_spec (ws := wsJ1_charAt_3b067) B.pre
  have hown : s.vm.findClass RJ1 = some m.cls := findClass_of_methodNamed B.named
  have hlocks := B.notSynchronized
  obtain ⟨A, hAe⟩ : ∃ A : Nat → Prop, A = fun _ => False := ⟨_, rfl⟩
  rw [← hAe] at hQ hE
  have hS : va_S A s.heap s.heap [] := va_S.rf
  have hl := lv_entry [.ref (sV i), .int (nI k)] (n := 2) (Nat.le_of_ble_eq_true rfl)
  rw [lg_entry_eq]
  generalize (lg_sl [.ref (sV i), .int (nI k)] ++ List.replicate (2 - (lg_sl [.ref (sV i), .int (nI k)]).length) Slot.unset).toArray = ls at hl ⊢
  generalize hag : ([.ref (sV i), .int (nI k)] : List Value).toArray = args at hts hQ ⊢
  have hl : lv_has ls 2 [(0, .ref (sV i)), (1, .int (nI k))] := hl
  have hs7 := sLen_lt hi12
  refine lv_iload_n hx hb dJ1_charAt_3b067_0 rfl (lv_at hl 1 rfl) ?_
  refine lv_aload_n hx hb dJ1_charAt_3b067_1 rfl (lv_at hl 0 rfl) ?_
  refine va_tlen (v := nI (sLen i)) hx hb (hE.2.1 i hi12).2.2.2 hS rfl dJ1_charAt_3b067_2 ?_
  refine va_csv (va_runS (As := [.int (nI k), .int (nI (sLen i))]) (rest := []) ⟨hx, hb, hml, hown, hts⟩ (c_chk0 l dC dI sK sV k (sLen i) hkl (by have := sLen_lt hi12; omega)) (va_cwS 2 hts gJ1_charAt_3b067_J0_checkIndex_df160 rfl rfl rfl hd_yJ0_checkIndex_df160.2 ⟨Nat.le_of_ble_eq_true rfl, Nat.le_of_ble_eq_true rfl⟩) ⟨fun a U g mk q => by obtain ⟨q0, qhE⟩ := q; exact ⟨q0, qhE.same rfl rfl⟩, fun U hU hW => ⟨rfl, hE.callF hS hU hW⟩⟩ rfl rfl hl.1 rfl (lv_room (Nat.le_of_ble_eq_true rfl)) dJ1_charAt_3b067_3 ⟨Nat.le_of_ble_eq_true rfl, Nat.le_of_ble_eq_true rfl⟩).run (fun hw_2 => ?_)
  refine lv_aload_n hx hb dJ1_charAt_3b067_6 rfl (lv_at hl 0 rfl) ?_
  refine lv_iload_n hx hb dJ1_charAt_3b067_7 rfl (lv_at hl 1 rfl) ?_
  refine va_tb (v := .int (nI ((sTx i).getD k 0))) hx hb (hE.2.1 i hi12).2.2.2 hS (vp_in_nI (n := k) (N := sLen i) (by omega) (by have := sLen_lt hi12; omega)) (by rw [nI_clamp (by omega)]) dJ1_charAt_3b067_8 ?_
  have hch := sTx_ch hi12 (k := k) (by omega)
  refine lv_sipush (v := 255) hx hb dJ1_charAt_3b067_9 (by decide) ?_
  refine lv_iand hx hb dJ1_charAt_3b067_12 ?_
  refine lv_i2c (v := nI ((sTx i).getD k 0)) hx hb dJ1_charAt_3b067_13 (ch_sm (by omega)) ?_
  rw [hQ]
  exact W.zret (v := nI ((sTx i).getD k 0)) hx hb hr (pk_charN (by omega)).1 (fun tQ htQ hWQ => ⟨nI ((sTx i).getD k 0), rfl, rfl, by rw [htQ]⟩) (fun q hq => absurd hq List.not_mem_nil) dJ1_charAt_3b067_14

theorem kc_charAt_0 : (.fieldLink RJ0 9 "java/lang/String" "value" "[B" : Cond) ∈ wsJ0_charAt_5068e := kc_of 1576 rfl rfl rfl
set_option maxHeartbeats 4000000 in
set_option maxRecDepth 100000 in
theorem c_charAt (l : Launch) (dC : Nat → ClassId) (dI : Nat → Nat → Nat) (sK sV : Nat → Nat) (i k : Nat) (hi12 : i < 12) (hkl : k < sLen i) : Met l yJ0_charAt_5068e wsJ0_charAt_5068e ({ frames := 3, cells := 0, slots := 0, locals := 64 } : Room) (va_Pc [.ref (sK i), .int (nI k)] (fun U => Gs sK sV (fun _ => False) U)) (vp_Si (fun r => r = nI ((sTx i).getD k 0))) 0 0 (fun _ => False) := by
  refine met_ofQ (cc := cJ0_charAt_5068e) (maxL := 2) (ret := (some .char)) (by decide) rfl ?_
  intro p e s m args below meth c s₁ Q B hml hv hQ
  obtain ⟨rfl, hE⟩ := hv
  have hx := B.exec
  have hb := B.bytes
  have hr := B.returns
  have hts := atoms_spec (ws := wsJ0_charAt_5068e) B.pre
  have hown : s.vm.findClass RJ0 = some m.cls := findClass_of_methodNamed B.named
  have hlocks := B.notSynchronized
  obtain ⟨A, hAe⟩ : ∃ A : Nat → Prop, A = fun _ => False := ⟨_, rfl⟩
  rw [← hAe] at hQ hE
  have hS : va_S A s.heap s.heap [] := va_S.rf
  have hl := lv_entry [.ref (sK i), .int (nI k)] (n := 2) (Nat.le_of_ble_eq_true rfl)
  rw [lg_entry_eq]
  generalize (lg_sl [.ref (sK i), .int (nI k)] ++ List.replicate (2 - (lg_sl [.ref (sK i), .int (nI k)]).length) Slot.unset).toArray = ls at hl ⊢
  generalize hag : ([.ref (sK i), .int (nI k)] : List Value).toArray = args at hts hQ ⊢
  have hl : lv_has ls 2 [(0, .ref (sK i)), (1, .int (nI k))] := hl
  refine lv_aload_n hx hb dJ0_charAt_5068e_0 rfl (lv_at hl 0 rfl) ?_
  refine vp_callSi (va_runV (As := []) (rest := []) ⟨hx, hb, hml, hown, hts⟩ (c_latin l dC dI sK sV i hi12) (cwV 0 hts gJ0_charAt_5068e_J0_isLatin1_aae02 rfl rfl rfl hd_yJ0_isLatin1_aae02 ⟨Nat.le_of_ble_eq_true rfl, Nat.le_of_ble_eq_true rfl⟩) ⟨fun a U g mk q => by obtain ⟨q0, qhE⟩ := q; exact ⟨q0, qhE.same rfl rfl⟩, va_Orecv (hE.2.1 i hi12).1 hS, fun U hU hW => ⟨rfl, hE.callF hS hU hW⟩⟩ rfl rfl hl.1 rfl (lv_room (Nat.le_of_ble_eq_true rfl)) dJ0_charAt_5068e_1 ⟨Nat.le_of_ble_eq_true rfl, Nat.le_of_ble_eq_true rfl⟩).run (fun r_1 hw_2 => ?_)
  refine qi_as (y := 1) (hw_2) ?_
  refine lv_if_eq (tgt := 16) hx hb dJ0_charAt_5068e_4 (by decide) (fun c_3 => absurd c_3 (by decide)) (fun _ => ?_)
  refine lv_aload_n hx hb dJ0_charAt_5068e_7 rfl (lv_at hl 0 rfl) ?_
  refine vk_getf (o := "java/lang/String") (n := "value") (d := "[B") (v := .ref (sV i)) hx hb (hE.2.1 i hi12).2.2.1 hS hown (hts (.fieldLink RJ0 9 "java/lang/String" "value" "[B") kc_charAt_0) (fun _ h9 => h9) dJ0_charAt_5068e_8 ?_
  refine lv_iload_n hx hb dJ0_charAt_5068e_11 rfl (lv_at hl 1 rfl) ?_
  refine vp_callSi (va_runS (As := [.ref (sV i), .int (nI k)]) (rest := []) ⟨hx, hb, hml, hown, hts⟩ (c_char1 l dC dI sK sV i k hi12 hkl) (va_cwS 2 hts gJ0_charAt_5068e_J1_charAt_3b067 rfl rfl rfl hd_yJ1_charAt_3b067.2 ⟨Nat.le_of_ble_eq_true rfl, Nat.le_of_ble_eq_true rfl⟩) ⟨fun a U g mk q => by obtain ⟨q0, qhE⟩ := q; exact ⟨q0, qhE.same rfl rfl⟩, fun U hU hW => ⟨rfl, hE.callF hS hU hW⟩⟩ rfl rfl hl.1 rfl (lv_room (Nat.le_of_ble_eq_true rfl)) dJ0_charAt_5068e_12 ⟨Nat.le_of_ble_eq_true rfl, Nat.le_of_ble_eq_true rfl⟩).run (fun r_4 hw_5 => ?_)
  obtain rfl := hw_5
  have hch := sTx_ch hi12 (k := k) (by omega)
  rw [hQ]
  exact W.zret (v := nI ((sTx i).getD k 0)) hx hb hr (pk_charN (by omega)).1 (fun tQ htQ hWQ => ⟨nI ((sTx i).getD k 0), rfl, rfl, by rw [htQ]⟩) (fun q hq => absurd hq List.not_mem_nil) dJ0_charAt_5068e_15
