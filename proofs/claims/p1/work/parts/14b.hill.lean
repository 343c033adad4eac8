theorem dX5_textOf_0 : decode cX5_textOf 0 = .ok (.iload_n 0, 1) := by decide +kernel
theorem dX5_textOf_1 : decode cX5_textOf 1 = .ok (.tableswitch 36 0 2 #[27, 30, 33], 27) := by decide +kernel
theorem dX5_textOf_28 : decode cX5_textOf 28 = .ok (.ldc 81, 2) := by decide +kernel
theorem dX5_textOf_30 : decode cX5_textOf 30 = .ok (.areturn, 1) := by decide +kernel
theorem dJ0_coder_7d493_0 : decode cJ0_coder_7d493 0 = .ok (.getstatic 38, 3) := by decide +kernel
theorem dJ0_coder_7d493_3 : decode cJ0_coder_7d493 3 = .ok (.ifCond .eq 10, 3) := by decide +kernel
theorem dJ0_coder_7d493_6 : decode cJ0_coder_7d493 6 = .ok (.aload_n 0, 1) := by decide +kernel
theorem dJ0_coder_7d493_7 : decode cJ0_coder_7d493 7 = .ok (.getfield 15, 3) := by decide +kernel
theorem dJ0_coder_7d493_10 : decode cJ0_coder_7d493 10 = .ok (.goto 4, 3) := by decide +kernel
theorem dJ0_coder_7d493_14 : decode cJ0_coder_7d493 14 = .ok (.ireturn, 1) := by decide +kernel
theorem dJ0_length_8abf5_0 : decode cJ0_length_8abf5 0 = .ok (.aload_n 0, 1) := by decide +kernel
theorem dJ0_length_8abf5_1 : decode cJ0_length_8abf5 1 = .ok (.getfield 9, 3) := by decide +kernel
theorem dJ0_length_8abf5_4 : decode cJ0_length_8abf5 4 = .ok (.arraylength, 1) := by decide +kernel
theorem dJ0_length_8abf5_5 : decode cJ0_length_8abf5 5 = .ok (.aload_n 0, 1) := by decide +kernel
set_option maxRecDepth 20000 in
theorem ggJ0_length_8abf5_J0_coder_7d493 : GoodIn wsJ0_length_8abf5 wsJ0_coder_7d493 := goodIn_r _ [6, 7, 8] (by decide +kernel) (by decide +kernel)
set_option maxRecDepth 20000 in
theorem gJ0_length_8abf5_J0_coder_7d493 : GoodIn wsJ0_length_8abf5 (wsV RJ0 335 RJ0 yJ0_coder_7d493 wsJ0_coder_7d493) := goodIn_app (goodIn_of _ (by decide +kernel)) ggJ0_length_8abf5_J0_coder_7d493
theorem dJ0_length_8abf5_6 : decode cJ0_length_8abf5 6 = .ok (.invokevirtual 335, 3) := by decide +kernel
theorem dJ0_length_8abf5_9 : decode cJ0_length_8abf5 9 = .ok (.ishr, 1) := by decide +kernel
theorem dJ0_length_8abf5_10 : decode cJ0_length_8abf5 10 = .ok (.ireturn, 1) := by decide +kernel
theorem dX5_sameSigns_0 : decode cX5_sameSigns 0 = .ok (.iconst 0, 1) := by decide +kernel
theorem dX5_sameSigns_1 : decode cX5_sameSigns 1 = .ok (.istore_n 2, 1) := by decide +kernel
theorem dX5_sameSigns_2 : decode cX5_sameSigns 2 = .ok (.iload_n 2, 1) := by decide +kernel
theorem dX5_sameSigns_3 : decode cX5_sameSigns 3 = .ok (.aload_n 1, 1) := by decide +kernel
set_option maxRecDepth 20000 in
theorem ggX5_sameSigns_J0_length_8abf5 : GoodIn wsX5_sameSigns wsJ0_length_8abf5 := goodIn_r _ [8, 9, 10, 11, 12, 7, 13, 14, 15] (by decide +kernel) (by decide +kernel)
set_option maxRecDepth 20000 in
theorem gX5_sameSigns_J0_length_8abf5 : GoodIn wsX5_sameSigns (wsV RX5 76 RJ0 yJ0_length_8abf5 wsJ0_length_8abf5) := goodIn_app (goodIn_of _ (by decide +kernel)) ggX5_sameSigns_J0_length_8abf5
theorem dX5_sameSigns_4 : decode cX5_sameSigns 4 = .ok (.invokevirtual 76, 3) := by decide +kernel
theorem dX5_sameSigns_7 : decode cX5_sameSigns 7 = .ok (.if_icmp .ge 41, 3) := by decide +kernel
theorem dX5_sameSigns_10 : decode cX5_sameSigns 10 = .ok (.aload_n 0, 1) := by decide +kernel
theorem dX5_sameSigns_11 : decode cX5_sameSigns 11 = .ok (.getfield 34, 3) := by decide +kernel
theorem dX5_sameSigns_14 : decode cX5_sameSigns 14 = .ok (.iload_n 2, 1) := by decide +kernel
theorem dX5_sameSigns_15 : decode cX5_sameSigns 15 = .ok (.iadd, 1) := by decide +kernel
theorem dX5_sameSigns_16 : decode cX5_sameSigns 16 = .ok (.aload_n 0, 1) := by decide +kernel
theorem dX5_sameSigns_17 : decode cX5_sameSigns 17 = .ok (.getfield 31, 3) := by decide +kernel
theorem dX5_sameSigns_20 : decode cX5_sameSigns 20 = .ok (.if_icmp .ge 28, 3) := by decide +kernel
theorem dX5_sameSigns_48 : decode cX5_sameSigns 48 = .ok (.iload_n 2, 1) := by decide +kernel
theorem dX5_sameSigns_49 : decode cX5_sameSigns 49 = .ok (.ireturn, 1) := by decide +kernel
theorem dX5_textOf_31 : decode cX5_textOf 31 = .ok (.ldc 83, 2) := by decide +kernel
theorem dX5_textOf_33 : decode cX5_textOf 33 = .ok (.areturn, 1) := by decide +kernel
theorem dX5_textOf_34 : decode cX5_textOf 34 = .ok (.ldc 85, 2) := by decide +kernel
theorem dX5_textOf_36 : decode cX5_textOf 36 = .ok (.areturn, 1) := by decide +kernel
theorem dX5_textOf_37 : decode cX5_textOf 37 = .ok (.ldc 87, 2) := by decide +kernel
theorem dX5_textOf_39 : decode cX5_textOf 39 = .ok (.areturn, 1) := by decide +kernel
theorem dX5_readWord_0 : decode cX5_readWord 0 = .ok (.iconst 0, 1) := by decide +kernel
theorem dX5_readWord_1 : decode cX5_readWord 1 = .ok (.istore_n 1, 1) := by decide +kernel
theorem dX5_readWord_2 : decode cX5_readWord 2 = .ok (.iconst 0, 1) := by decide +kernel
theorem dX5_readWord_3 : decode cX5_readWord 3 = .ok (.istore_n 2, 1) := by decide +kernel
theorem dX5_readWord_4 : decode cX5_readWord 4 = .ok (.iload_n 2, 1) := by decide +kernel
theorem dX5_readWord_5 : decode cX5_readWord 5 = .ok (.iconst 4, 1) := by decide +kernel
theorem dX5_readWord_6 : decode cX5_readWord 6 = .ok (.if_icmp .ge 50, 3) := by decide +kernel
theorem dX5_readWord_9 : decode cX5_readWord 9 = .ok (.iload_n 2, 1) := by decide +kernel
set_option maxRecDepth 20000 in
theorem ggX5_readWord_X5_textOf : GoodIn wsX5_readWord wsX5_textOf := goodIn_r _ [9] (by decide +kernel) (by decide +kernel)
set_option maxRecDepth 20000 in
theorem gX5_readWord_X5_textOf : GoodIn wsX5_readWord (va_wsS RX5 62 yX5_textOf wsX5_textOf) := goodIn_app (goodIn_of _ (by decide +kernel)) ggX5_readWord_X5_textOf
theorem dX5_readWord_10 : decode cX5_readWord 10 = .ok (.invokestatic 62, 3) := by decide +kernel
theorem dX5_readWord_13 : decode cX5_readWord 13 = .ok (.astore_n 3, 1) := by decide +kernel
theorem dX5_readWord_14 : decode cX5_readWord 14 = .ok (.aload_n 0, 1) := by decide +kernel
theorem dX5_readWord_15 : decode cX5_readWord 15 = .ok (.aload_n 3, 1) := by decide +kernel
set_option maxRecDepth 20000 in
theorem ggX5_readWord_X5_sameSigns : GoodIn wsX5_readWord wsX5_sameSigns := goodIn_r _ [13, 5, 14, 15, 16, 17, 18, 19, 20, 21, 22, 23, 24, 25, 26, 27, 28, 29, 30, 31, 32, 33, 34, 35, 36, 37, 38, 39, 40, 41, 42, 43, 44, 45, 46, 47, 48, 49, 50, 51, 52, 53, 54, 55, 56, 57, 58, 59, 60, 61, 62, 63, 64, 65, 66, 67, 68, 69, 70, 71, 72, 73, 74, 75] (by decide +kernel) (by decide +kernel)
set_option maxRecDepth 20000 in
theorem gX5_readWord_X5_sameSigns : GoodIn wsX5_readWord (wsV RX5 66 RX5 yX5_sameSigns wsX5_sameSigns) := goodIn_app (goodIn_of _ (by decide +kernel)) ggX5_readWord_X5_sameSigns
theorem dX5_readWord_16 : decode cX5_readWord 16 = .ok (.invokevirtual 66, 3) := by decide +kernel
theorem dX5_readWord_19 : decode cX5_readWord 19 = .ok (.istore 4, 2) := by decide +kernel
theorem dX5_readWord_21 : decode cX5_readWord 21 = .ok (.iload_n 1, 1) := by decide +kernel
theorem dX5_readWord_22 : decode cX5_readWord 22 = .ok (.iload 4, 2) := by decide +kernel
theorem dX5_readWord_24 : decode cX5_readWord 24 = .ok (.invokestatic 70, 3) := by decide +kernel
theorem dX5_readWord_27 : decode cX5_readWord 27 = .ok (.istore_n 1, 1) := by decide +kernel
theorem dX5_readWord_28 : decode cX5_readWord 28 = .ok (.iload 4, 2) := by decide +kernel
theorem dX5_readWord_30 : decode cX5_readWord 30 = .ok (.aload_n 3, 1) := by decide +kernel
set_option maxRecDepth 20000 in
theorem ggX5_readWord_J0_length_8abf5 : GoodIn wsX5_readWord wsJ0_length_8abf5 := goodIn_r _ [20, 21, 22, 23, 24, 19, 25, 26, 27] (by decide +kernel) (by decide +kernel)
set_option maxRecDepth 20000 in
theorem gX5_readWord_J0_length_8abf5 : GoodIn wsX5_readWord (wsV RX5 76 RJ0 yJ0_length_8abf5 wsJ0_length_8abf5) := goodIn_app (goodIn_of _ (by decide +kernel)) ggX5_readWord_J0_length_8abf5
theorem dX5_readWord_31 : decode cX5_readWord 31 = .ok (.invokevirtual 76, 3) := by decide +kernel
theorem dX5_readWord_34 : decode cX5_readWord 34 = .ok (.if_icmp .ne 16, 3) := by decide +kernel
theorem dX5_readWord_50 : decode cX5_readWord 50 = .ok (.iinc 2 1, 3) := by decide +kernel
theorem dX5_readWord_53 : decode cX5_readWord 53 = .ok (.goto (-49), 3) := by decide +kernel
theorem dX5_readWord_56 : decode cX5_readWord 56 = .ok (.aload_n 0, 1) := by decide +kernel
theorem dX5_readWord_57 : decode cX5_readWord 57 = .ok (.dup, 1) := by decide +kernel
theorem dX5_readWord_58 : decode cX5_readWord 58 = .ok (.getfield 34, 3) := by decide +kernel
theorem dX5_readWord_61 : decode cX5_readWord 61 = .ok (.iload_n 1, 1) := by decide +kernel
theorem dX5_readWord_62 : decode cX5_readWord 62 = .ok (.iadd, 1) := by decide +kernel
theorem dX5_readWord_63 : decode cX5_readWord 63 = .ok (.putfield 34, 3) := by decide +kernel
theorem dX5_readWord_66 : decode cX5_readWord 66 = .ok (.iconst (-1), 1) := by decide +kernel
theorem dX5_readWord_67 : decode cX5_readWord 67 = .ok (.ireturn, 1) := by decide +kernel
theorem dX5_read_0 : decode cX5_read 0 = .ok (.aload_n 0, 1) := by decide +kernel
theorem dX5_read_1 : decode cX5_read 1 = .ok (.aload_n 1, 1) := by decide +kernel
theorem dX5_read_2 : decode cX5_read 2 = .ok (.putfield 28, 3) := by decide +kernel
theorem dX5_read_5 : decode cX5_read 5 = .ok (.aload_n 0, 1) := by decide +kernel
theorem dX5_read_6 : decode cX5_read 6 = .ok (.iload_n 2, 1) := by decide +kernel
theorem dX5_read_7 : decode cX5_read 7 = .ok (.putfield 31, 3) := by decide +kernel
theorem dX5_read_10 : decode cX5_read 10 = .ok (.aload_n 0, 1) := by decide +kernel
theorem dX5_read_11 : decode cX5_read 11 = .ok (.iconst 0, 1) := by decide +kernel
theorem dX5_read_12 : decode cX5_read 12 = .ok (.putfield 34, 3) := by decide +kernel
theorem dX5_read_15 : decode cX5_read 15 = .ok (.aload_n 0, 1) := by decide +kernel
theorem dX5_read_16 : decode cX5_read 16 = .ok (.iconst 0, 1) := by decide +kernel
theorem dX5_read_17 : decode cX5_read 17 = .ok (.putfield 37, 3) := by decide +kernel
theorem dX5_read_20 : decode cX5_read 20 = .ok (.aload_n 0, 1) := by decide +kernel
theorem dX5_read_21 : decode cX5_read 21 = .ok (.iconst 3, 1) := by decide +kernel
theorem dX5_read_22 : decode cX5_read 22 = .ok (.putfield 11, 3) := by decide +kernel
theorem dX5_read_25 : decode cX5_read 25 = .ok (.iconst 0, 1) := by decide +kernel
theorem dX5_read_26 : decode cX5_read 26 = .ok (.istore_n 3, 1) := by decide +kernel
theorem dX5_read_27 : decode cX5_read 27 = .ok (.iload_n 3, 1) := by decide +kernel
theorem dX5_read_28 : decode cX5_read 28 = .ok (.bipush 10, 2) := by decide +kernel
theorem dX5_read_30 : decode cX5_read 30 = .ok (.if_icmp .ge 134, 3) := by decide +kernel
theorem dX5_read_33 : decode cX5_read 33 = .ok (.aload_n 0, 1) := by decide +kernel
set_option maxRecDepth 20000 in
theorem ggX5_read_X5_readWord : GoodIn wsX5_read wsX5_readWord := goodIn_r _ [15, 16, 17, 18, 19, 3, 20, 21, 14, 22, 23, 24, 25, 26, 2, 1, 27, 28, 29, 30, 31, 32, 33, 34, 35, 36, 37, 38, 39, 40, 41, 42, 43, 44, 45, 46, 47, 48, 49, 50, 51, 52, 53, 54, 55, 56, 57, 58, 59, 60, 61, 62, 63, 64, 65, 66, 67, 68, 69, 70, 71, 72, 73, 74, 75, 170, 171, 172, 173, 174, 175, 176, 177, 178, 179, 180] (by decide +kernel) (by decide +kernel)
set_option maxRecDepth 20000 in
theorem gX5_read_X5_readWord : GoodIn wsX5_read (wsV RX5 40 RX5 yX5_readWord wsX5_readWord) := goodIn_app (goodIn_of _ (by decide +kernel)) ggX5_read_X5_readWord
theorem dX5_read_34 : decode cX5_read 34 = .ok (.invokevirtual 40, 3) := by decide +kernel
theorem dX5_read_37 : decode cX5_read 37 = .ok (.istore 4, 2) := by decide +kernel
theorem dX5_read_39 : decode cX5_read 39 = .ok (.iload 4, 2) := by decide +kernel
theorem dX5_read_41 : decode cX5_read 41 = .ok (.iconst (-1), 1) := by decide +kernel
theorem dX5_read_42 : decode cX5_read 42 = .ok (.if_icmp .eq 10, 3) := by decide +kernel
theorem dX5_read_52 : decode cX5_read 52 = .ok (.aload_n 0, 1) := by decide +kernel
theorem dX5_read_53 : decode cX5_read 53 = .ok (.getfield 34, 3) := by decide +kernel
theorem dX5_read_56 : decode cX5_read 56 = .ok (.ireturn, 1) := by decide +kernel
theorem dX11_hill_0 : decode cX11_hill 0 = .ok (.aload_n 0, 1) := by decide +kernel
theorem dX11_hill_1 : decode cX11_hill 1 = .ok (.getfield 14, 3) := by decide +kernel
theorem dX11_hill_4 : decode cX11_hill 4 = .ok (.getfield 61, 3) := by decide +kernel
theorem dX11_hill_7 : decode cX11_hill 7 = .ok (.iconst 5, 1) := by decide +kernel
theorem dX11_hill_8 : decode cX11_hill 8 = .ok (.if_icmp .lt 6, 3) := by decide +kernel
theorem dX11_hill_14 : decode cX11_hill 14 = .ok (.aload_n 0, 1) := by decide +kernel
theorem dX11_hill_15 : decode cX11_hill 15 = .ok (.getfield 28, 3) := by decide +kernel
theorem dX11_hill_18 : decode cX11_hill 18 = .ok (.aload_n 0, 1) := by decide +kernel
theorem dX11_hill_19 : decode cX11_hill 19 = .ok (.getfield 14, 3) := by decide +kernel
theorem dX11_hill_22 : decode cX11_hill 22 = .ok (.getfield 57, 3) := by decide +kernel
theorem dX11_hill_25 : decode cX11_hill 25 = .ok (.aload_n 0, 1) := by decide +kernel
theorem dX11_hill_26 : decode cX11_hill 26 = .ok (.getfield 14, 3) := by decide +kernel
theorem dX11_hill_29 : decode cX11_hill 29 = .ok (.getfield 53, 3) := by decide +kernel
set_option maxRecDepth 20000 in
theorem ggX11_hill_X5_read : GoodIn wsX11_hill wsX5_read := goodIn_r _ [13, 14, 15, 16, 17, 18, 19, 20, 21, 22, 23, 24, 25, 26, 9, 27, 28, 29, 30, 31, 32, 33, 34, 35, 36, 37, 38, 39, 40, 41, 42, 43, 44, 45, 46, 47, 48, 49, 50, 51, 52, 53, 54, 55, 56, 57, 58, 59, 60, 61, 62, 63, 64, 65, 66, 67, 68, 69, 70, 71, 72, 73, 74, 75, 76, 77, 78, 79, 80, 81, 82, 83, 84, 85, 86, 87, 88, 89, 90, 91, 92, 93, 94, 95, 96, 97, 98, 99, 100, 101, 102, 103, 104, 105, 106, 107, 108, 109, 110, 111, 112, 113, 114, 115, 116, 117, 118, 119, 120, 121, 122, 123, 124, 125, 126, 127, 128, 129, 130, 131, 132, 133, 134, 135, 136, 137, 138, 139, 140, 141, 142, 143, 144, 145, 146, 147, 148, 149, 150, 151, 152, 153, 154, 155, 156, 157, 158, 159, 160, 161, 162, 163, 164, 165, 166, 167, 168, 169, 170, 171, 172, 173, 174, 175, 176, 177, 178, 179, 180, 181, 210, 211, 212, 213, 214, 215, 216, 217, 218, 219, 220] (by decide +kernel) (by decide +kernel)
set_option maxRecDepth 20000 in
theorem gX11_hill_X5_read : GoodIn wsX11_hill (wsV RX11 64 RX5 yX5_read wsX5_read) := goodIn_app (goodIn_of _ (by decide +kernel)) ggX11_hill_X5_read
theorem dX11_hill_32 : decode cX11_hill 32 = .ok (.invokevirtual 64, 3) := by decide +kernel
theorem dX11_hill_35 : decode cX11_hill 35 = .ok (.istore_n 1, 1) := by decide +kernel
theorem dX11_hill_36 : decode cX11_hill 36 = .ok (.aload_n 0, 1) := by decide +kernel
theorem dX11_hill_37 : decode cX11_hill 37 = .ok (.getfield 14, 3) := by decide +kernel
theorem dX11_hill_40 : decode cX11_hill 40 = .ok (.iconst 0, 1) := by decide +kernel
theorem dX11_hill_41 : decode cX11_hill 41 = .ok (.putfield 53, 3) := by decide +kernel
theorem dX11_hill_44 : decode cX11_hill 44 = .ok (.iload_n 1, 1) := by decide +kernel
theorem dX11_hill_45 : decode cX11_hill 45 = .ok (.iconst (-1), 1) := by decide +kernel
theorem dX11_hill_46 : decode cX11_hill 46 = .ok (.if_icmp .eq 8, 3) := by decide +kernel
theorem dX11_hill_49 : decode cX11_hill 49 = .ok (.bipush (-10), 2) := by decide +kernel
theorem dX11_hill_51 : decode cX11_hill 51 = .ok (.iload_n 1, 1) := by decide +kernel
theorem dX11_hill_52 : decode cX11_hill 52 = .ok (.isub, 1) := by decide +kernel
theorem dX11_hill_53 : decode cX11_hill 53 = .ok (.ireturn, 1) := by decide +kernel
def sLen (i : Nat) : Nat := [4, 5, 6, 6].getD i 0
/-- the texts of the words, and what says that a text is of bytes -/
def Gs (sK sV : Nat → Nat) (A : Nat → Prop) (U : State) : Prop := vk_R RX5 81 "see " (sK 0) U ∧ vk_R RX5 83 "hide " (sK 1) U ∧ vk_R RX5 85 "sight " (sK 2) U ∧ vk_R RX5 87 "drift " (sK 3) U ∧ (∀ i, i < 4 → va_O "java/lang/String" (sK i) A U U.heap ∧ va_OF "java/lang/String" "coder" "B" (.int 0) (sK i) A U U.heap ∧ va_OF "java/lang/String" "value" "[B" (.ref (sV i)) (sK i) A U U.heap ∧ ∃ f : Nat → Value, va_T .byte (sV i) (sLen i) f A U U.heap) ∧ va_Z "java/lang/String" "COMPACT_STRINGS" "Z" (.int 1) A U U.heap
theorem Gs.same {sK sV : Nat → Nat} {A : Nat → Prop} {u U : State} (h : Gs sK sV A u) (hvm : u.vm = U.vm) (hh : U.heap = u.heap) : Gs sK sV A U := by
  obtain ⟨h1, h2, h3, h4, h5, h6⟩ := h
  have hv : u.vm.Alike U.vm := by rw [hvm]; exact Vm.Alike.refl _
  refine ⟨h1.same hvm.symm, h2.same hvm.symm, h3.same hvm.symm, h4.same hvm.symm, fun i hi => ?_, ?_⟩
  · obtain ⟨a, b, c, f, d⟩ := h5 i hi
    rw [hh]
    exact ⟨a.moved hv, b.moved hv, c.moved hv, f, d.moved hv⟩
  · rw [hh]; exact h6.moved hv
theorem Gs.call {sK sV : Nat → Nat} {A B : Nat → Prop} {s U : State} {H : Heap} {locs : List Loc} (h : Gs sK sV A s) (hS : va_S A s.heap H locs) (hU : U.heap = H) (hW : s.WarmedH U.vm) (hB : ∀ q, B q → A q) : Gs sK sV B U := by
  obtain ⟨h1, h2, h3, h4, h5, h6⟩ := h
  refine ⟨h1.warm hW, h2.warm hW, h3.warm hW, h4.warm hW, fun i hi => ?_, ?_⟩
  · obtain ⟨a, b, c, f, d⟩ := h5 i hi
    rw [hU]
    exact ⟨((a.kept (H1 := H) hS.2.1).moved hW.alike).narrow hB, ((b.kept (H1 := H) hS.2.1).moved hW.alike).narrow hB, ((c.kept (H1 := H) hS.2.1).moved hW.alike).narrow hB, f, ((d.kept (H1 := H) hS.2.1).moved hW.alike).narrow hB⟩
  · rw [hU]; exact ((h6.kept (H1 := H) hS.2.1).moved hW.alike).narrow hB
theorem Gs.callF {sK sV : Nat → Nat} {A : Nat → Prop} {s U : State} {H : Heap} {locs : List Loc} (h : Gs sK sV A s) (hS : va_S A s.heap H locs) (hU : U.heap = H) (hW : s.WarmedH U.vm) : Gs sK sV (fun _ => False) U := h.call hS hU hW (fun _ q => q.elim)

set_option maxHeartbeats 4000000 in
set_option maxRecDepth 100000 in
theorem c_text0 (l : Launch) (dC : Nat → ClassId) (dI : Nat → Nat → Nat) (sK sV : Nat → Nat) : Met l yX5_textOf wsX5_textOf ({ frames := 0, cells := 0, slots := 0, locals := 0 } : Room) (va_Pc [.int 0] (fun U => Gs sK sV (fun _ => False) U)) (va_Sq (fun r => r = some (sK 0))) 0 0 (fun _ => False) := by
  refine met_ofQ (cc := cX5_textOf) (maxL := 1) (ret := (some (.object "java/lang/String"))) (by decide) rfl ?_
  intro p e s m args below meth c s₁ Q B hml hv hQ
  obtain ⟨rfl, hE⟩ := hv
  have hx := B.exec
  have hb := B.bytes
  have hr := B.returns
  have hts := atoms_spec (ws := wsX5_textOf) B.pre
  have hown : s.vm.findClass RX5 = some m.cls := findClass_of_methodNamed B.named
  have hlocks := B.notSynchronized
  obtain ⟨A, hAe⟩ : ∃ A : Nat → Prop, A = fun _ => False := ⟨_, rfl⟩
  rw [← hAe] at hQ hE
  have hS : va_S A s.heap s.heap [] := va_S.rf
  have hl := lv_entry [.int 0] (n := 1) (Nat.le_of_ble_eq_true rfl)
  rw [lg_entry_eq]
  generalize (lg_sl [.int 0] ++ List.replicate (1 - (lg_sl [.int 0]).length) Slot.unset).toArray = ls at hl ⊢
  generalize hag : ([.int 0] : List Value).toArray = args at hts hQ ⊢
  have hl : lv_has ls 1 [(0, .int 0)] := hl
  refine lv_iload_n hx hb dX5_textOf_0 rfl (lv_at hl 0 rfl) ?_
  refine lv_tableIn (tgt := 28) hx hb dX5_textOf_1 (by decide) (by decide) rfl (by decide) ?_
  refine va_ldcS hx hb hown hE.1 dX5_textOf_28 ?_
  rw [hQ]
  exact W.aret (v := .ref (sK 0)) hx hb hr (Or.inl ⟨_, rfl⟩) (Or.inr ⟨_, rfl⟩) (fun tQ htQ hWQ => ⟨some (sK 0), rfl, rfl, by rw [htQ]⟩) (fun q hq => absurd hq List.not_mem_nil) dX5_textOf_30

theorem kc_coder0_0 : (.fieldLink RJ0 38 "java/lang/String" "COMPACT_STRINGS" "Z" : Cond) ∈ wsJ0_coder_7d493 := by decide +kernel
theorem kc_coder0_1 : (.fieldLink RJ0 15 "java/lang/String" "coder" "B" : Cond) ∈ wsJ0_coder_7d493 := by decide +kernel
set_option maxHeartbeats 4000000 in
set_option maxRecDepth 100000 in
theorem c_coder0 (l : Launch) (dC : Nat → ClassId) (dI : Nat → Nat → Nat) (sK sV : Nat → Nat) : Met l yJ0_coder_7d493 wsJ0_coder_7d493 ({ frames := 0, cells := 0, slots := 0, locals := 0 } : Room) (va_Pc [.ref (sK 0)] (fun U => Gs sK sV (fun _ => False) U)) (vp_Si (fun r => r = 0)) 0 0 (fun _ => False) := by
  refine met_ofQ (cc := cJ0_coder_7d493) (maxL := 1) (ret := (some .byte)) (by decide) rfl ?_
  intro p e s m args below meth c s₁ Q B hml hv hQ
  obtain ⟨rfl, hE⟩ := hv
  have hx := B.exec
  have hb := B.bytes
  have hr := B.returns
  have hts := atoms_spec (ws := wsJ0_coder_7d493) B.pre
  have hown : s.vm.findClass RJ0 = some m.cls := findClass_of_methodNamed B.named
  have hlocks := B.notSynchronized
  obtain ⟨A, hAe⟩ : ∃ A : Nat → Prop, A = fun _ => False := ⟨_, rfl⟩
  rw [← hAe] at hQ hE
  have hS : va_S A s.heap s.heap [] := va_S.rf
  have hl := lv_entry [.ref (sK 0)] (n := 1) (Nat.le_of_ble_eq_true rfl)
  rw [lg_entry_eq]
  generalize (lg_sl [.ref (sK 0)] ++ List.replicate (1 - (lg_sl [.ref (sK 0)]).length) Slot.unset).toArray = ls at hl ⊢
  generalize hag : ([.ref (sK 0)] : List Value).toArray = args at hts hQ ⊢
  have hl : lv_has ls 1 [(0, .ref (sK 0))] := hl
  refine va_gets (C := "java/lang/String") (n := "COMPACT_STRINGS") (d := "Z") (v := .int 1) hx hb hE.2.2.2.2.2 hS hown (hts (.fieldLink RJ0 38 "java/lang/String" "COMPACT_STRINGS" "Z") kc_coder0_0) (fun _ h9 => h9) dJ0_coder_7d493_0 ?_
  refine lv_if_eq (tgt := 13) hx hb dJ0_coder_7d493_3 (by decide) (fun c_1 => absurd c_1 (by decide)) (fun _ => ?_)
  refine lv_aload_n hx hb dJ0_coder_7d493_6 rfl (lv_at hl 0 rfl) ?_
  refine vk_getf (o := "java/lang/String") (n := "coder") (d := "B") (v := .int 0) hx hb (hE.2.2.2.2.1 0 (by omega)).2.1 hS hown (hts (.fieldLink RJ0 15 "java/lang/String" "coder" "B") kc_coder0_1) (fun _ h9 => h9) dJ0_coder_7d493_7 ?_
  refine lv_goto (tgt := 14) hx hb dJ0_coder_7d493_10 (by decide) ?_
  rw [hQ]
  exact W.zret (v := 0) hx hb hr rfl (fun tQ htQ hWQ => ⟨0, rfl, rfl, by rw [htQ]⟩) (fun q hq => absurd hq List.not_mem_nil) dJ0_coder_7d493_14

theorem kc_len0_0 : (.fieldLink RJ0 9 "java/lang/String" "value" "[B" : Cond) ∈ wsJ0_length_8abf5 := by decide +kernel
set_option maxHeartbeats 4000000 in
set_option maxRecDepth 100000 in
theorem c_len0 (l : Launch) (dC : Nat → ClassId) (dI : Nat → Nat → Nat) (sK sV : Nat → Nat) : Met l yJ0_length_8abf5 wsJ0_length_8abf5 ({ frames := 1, cells := 0, slots := 0, locals := 20 } : Room) (va_Pc [.ref (sK 0)] (fun U => Gs sK sV (fun _ => False) U)) (vp_Si (fun r => r = 4)) 0 0 (fun _ => False) := by
  refine met_ofQ (cc := cJ0_length_8abf5) (maxL := 1) (ret := (some .int)) (by decide) rfl ?_
  intro p e s m args below meth c s₁ Q B hml hv hQ
  obtain ⟨rfl, hE⟩ := hv
  have hx := B.exec
  have hb := B.bytes
  have hr := B.returns
  have hts := atoms_spec (ws := wsJ0_length_8abf5) B.pre
  have hown : s.vm.findClass RJ0 = some m.cls := findClass_of_methodNamed B.named
  have hlocks := B.notSynchronized
  obtain ⟨A, hAe⟩ : ∃ A : Nat → Prop, A = fun _ => False := ⟨_, rfl⟩
  rw [← hAe] at hQ hE
  have hS : va_S A s.heap s.heap [] := va_S.rf
  have hl := lv_entry [.ref (sK 0)] (n := 1) (Nat.le_of_ble_eq_true rfl)
  rw [lg_entry_eq]
  generalize (lg_sl [.ref (sK 0)] ++ List.replicate (1 - (lg_sl [.ref (sK 0)]).length) Slot.unset).toArray = ls at hl ⊢
  generalize hag : ([.ref (sK 0)] : List Value).toArray = args at hts hQ ⊢
  have hl : lv_has ls 1 [(0, .ref (sK 0))] := hl
  refine lv_aload_n hx hb dJ0_length_8abf5_0 rfl (lv_at hl 0 rfl) ?_
  refine vk_getf (o := "java/lang/String") (n := "value") (d := "[B") (v := .ref (sV 0)) hx hb (hE.2.2.2.2.1 0 (by omega)).2.2.1 hS hown (hts (.fieldLink RJ0 9 "java/lang/String" "value" "[B") kc_len0_0) (fun _ h9 => h9) dJ0_length_8abf5_1 ?_
  refine va_tlen (v := 4) hx hb (hE.2.2.2.2.1 0 (by omega)).2.2.2.choose_spec hS (by decide) dJ0_length_8abf5_4 ?_
  refine lv_aload_n hx hb dJ0_length_8abf5_5 rfl (lv_at hl 0 rfl) ?_
  refine vp_callSi (va_runV (As := []) (rest := [.int 4]) ⟨hx, hb, hml, hown, hts⟩ (c_coder0 l dC dI sK sV) (cwV 0 hts gJ0_length_8abf5_J0_coder_7d493 rfl rfl rfl (by decide +kernel) ⟨Nat.le_of_ble_eq_true rfl, Nat.le_of_ble_eq_true rfl⟩) ⟨fun a U g mk q => by obtain ⟨q0, qhE⟩ := q; exact ⟨q0, qhE.same rfl rfl⟩, va_Orecv (hE.2.2.2.2.1 0 (by omega)).1 hS, fun U hU hW => ⟨rfl, hE.callF hS hU hW⟩⟩ rfl rfl hl.1 rfl (lv_room (Nat.le_of_ble_eq_true rfl)) dJ0_length_8abf5_6 ⟨Nat.le_of_ble_eq_true rfl, Nat.le_of_ble_eq_true rfl⟩).run (fun r_1 hw_2 => ?_)
  refine qi_as (y := 0) (hw_2) ?_
  refine lv_ishr hx hb dJ0_length_8abf5_9 ?_
  refine qi_as (y := 4) (by decide) ?_
  rw [hQ]
  exact W.iret (v := 4) hx hb hr (fun tQ htQ hWQ => ⟨4, rfl, rfl, by rw [htQ]⟩) (fun q hq => absurd hq List.not_mem_nil) dJ0_length_8abf5_10

theorem kc_same0_0 : ∀ w ∈ wsX50, w ∈ wsX5_sameSigns := by decide +kernel
theorem kc_same0_1 : (.fieldLink RX5 34 "MistHeaps$Hill" "at" "I" : Cond) ∈ wsX5_sameSigns := by decide +kernel
theorem kc_same0_2 : (.fieldLink RX5 31 "MistHeaps$Hill" "size" "I" : Cond) ∈ wsX5_sameSigns := by decide +kernel
set_option maxHeartbeats 4000000 in
set_option maxRecDepth 100000 in
theorem c_same0 (l : Launch) (dC : Nat → ClassId) (dI : Nat → Nat → Nat) (sK sV : Nat → Nat) (bl eW eA eE eC aTp : Nat) : Met l yX5_sameSigns wsX5_sameSigns ({ frames := 2, cells := 0, slots := 0, locals := 40 } : Room) (va_Pc [.ref bl, .ref (sK 0)] (fun U => va_P (dC, dI) vwCl [(bl, .inr (7, [.int 3, .int 0, .ref eW, .ref eA, .ref eE, .ref eC, .int 0, .ref aTp, .int 0, .int 0, .int 0]))] U.heap ∧ va_K (dC, dI) vwCl [] U ∧ Gs sK sV (fun _ => False) U)) (vp_Si (fun r => r = 0)) 0 0 (fun _ => False) := by
  refine met_ofQ (cc := cX5_sameSigns) (maxL := 3) (ret := (some .int)) (by decide) rfl ?_
  intro p e s m args below meth c s₁ Q B hml hv hQ
  obtain ⟨rfl, hP, hK, hE⟩ := hv
  have hx := B.exec
  have hb := B.bytes
  have hr := B.returns
  have hts := atoms_spec (ws := wsX5_sameSigns) B.pre
  have hown : s.vm.findClass RX5 = some m.cls := findClass_of_methodNamed B.named
  have hlocks := B.notSynchronized
  obtain ⟨A, hAe⟩ : ∃ A : Nat → Prop, A = fun _ => False := ⟨_, rfl⟩
  rw [← hAe] at hQ hE
  have hS : va_S A s.heap s.heap [] := va_S.rf
  have hl := lv_entry [.ref bl, .ref (sK 0)] (n := 3) (Nat.le_of_ble_eq_true rfl)
  rw [lg_entry_eq]
  generalize (lg_sl [.ref bl, .ref (sK 0)] ++ List.replicate (3 - (lg_sl [.ref bl, .ref (sK 0)]).length) Slot.unset).toArray = ls at hl ⊢
  generalize hag : ([.ref bl, .ref (sK 0)] : List Value).toArray = args at hts hQ ⊢
  have hl : lv_has ls 3 [(0, .ref bl), (1, .ref (sK 0))] := hl
  refine lv_iconst (v := 0) hx hb dX5_sameSigns_0 (by decide) ?_
  refine lv_istore_n (lv' := [(2, .int 0), (0, .ref bl), (1, .ref (sK 0))]) hx hb dX5_sameSigns_1 rfl hl (by decide) rfl (fun ls hl => ?_)
  refine lv_iload_n hx hb dX5_sameSigns_2 rfl (lv_at hl 0 rfl) ?_
  refine lv_aload_n hx hb dX5_sameSigns_3 rfl (lv_at hl 2 rfl) ?_
  refine vp_callSi (va_runV (As := []) (rest := [.int 0]) ⟨hx, hb, hml, hown, hts⟩ (c_len0 l dC dI sK sV) (cwV 0 hts gX5_sameSigns_J0_length_8abf5 rfl rfl rfl (by decide +kernel) ⟨Nat.le_of_ble_eq_true rfl, Nat.le_of_ble_eq_true rfl⟩) ⟨fun a U g mk q => by obtain ⟨q0, qhE⟩ := q; exact ⟨q0, qhE.same rfl rfl⟩, va_Orecv (hE.2.2.2.2.1 0 (by omega)).1 hS, fun U hU hW => ⟨rfl, hE.callF hS hU hW⟩⟩ rfl rfl hl.1 rfl (lv_room (Nat.le_of_ble_eq_true rfl)) dX5_sameSigns_4 ⟨Nat.le_of_ble_eq_true rfl, Nat.le_of_ble_eq_true rfl⟩).run (fun r_1 hw_2 => ?_)
  refine qi_as (y := 4) (hw_2) ?_
  refine lv_icmp_ge (tgt := 48) hx hb dX5_sameSigns_7 (by decide) (fun c_3 => absurd c_3 (by decide)) (fun _ => ?_)
  refine lv_aload_n hx hb dX5_sameSigns_10 rfl (lv_at hl 1 rfl) ?_
  refine va_get (D := (dC, dI)) (ci := 7) (v := .int 0) (C := RX5) (T := TX5) (N := 11) hx hb hts kc_same0_0 hown hK hP 0 rfl rfl 9 (by decide) (hts (.fieldLink RX5 34 "MistHeaps$Hill" "at" "I") kc_same0_1) (fun _ h9 => h9) rfl dX5_sameSigns_11 ?_
  refine lv_iload_n hx hb dX5_sameSigns_14 rfl (lv_at hl 0 rfl) ?_
  refine lv_iadd hx hb dX5_sameSigns_15 ?_
  refine qi_as (y := 0) (by decide) ?_
  refine lv_aload_n hx hb dX5_sameSigns_16 rfl (lv_at hl 1 rfl) ?_
  refine va_get (D := (dC, dI)) (ci := 7) (v := .int 0) (C := RX5) (T := TX5) (N := 11) hx hb hts kc_same0_0 hown hK hP 0 rfl rfl 8 (by decide) (hts (.fieldLink RX5 31 "MistHeaps$Hill" "size" "I") kc_same0_2) (fun _ h9 => h9) rfl dX5_sameSigns_17 ?_
  refine lv_icmp_ge (tgt := 48) hx hb dX5_sameSigns_20 (by decide) (fun _ => ?_) (fun c_4 => absurd c_4 (by decide))
  refine lv_iload_n hx hb dX5_sameSigns_48 rfl (lv_at hl 0 rfl) ?_
  rw [hQ]
  exact W.iret (v := 0) hx hb hr (fun tQ htQ hWQ => ⟨0, rfl, rfl, by rw [htQ]⟩) (fun q hq => absurd hq List.not_mem_nil) dX5_sameSigns_49

set_option maxHeartbeats 4000000 in
set_option maxRecDepth 100000 in
theorem c_text1 (l : Launch) (dC : Nat → ClassId) (dI : Nat → Nat → Nat) (sK sV : Nat → Nat) : Met l yX5_textOf wsX5_textOf ({ frames := 0, cells := 0, slots := 0, locals := 0 } : Room) (va_Pc [.int 1] (fun U => Gs sK sV (fun _ => False) U)) (va_Sq (fun r => r = some (sK 1))) 0 0 (fun _ => False) := by
  refine met_ofQ (cc := cX5_textOf) (maxL := 1) (ret := (some (.object "java/lang/String"))) (by decide) rfl ?_
  intro p e s m args below meth c s₁ Q B hml hv hQ
  obtain ⟨rfl, hE⟩ := hv
  have hx := B.exec
  have hb := B.bytes
  have hr := B.returns
  have hts := atoms_spec (ws := wsX5_textOf) B.pre
  have hown : s.vm.findClass RX5 = some m.cls := findClass_of_methodNamed B.named
  have hlocks := B.notSynchronized
  obtain ⟨A, hAe⟩ : ∃ A : Nat → Prop, A = fun _ => False := ⟨_, rfl⟩
  rw [← hAe] at hQ hE
  have hS : va_S A s.heap s.heap [] := va_S.rf
  have hl := lv_entry [.int 1] (n := 1) (Nat.le_of_ble_eq_true rfl)
  rw [lg_entry_eq]
  generalize (lg_sl [.int 1] ++ List.replicate (1 - (lg_sl [.int 1]).length) Slot.unset).toArray = ls at hl ⊢
  generalize hag : ([.int 1] : List Value).toArray = args at hts hQ ⊢
  have hl : lv_has ls 1 [(0, .int 1)] := hl
  refine lv_iload_n hx hb dX5_textOf_0 rfl (lv_at hl 0 rfl) ?_
  refine lv_tableIn (tgt := 31) hx hb dX5_textOf_1 (by decide) (by decide) rfl (by decide) ?_
  refine va_ldcS hx hb hown hE.2.1 dX5_textOf_31 ?_
  rw [hQ]
  exact W.aret (v := .ref (sK 1)) hx hb hr (Or.inl ⟨_, rfl⟩) (Or.inr ⟨_, rfl⟩) (fun tQ htQ hWQ => ⟨some (sK 1), rfl, rfl, by rw [htQ]⟩) (fun q hq => absurd hq List.not_mem_nil) dX5_textOf_33

theorem kc_coder1_0 : (.fieldLink RJ0 38 "java/lang/String" "COMPACT_STRINGS" "Z" : Cond) ∈ wsJ0_coder_7d493 := by decide +kernel
theorem kc_coder1_1 : (.fieldLink RJ0 15 "java/lang/String" "coder" "B" : Cond) ∈ wsJ0_coder_7d493 := by decide +kernel
set_option maxHeartbeats 4000000 in
set_option maxRecDepth 100000 in
theorem c_coder1 (l : Launch) (dC : Nat → ClassId) (dI : Nat → Nat → Nat) (sK sV : Nat → Nat) : Met l yJ0_coder_7d493 wsJ0_coder_7d493 ({ frames := 0, cells := 0, slots := 0, locals := 0 } : Room) (va_Pc [.ref (sK 1)] (fun U => Gs sK sV (fun _ => False) U)) (vp_Si (fun r => r = 0)) 0 0 (fun _ => False) := by
  refine met_ofQ (cc := cJ0_coder_7d493) (maxL := 1) (ret := (some .byte)) (by decide) rfl ?_
  intro p e s m args below meth c s₁ Q B hml hv hQ
  obtain ⟨rfl, hE⟩ := hv
  have hx := B.exec
  have hb := B.bytes
  have hr := B.returns
  have hts := atoms_spec (ws := wsJ0_coder_7d493) B.pre
  have hown : s.vm.findClass RJ0 = some m.cls := findClass_of_methodNamed B.named
  have hlocks := B.notSynchronized
  obtain ⟨A, hAe⟩ : ∃ A : Nat → Prop, A = fun _ => False := ⟨_, rfl⟩
  rw [← hAe] at hQ hE
  have hS : va_S A s.heap s.heap [] := va_S.rf
  have hl := lv_entry [.ref (sK 1)] (n := 1) (Nat.le_of_ble_eq_true rfl)
  rw [lg_entry_eq]
  generalize (lg_sl [.ref (sK 1)] ++ List.replicate (1 - (lg_sl [.ref (sK 1)]).length) Slot.unset).toArray = ls at hl ⊢
  generalize hag : ([.ref (sK 1)] : List Value).toArray = args at hts hQ ⊢
  have hl : lv_has ls 1 [(0, .ref (sK 1))] := hl
  refine va_gets (C := "java/lang/String") (n := "COMPACT_STRINGS") (d := "Z") (v := .int 1) hx hb hE.2.2.2.2.2 hS hown (hts (.fieldLink RJ0 38 "java/lang/String" "COMPACT_STRINGS" "Z") kc_coder1_0) (fun _ h9 => h9) dJ0_coder_7d493_0 ?_
  refine lv_if_eq (tgt := 13) hx hb dJ0_coder_7d493_3 (by decide) (fun c_1 => absurd c_1 (by decide)) (fun _ => ?_)
  refine lv_aload_n hx hb dJ0_coder_7d493_6 rfl (lv_at hl 0 rfl) ?_
  refine vk_getf (o := "java/lang/String") (n := "coder") (d := "B") (v := .int 0) hx hb (hE.2.2.2.2.1 1 (by omega)).2.1 hS hown (hts (.fieldLink RJ0 15 "java/lang/String" "coder" "B") kc_coder1_1) (fun _ h9 => h9) dJ0_coder_7d493_7 ?_
  refine lv_goto (tgt := 14) hx hb dJ0_coder_7d493_10 (by decide) ?_
  rw [hQ]
  exact W.zret (v := 0) hx hb hr rfl (fun tQ htQ hWQ => ⟨0, rfl, rfl, by rw [htQ]⟩) (fun q hq => absurd hq List.not_mem_nil) dJ0_coder_7d493_14

theorem kc_len1_0 : (.fieldLink RJ0 9 "java/lang/String" "value" "[B" : Cond) ∈ wsJ0_length_8abf5 := by decide +kernel
set_option maxHeartbeats 4000000 in
set_option maxRecDepth 100000 in
theorem c_len1 (l : Launch) (dC : Nat → ClassId) (dI : Nat → Nat → Nat) (sK sV : Nat → Nat) : Met l yJ0_length_8abf5 wsJ0_length_8abf5 ({ frames := 1, cells := 0, slots := 0, locals := 20 } : Room) (va_Pc [.ref (sK 1)] (fun U => Gs sK sV (fun _ => False) U)) (vp_Si (fun r => r = 5)) 0 0 (fun _ => False) := by
  refine met_ofQ (cc := cJ0_length_8abf5) (maxL := 1) (ret := (some .int)) (by decide) rfl ?_
  intro p e s m args below meth c s₁ Q B hml hv hQ
  obtain ⟨rfl, hE⟩ := hv
  have hx := B.exec
  have hb := B.bytes
  have hr := B.returns
  have hts := atoms_spec (ws := wsJ0_length_8abf5) B.pre
  have hown : s.vm.findClass RJ0 = some m.cls := findClass_of_methodNamed B.named
  have hlocks := B.notSynchronized
  obtain ⟨A, hAe⟩ : ∃ A : Nat → Prop, A = fun _ => False := ⟨_, rfl⟩
  rw [← hAe] at hQ hE
  have hS : va_S A s.heap s.heap [] := va_S.rf
  have hl := lv_entry [.ref (sK 1)] (n := 1) (Nat.le_of_ble_eq_true rfl)
  rw [lg_entry_eq]
  generalize (lg_sl [.ref (sK 1)] ++ List.replicate (1 - (lg_sl [.ref (sK 1)]).length) Slot.unset).toArray = ls at hl ⊢
  generalize hag : ([.ref (sK 1)] : List Value).toArray = args at hts hQ ⊢
  have hl : lv_has ls 1 [(0, .ref (sK 1))] := hl
  refine lv_aload_n hx hb dJ0_length_8abf5_0 rfl (lv_at hl 0 rfl) ?_
  refine vk_getf (o := "java/lang/String") (n := "value") (d := "[B") (v := .ref (sV 1)) hx hb (hE.2.2.2.2.1 1 (by omega)).2.2.1 hS hown (hts (.fieldLink RJ0 9 "java/lang/String" "value" "[B") kc_len1_0) (fun _ h9 => h9) dJ0_length_8abf5_1 ?_
  refine va_tlen (v := 5) hx hb (hE.2.2.2.2.1 1 (by omega)).2.2.2.choose_spec hS (by decide) dJ0_length_8abf5_4 ?_
  refine lv_aload_n hx hb dJ0_length_8abf5_5 rfl (lv_at hl 0 rfl) ?_
  refine vp_callSi (va_runV (As := []) (rest := [.int 5]) ⟨hx, hb, hml, hown, hts⟩ (c_coder1 l dC dI sK sV) (cwV 0 hts gJ0_length_8abf5_J0_coder_7d493 rfl rfl rfl (by decide +kernel) ⟨Nat.le_of_ble_eq_true rfl, Nat.le_of_ble_eq_true rfl⟩) ⟨fun a U g mk q => by obtain ⟨q0, qhE⟩ := q; exact ⟨q0, qhE.same rfl rfl⟩, va_Orecv (hE.2.2.2.2.1 1 (by omega)).1 hS, fun U hU hW => ⟨rfl, hE.callF hS hU hW⟩⟩ rfl rfl hl.1 rfl (lv_room (Nat.le_of_ble_eq_true rfl)) dJ0_length_8abf5_6 ⟨Nat.le_of_ble_eq_true rfl, Nat.le_of_ble_eq_true rfl⟩).run (fun r_1 hw_2 => ?_)
  refine qi_as (y := 0) (hw_2) ?_
  refine lv_ishr hx hb dJ0_length_8abf5_9 ?_
  refine qi_as (y := 5) (by decide) ?_
  rw [hQ]
  exact W.iret (v := 5) hx hb hr (fun tQ htQ hWQ => ⟨5, rfl, rfl, by rw [htQ]⟩) (fun q hq => absurd hq List.not_mem_nil) dJ0_length_8abf5_10

theorem kc_same1_0 : ∀ w ∈ wsX50, w ∈ wsX5_sameSigns := by decide +kernel
theorem kc_same1_1 : (.fieldLink RX5 34 "MistHeaps$Hill" "at" "I" : Cond) ∈ wsX5_sameSigns := by decide +kernel
theorem kc_same1_2 : (.fieldLink RX5 31 "MistHeaps$Hill" "size" "I" : Cond) ∈ wsX5_sameSigns := by decide +kernel
set_option maxHeartbeats 4000000 in
set_option maxRecDepth 100000 in
theorem c_same1 (l : Launch) (dC : Nat → ClassId) (dI : Nat → Nat → Nat) (sK sV : Nat → Nat) (bl eW eA eE eC aTp : Nat) : Met l yX5_sameSigns wsX5_sameSigns ({ frames := 2, cells := 0, slots := 0, locals := 40 } : Room) (va_Pc [.ref bl, .ref (sK 1)] (fun U => va_P (dC, dI) vwCl [(bl, .inr (7, [.int 3, .int 0, .ref eW, .ref eA, .ref eE, .ref eC, .int 0, .ref aTp, .int 0, .int 0, .int 0]))] U.heap ∧ va_K (dC, dI) vwCl [] U ∧ Gs sK sV (fun _ => False) U)) (vp_Si (fun r => r = 0)) 0 0 (fun _ => False) := by
  refine met_ofQ (cc := cX5_sameSigns) (maxL := 3) (ret := (some .int)) (by decide) rfl ?_
  intro p e s m args below meth c s₁ Q B hml hv hQ
  obtain ⟨rfl, hP, hK, hE⟩ := hv
  have hx := B.exec
  have hb := B.bytes
  have hr := B.returns
  have hts := atoms_spec (ws := wsX5_sameSigns) B.pre
  have hown : s.vm.findClass RX5 = some m.cls := findClass_of_methodNamed B.named
  have hlocks := B.notSynchronized
  obtain ⟨A, hAe⟩ : ∃ A : Nat → Prop, A = fun _ => False := ⟨_, rfl⟩
  rw [← hAe] at hQ hE
  have hS : va_S A s.heap s.heap [] := va_S.rf
  have hl := lv_entry [.ref bl, .ref (sK 1)] (n := 3) (Nat.le_of_ble_eq_true rfl)
  rw [lg_entry_eq]
  generalize (lg_sl [.ref bl, .ref (sK 1)] ++ List.replicate (3 - (lg_sl [.ref bl, .ref (sK 1)]).length) Slot.unset).toArray = ls at hl ⊢
  generalize hag : ([.ref bl, .ref (sK 1)] : List Value).toArray = args at hts hQ ⊢
  have hl : lv_has ls 3 [(0, .ref bl), (1, .ref (sK 1))] := hl
  refine lv_iconst (v := 0) hx hb dX5_sameSigns_0 (by decide) ?_
  refine lv_istore_n (lv' := [(2, .int 0), (0, .ref bl), (1, .ref (sK 1))]) hx hb dX5_sameSigns_1 rfl hl (by decide) rfl (fun ls hl => ?_)
  refine lv_iload_n hx hb dX5_sameSigns_2 rfl (lv_at hl 0 rfl) ?_
  refine lv_aload_n hx hb dX5_sameSigns_3 rfl (lv_at hl 2 rfl) ?_
  refine vp_callSi (va_runV (As := []) (rest := [.int 0]) ⟨hx, hb, hml, hown, hts⟩ (c_len1 l dC dI sK sV) (cwV 0 hts gX5_sameSigns_J0_length_8abf5 rfl rfl rfl (by decide +kernel) ⟨Nat.le_of_ble_eq_true rfl, Nat.le_of_ble_eq_true rfl⟩) ⟨fun a U g mk q => by obtain ⟨q0, qhE⟩ := q; exact ⟨q0, qhE.same rfl rfl⟩, va_Orecv (hE.2.2.2.2.1 1 (by omega)).1 hS, fun U hU hW => ⟨rfl, hE.callF hS hU hW⟩⟩ rfl rfl hl.1 rfl (lv_room (Nat.le_of_ble_eq_true rfl)) dX5_sameSigns_4 ⟨Nat.le_of_ble_eq_true rfl, Nat.le_of_ble_eq_true rfl⟩).run (fun r_1 hw_2 => ?_)
  refine qi_as (y := 5) (hw_2) ?_
  refine lv_icmp_ge (tgt := 48) hx hb dX5_sameSigns_7 (by decide) (fun c_3 => absurd c_3 (by decide)) (fun _ => ?_)
  refine lv_aload_n hx hb dX5_sameSigns_10 rfl (lv_at hl 1 rfl) ?_
  refine va_get (D := (dC, dI)) (ci := 7) (v := .int 0) (C := RX5) (T := TX5) (N := 11) hx hb hts kc_same1_0 hown hK hP 0 rfl rfl 9 (by decide) (hts (.fieldLink RX5 34 "MistHeaps$Hill" "at" "I") kc_same1_1) (fun _ h9 => h9) rfl dX5_sameSigns_11 ?_
  refine lv_iload_n hx hb dX5_sameSigns_14 rfl (lv_at hl 0 rfl) ?_
  refine lv_iadd hx hb dX5_sameSigns_15 ?_
  refine qi_as (y := 0) (by decide) ?_
  refine lv_aload_n hx hb dX5_sameSigns_16 rfl (lv_at hl 1 rfl) ?_
  refine va_get (D := (dC, dI)) (ci := 7) (v := .int 0) (C := RX5) (T := TX5) (N := 11) hx hb hts kc_same1_0 hown hK hP 0 rfl rfl 8 (by decide) (hts (.fieldLink RX5 31 "MistHeaps$Hill" "size" "I") kc_same1_2) (fun _ h9 => h9) rfl dX5_sameSigns_17 ?_
  refine lv_icmp_ge (tgt := 48) hx hb dX5_sameSigns_20 (by decide) (fun _ => ?_) (fun c_4 => absurd c_4 (by decide))
  refine lv_iload_n hx hb dX5_sameSigns_48 rfl (lv_at hl 0 rfl) ?_
  rw [hQ]
  exact W.iret (v := 0) hx hb hr (fun tQ htQ hWQ => ⟨0, rfl, rfl, by rw [htQ]⟩) (fun q hq => absurd hq List.not_mem_nil) dX5_sameSigns_49

set_option maxHeartbeats 4000000 in
set_option maxRecDepth 100000 in
theorem c_text2 (l : Launch) (dC : Nat → ClassId) (dI : Nat → Nat → Nat) (sK sV : Nat → Nat) : Met l yX5_textOf wsX5_textOf ({ frames := 0, cells := 0, slots := 0, locals := 0 } : Room) (va_Pc [.int 2] (fun U => Gs sK sV (fun _ => False) U)) (va_Sq (fun r => r = some (sK 2))) 0 0 (fun _ => False) := by
  refine met_ofQ (cc := cX5_textOf) (maxL := 1) (ret := (some (.object "java/lang/String"))) (by decide) rfl ?_
  intro p e s m args below meth c s₁ Q B hml hv hQ
  obtain ⟨rfl, hE⟩ := hv
  have hx := B.exec
  have hb := B.bytes
  have hr := B.returns
  have hts := atoms_spec (ws := wsX5_textOf) B.pre
  have hown : s.vm.findClass RX5 = some m.cls := findClass_of_methodNamed B.named
  have hlocks := B.notSynchronized
  obtain ⟨A, hAe⟩ : ∃ A : Nat → Prop, A = fun _ => False := ⟨_, rfl⟩
  rw [← hAe] at hQ hE
  have hS : va_S A s.heap s.heap [] := va_S.rf
  have hl := lv_entry [.int 2] (n := 1) (Nat.le_of_ble_eq_true rfl)
  rw [lg_entry_eq]
  generalize (lg_sl [.int 2] ++ List.replicate (1 - (lg_sl [.int 2]).length) Slot.unset).toArray = ls at hl ⊢
  generalize hag : ([.int 2] : List Value).toArray = args at hts hQ ⊢
  have hl : lv_has ls 1 [(0, .int 2)] := hl
  refine lv_iload_n hx hb dX5_textOf_0 rfl (lv_at hl 0 rfl) ?_
  refine lv_tableIn (tgt := 34) hx hb dX5_textOf_1 (by decide) (by decide) rfl (by decide) ?_
  refine va_ldcS hx hb hown hE.2.2.1 dX5_textOf_34 ?_
  rw [hQ]
  exact W.aret (v := .ref (sK 2)) hx hb hr (Or.inl ⟨_, rfl⟩) (Or.inr ⟨_, rfl⟩) (fun tQ htQ hWQ => ⟨some (sK 2), rfl, rfl, by rw [htQ]⟩) (fun q hq => absurd hq List.not_mem_nil) dX5_textOf_36

theorem kc_coder2_0 : (.fieldLink RJ0 38 "java/lang/String" "COMPACT_STRINGS" "Z" : Cond) ∈ wsJ0_coder_7d493 := by decide +kernel
theorem kc_coder2_1 : (.fieldLink RJ0 15 "java/lang/String" "coder" "B" : Cond) ∈ wsJ0_coder_7d493 := by decide +kernel
set_option maxHeartbeats 4000000 in
set_option maxRecDepth 100000 in
theorem c_coder2 (l : Launch) (dC : Nat → ClassId) (dI : Nat → Nat → Nat) (sK sV : Nat → Nat) : Met l yJ0_coder_7d493 wsJ0_coder_7d493 ({ frames := 0, cells := 0, slots := 0, locals := 0 } : Room) (va_Pc [.ref (sK 2)] (fun U => Gs sK sV (fun _ => False) U)) (vp_Si (fun r => r = 0)) 0 0 (fun _ => False) := by
  refine met_ofQ (cc := cJ0_coder_7d493) (maxL := 1) (ret := (some .byte)) (by decide) rfl ?_
  intro p e s m args below meth c s₁ Q B hml hv hQ
  obtain ⟨rfl, hE⟩ := hv
  have hx := B.exec
  have hb := B.bytes
  have hr := B.returns
  have hts := atoms_spec (ws := wsJ0_coder_7d493) B.pre
  have hown : s.vm.findClass RJ0 = some m.cls := findClass_of_methodNamed B.named
  have hlocks := B.notSynchronized
  obtain ⟨A, hAe⟩ : ∃ A : Nat → Prop, A = fun _ => False := ⟨_, rfl⟩
  rw [← hAe] at hQ hE
  have hS : va_S A s.heap s.heap [] := va_S.rf
  have hl := lv_entry [.ref (sK 2)] (n := 1) (Nat.le_of_ble_eq_true rfl)
  rw [lg_entry_eq]
  generalize (lg_sl [.ref (sK 2)] ++ List.replicate (1 - (lg_sl [.ref (sK 2)]).length) Slot.unset).toArray = ls at hl ⊢
  generalize hag : ([.ref (sK 2)] : List Value).toArray = args at hts hQ ⊢
  have hl : lv_has ls 1 [(0, .ref (sK 2))] := hl
  refine va_gets (C := "java/lang/String") (n := "COMPACT_STRINGS") (d := "Z") (v := .int 1) hx hb hE.2.2.2.2.2 hS hown (hts (.fieldLink RJ0 38 "java/lang/String" "COMPACT_STRINGS" "Z") kc_coder2_0) (fun _ h9 => h9) dJ0_coder_7d493_0 ?_
  refine lv_if_eq (tgt := 13) hx hb dJ0_coder_7d493_3 (by decide) (fun c_1 => absurd c_1 (by decide)) (fun _ => ?_)
  refine lv_aload_n hx hb dJ0_coder_7d493_6 rfl (lv_at hl 0 rfl) ?_
  refine vk_getf (o := "java/lang/String") (n := "coder") (d := "B") (v := .int 0) hx hb (hE.2.2.2.2.1 2 (by omega)).2.1 hS hown (hts (.fieldLink RJ0 15 "java/lang/String" "coder" "B") kc_coder2_1) (fun _ h9 => h9) dJ0_coder_7d493_7 ?_
  refine lv_goto (tgt := 14) hx hb dJ0_coder_7d493_10 (by decide) ?_
  rw [hQ]
  exact W.zret (v := 0) hx hb hr rfl (fun tQ htQ hWQ => ⟨0, rfl, rfl, by rw [htQ]⟩) (fun q hq => absurd hq List.not_mem_nil) dJ0_coder_7d493_14

theorem kc_len2_0 : (.fieldLink RJ0 9 "java/lang/String" "value" "[B" : Cond) ∈ wsJ0_length_8abf5 := by decide +kernel
set_option maxHeartbeats 4000000 in
set_option maxRecDepth 100000 in
theorem c_len2 (l : Launch) (dC : Nat → ClassId) (dI : Nat → Nat → Nat) (sK sV : Nat → Nat) : Met l yJ0_length_8abf5 wsJ0_length_8abf5 ({ frames := 1, cells := 0, slots := 0, locals := 20 } : Room) (va_Pc [.ref (sK 2)] (fun U => Gs sK sV (fun _ => False) U)) (vp_Si (fun r => r = 6)) 0 0 (fun _ => False) := by
  refine met_ofQ (cc := cJ0_length_8abf5) (maxL := 1) (ret := (some .int)) (by decide) rfl ?_
  intro p e s m args below meth c s₁ Q B hml hv hQ
  obtain ⟨rfl, hE⟩ := hv
  have hx := B.exec
  have hb := B.bytes
  have hr := B.returns
  have hts := atoms_spec (ws := wsJ0_length_8abf5) B.pre
  have hown : s.vm.findClass RJ0 = some m.cls := findClass_of_methodNamed B.named
  have hlocks := B.notSynchronized
  obtain ⟨A, hAe⟩ : ∃ A : Nat → Prop, A = fun _ => False := ⟨_, rfl⟩
  rw [← hAe] at hQ hE
  have hS : va_S A s.heap s.heap [] := va_S.rf
  have hl := lv_entry [.ref (sK 2)] (n := 1) (Nat.le_of_ble_eq_true rfl)
  rw [lg_entry_eq]
  generalize (lg_sl [.ref (sK 2)] ++ List.replicate (1 - (lg_sl [.ref (sK 2)]).length) Slot.unset).toArray = ls at hl ⊢
  generalize hag : ([.ref (sK 2)] : List Value).toArray = args at hts hQ ⊢
  have hl : lv_has ls 1 [(0, .ref (sK 2))] := hl
  refine lv_aload_n hx hb dJ0_length_8abf5_0 rfl (lv_at hl 0 rfl) ?_
  refine vk_getf (o := "java/lang/String") (n := "value") (d := "[B") (v := .ref (sV 2)) hx hb (hE.2.2.2.2.1 2 (by omega)).2.2.1 hS hown (hts (.fieldLink RJ0 9 "java/lang/String" "value" "[B") kc_len2_0) (fun _ h9 => h9) dJ0_length_8abf5_1 ?_
  refine va_tlen (v := 6) hx hb (hE.2.2.2.2.1 2 (by omega)).2.2.2.choose_spec hS (by decide) dJ0_length_8abf5_4 ?_
  refine lv_aload_n hx hb dJ0_length_8abf5_5 rfl (lv_at hl 0 rfl) ?_
  refine vp_callSi (va_runV (As := []) (rest := [.int 6]) ⟨hx, hb, hml, hown, hts⟩ (c_coder2 l dC dI sK sV) (cwV 0 hts gJ0_length_8abf5_J0_coder_7d493 rfl rfl rfl (by decide +kernel) ⟨Nat.le_of_ble_eq_true rfl, Nat.le_of_ble_eq_true rfl⟩) ⟨fun a U g mk q => by obtain ⟨q0, qhE⟩ := q; exact ⟨q0, qhE.same rfl rfl⟩, va_Orecv (hE.2.2.2.2.1 2 (by omega)).1 hS, fun U hU hW => ⟨rfl, hE.callF hS hU hW⟩⟩ rfl rfl hl.1 rfl (lv_room (Nat.le_of_ble_eq_true rfl)) dJ0_length_8abf5_6 ⟨Nat.le_of_ble_eq_true rfl, Nat.le_of_ble_eq_true rfl⟩).run (fun r_1 hw_2 => ?_)
  refine qi_as (y := 0) (hw_2) ?_
  refine lv_ishr hx hb dJ0_length_8abf5_9 ?_
  refine qi_as (y := 6) (by decide) ?_
  rw [hQ]
  exact W.iret (v := 6) hx hb hr (fun tQ htQ hWQ => ⟨6, rfl, rfl, by rw [htQ]⟩) (fun q hq => absurd hq List.not_mem_nil) dJ0_length_8abf5_10

theorem kc_same2_0 : ∀ w ∈ wsX50, w ∈ wsX5_sameSigns := by decide +kernel
theorem kc_same2_1 : (.fieldLink RX5 34 "MistHeaps$Hill" "at" "I" : Cond) ∈ wsX5_sameSigns := by decide +kernel
theorem kc_same2_2 : (.fieldLink RX5 31 "MistHeaps$Hill" "size" "I" : Cond) ∈ wsX5_sameSigns := by decide +kernel
set_option maxHeartbeats 4000000 in
set_option maxRecDepth 100000 in
theorem c_same2 (l : Launch) (dC : Nat → ClassId) (dI : Nat → Nat → Nat) (sK sV : Nat → Nat) (bl eW eA eE eC aTp : Nat) : Met l yX5_sameSigns wsX5_sameSigns ({ frames := 2, cells := 0, slots := 0, locals := 40 } : Room) (va_Pc [.ref bl, .ref (sK 2)] (fun U => va_P (dC, dI) vwCl [(bl, .inr (7, [.int 3, .int 0, .ref eW, .ref eA, .ref eE, .ref eC, .int 0, .ref aTp, .int 0, .int 0, .int 0]))] U.heap ∧ va_K (dC, dI) vwCl [] U ∧ Gs sK sV (fun _ => False) U)) (vp_Si (fun r => r = 0)) 0 0 (fun _ => False) := by
  refine met_ofQ (cc := cX5_sameSigns) (maxL := 3) (ret := (some .int)) (by decide) rfl ?_
  intro p e s m args below meth c s₁ Q B hml hv hQ
  obtain ⟨rfl, hP, hK, hE⟩ := hv
  have hx := B.exec
  have hb := B.bytes
  have hr := B.returns
  have hts := atoms_spec (ws := wsX5_sameSigns) B.pre
  have hown : s.vm.findClass RX5 = some m.cls := findClass_of_methodNamed B.named
  have hlocks := B.notSynchronized
  obtain ⟨A, hAe⟩ : ∃ A : Nat → Prop, A = fun _ => False := ⟨_, rfl⟩
  rw [← hAe] at hQ hE
  have hS : va_S A s.heap s.heap [] := va_S.rf
  have hl := lv_entry [.ref bl, .ref (sK 2)] (n := 3) (Nat.le_of_ble_eq_true rfl)
  rw [lg_entry_eq]
  generalize (lg_sl [.ref bl, .ref (sK 2)] ++ List.replicate (3 - (lg_sl [.ref bl, .ref (sK 2)]).length) Slot.unset).toArray = ls at hl ⊢
  generalize hag : ([.ref bl, .ref (sK 2)] : List Value).toArray = args at hts hQ ⊢
  have hl : lv_has ls 3 [(0, .ref bl), (1, .ref (sK 2))] := hl
  refine lv_iconst (v := 0) hx hb dX5_sameSigns_0 (by decide) ?_
  refine lv_istore_n (lv' := [(2, .int 0), (0, .ref bl), (1, .ref (sK 2))]) hx hb dX5_sameSigns_1 rfl hl (by decide) rfl (fun ls hl => ?_)
  refine lv_iload_n hx hb dX5_sameSigns_2 rfl (lv_at hl 0 rfl) ?_
  refine lv_aload_n hx hb dX5_sameSigns_3 rfl (lv_at hl 2 rfl) ?_
  refine vp_callSi (va_runV (As := []) (rest := [.int 0]) ⟨hx, hb, hml, hown, hts⟩ (c_len2 l dC dI sK sV) (cwV 0 hts gX5_sameSigns_J0_length_8abf5 rfl rfl rfl (by decide +kernel) ⟨Nat.le_of_ble_eq_true rfl, Nat.le_of_ble_eq_true rfl⟩) ⟨fun a U g mk q => by obtain ⟨q0, qhE⟩ := q; exact ⟨q0, qhE.same rfl rfl⟩, va_Orecv (hE.2.2.2.2.1 2 (by omega)).1 hS, fun U hU hW => ⟨rfl, hE.callF hS hU hW⟩⟩ rfl rfl hl.1 rfl (lv_room (Nat.le_of_ble_eq_true rfl)) dX5_sameSigns_4 ⟨Nat.le_of_ble_eq_true rfl, Nat.le_of_ble_eq_true rfl⟩).run (fun r_1 hw_2 => ?_)
  refine qi_as (y := 6) (hw_2) ?_
  refine lv_icmp_ge (tgt := 48) hx hb dX5_sameSigns_7 (by decide) (fun c_3 => absurd c_3 (by decide)) (fun _ => ?_)
  refine lv_aload_n hx hb dX5_sameSigns_10 rfl (lv_at hl 1 rfl) ?_
  refine va_get (D := (dC, dI)) (ci := 7) (v := .int 0) (C := RX5) (T := TX5) (N := 11) hx hb hts kc_same2_0 hown hK hP 0 rfl rfl 9 (by decide) (hts (.fieldLink RX5 34 "MistHeaps$Hill" "at" "I") kc_same2_1) (fun _ h9 => h9) rfl dX5_sameSigns_11 ?_
  refine lv_iload_n hx hb dX5_sameSigns_14 rfl (lv_at hl 0 rfl) ?_
  refine lv_iadd hx hb dX5_sameSigns_15 ?_
  refine qi_as (y := 0) (by decide) ?_
  refine lv_aload_n hx hb dX5_sameSigns_16 rfl (lv_at hl 1 rfl) ?_
  refine va_get (D := (dC, dI)) (ci := 7) (v := .int 0) (C := RX5) (T := TX5) (N := 11) hx hb hts kc_same2_0 hown hK hP 0 rfl rfl 8 (by decide) (hts (.fieldLink RX5 31 "MistHeaps$Hill" "size" "I") kc_same2_2) (fun _ h9 => h9) rfl dX5_sameSigns_17 ?_
  refine lv_icmp_ge (tgt := 48) hx hb dX5_sameSigns_20 (by decide) (fun _ => ?_) (fun c_4 => absurd c_4 (by decide))
  refine lv_iload_n hx hb dX5_sameSigns_48 rfl (lv_at hl 0 rfl) ?_
  rw [hQ]
  exact W.iret (v := 0) hx hb hr (fun tQ htQ hWQ => ⟨0, rfl, rfl, by rw [htQ]⟩) (fun q hq => absurd hq List.not_mem_nil) dX5_sameSigns_49

set_option maxHeartbeats 4000000 in
set_option maxRecDepth 100000 in
theorem c_text3 (l : Launch) (dC : Nat → ClassId) (dI : Nat → Nat → Nat) (sK sV : Nat → Nat) : Met l yX5_textOf wsX5_textOf ({ frames := 0, cells := 0, slots := 0, locals := 0 } : Room) (va_Pc [.int 3] (fun U => Gs sK sV (fun _ => False) U)) (va_Sq (fun r => r = some (sK 3))) 0 0 (fun _ => False) := by
  refine met_ofQ (cc := cX5_textOf) (maxL := 1) (ret := (some (.object "java/lang/String"))) (by decide) rfl ?_
  intro p e s m args below meth c s₁ Q B hml hv hQ
  obtain ⟨rfl, hE⟩ := hv
  have hx := B.exec
  have hb := B.bytes
  have hr := B.returns
  have hts := atoms_spec (ws := wsX5_textOf) B.pre
  have hown : s.vm.findClass RX5 = some m.cls := findClass_of_methodNamed B.named
  have hlocks := B.notSynchronized
  obtain ⟨A, hAe⟩ : ∃ A : Nat → Prop, A = fun _ => False := ⟨_, rfl⟩
  rw [← hAe] at hQ hE
  have hS : va_S A s.heap s.heap [] := va_S.rf
  have hl := lv_entry [.int 3] (n := 1) (Nat.le_of_ble_eq_true rfl)
  rw [lg_entry_eq]
  generalize (lg_sl [.int 3] ++ List.replicate (1 - (lg_sl [.int 3]).length) Slot.unset).toArray = ls at hl ⊢
  generalize hag : ([.int 3] : List Value).toArray = args at hts hQ ⊢
  have hl : lv_has ls 1 [(0, .int 3)] := hl
  refine lv_iload_n hx hb dX5_textOf_0 rfl (lv_at hl 0 rfl) ?_
  refine lv_tableOut (tgt := 37) hx hb dX5_textOf_1 (by decide) (by decide) ?_
  refine va_ldcS hx hb hown hE.2.2.2.1 dX5_textOf_37 ?_
  rw [hQ]
  exact W.aret (v := .ref (sK 3)) hx hb hr (Or.inl ⟨_, rfl⟩) (Or.inr ⟨_, rfl⟩) (fun tQ htQ hWQ => ⟨some (sK 3), rfl, rfl, by rw [htQ]⟩) (fun q hq => absurd hq List.not_mem_nil) dX5_textOf_39

theorem kc_coder3_0 : (.fieldLink RJ0 38 "java/lang/String" "COMPACT_STRINGS" "Z" : Cond) ∈ wsJ0_coder_7d493 := by decide +kernel
theorem kc_coder3_1 : (.fieldLink RJ0 15 "java/lang/String" "coder" "B" : Cond) ∈ wsJ0_coder_7d493 := by decide +kernel
set_option maxHeartbeats 4000000 in
set_option maxRecDepth 100000 in
theorem c_coder3 (l : Launch) (dC : Nat → ClassId) (dI : Nat → Nat → Nat) (sK sV : Nat → Nat) : Met l yJ0_coder_7d493 wsJ0_coder_7d493 ({ frames := 0, cells := 0, slots := 0, locals := 0 } : Room) (va_Pc [.ref (sK 3)] (fun U => Gs sK sV (fun _ => False) U)) (vp_Si (fun r => r = 0)) 0 0 (fun _ => False) := by
  refine met_ofQ (cc := cJ0_coder_7d493) (maxL := 1) (ret := (some .byte)) (by decide) rfl ?_
  intro p e s m args below meth c s₁ Q B hml hv hQ
  obtain ⟨rfl, hE⟩ := hv
  have hx := B.exec
  have hb := B.bytes
  have hr := B.returns
  have hts := atoms_spec (ws := wsJ0_coder_7d493) B.pre
  have hown : s.vm.findClass RJ0 = some m.cls := findClass_of_methodNamed B.named
  have hlocks := B.notSynchronized
  obtain ⟨A, hAe⟩ : ∃ A : Nat → Prop, A = fun _ => False := ⟨_, rfl⟩
  rw [← hAe] at hQ hE
  have hS : va_S A s.heap s.heap [] := va_S.rf
  have hl := lv_entry [.ref (sK 3)] (n := 1) (Nat.le_of_ble_eq_true rfl)
  rw [lg_entry_eq]
  generalize (lg_sl [.ref (sK 3)] ++ List.replicate (1 - (lg_sl [.ref (sK 3)]).length) Slot.unset).toArray = ls at hl ⊢
  generalize hag : ([.ref (sK 3)] : List Value).toArray = args at hts hQ ⊢
  have hl : lv_has ls 1 [(0, .ref (sK 3))] := hl
  refine va_gets (C := "java/lang/String") (n := "COMPACT_STRINGS") (d := "Z") (v := .int 1) hx hb hE.2.2.2.2.2 hS hown (hts (.fieldLink RJ0 38 "java/lang/String" "COMPACT_STRINGS" "Z") kc_coder3_0) (fun _ h9 => h9) dJ0_coder_7d493_0 ?_
  refine lv_if_eq (tgt := 13) hx hb dJ0_coder_7d493_3 (by decide) (fun c_1 => absurd c_1 (by decide)) (fun _ => ?_)
  refine lv_aload_n hx hb dJ0_coder_7d493_6 rfl (lv_at hl 0 rfl) ?_
  refine vk_getf (o := "java/lang/String") (n := "coder") (d := "B") (v := .int 0) hx hb (hE.2.2.2.2.1 3 (by omega)).2.1 hS hown (hts (.fieldLink RJ0 15 "java/lang/String" "coder" "B") kc_coder3_1) (fun _ h9 => h9) dJ0_coder_7d493_7 ?_
  refine lv_goto (tgt := 14) hx hb dJ0_coder_7d493_10 (by decide) ?_
  rw [hQ]
  exact W.zret (v := 0) hx hb hr rfl (fun tQ htQ hWQ => ⟨0, rfl, rfl, by rw [htQ]⟩) (fun q hq => absurd hq List.not_mem_nil) dJ0_coder_7d493_14

theorem kc_len3_0 : (.fieldLink RJ0 9 "java/lang/String" "value" "[B" : Cond) ∈ wsJ0_length_8abf5 := by decide +kernel
set_option maxHeartbeats 4000000 in
set_option maxRecDepth 100000 in
theorem c_len3 (l : Launch) (dC : Nat → ClassId) (dI : Nat → Nat → Nat) (sK sV : Nat → Nat) : Met l yJ0_length_8abf5 wsJ0_length_8abf5 ({ frames := 1, cells := 0, slots := 0, locals := 20 } : Room) (va_Pc [.ref (sK 3)] (fun U => Gs sK sV (fun _ => False) U)) (vp_Si (fun r => r = 6)) 0 0 (fun _ => False) := by
  refine met_ofQ (cc := cJ0_length_8abf5) (maxL := 1) (ret := (some .int)) (by decide) rfl ?_
  intro p e s m args below meth c s₁ Q B hml hv hQ
  obtain ⟨rfl, hE⟩ := hv
  have hx := B.exec
  have hb := B.bytes
  have hr := B.returns
  have hts := atoms_spec (ws := wsJ0_length_8abf5) B.pre
  have hown : s.vm.findClass RJ0 = some m.cls := findClass_of_methodNamed B.named
  have hlocks := B.notSynchronized
  obtain ⟨A, hAe⟩ : ∃ A : Nat → Prop, A = fun _ => False := ⟨_, rfl⟩
  rw [← hAe] at hQ hE
  have hS : va_S A s.heap s.heap [] := va_S.rf
  have hl := lv_entry [.ref (sK 3)] (n := 1) (Nat.le_of_ble_eq_true rfl)
  rw [lg_entry_eq]
  generalize (lg_sl [.ref (sK 3)] ++ List.replicate (1 - (lg_sl [.ref (sK 3)]).length) Slot.unset).toArray = ls at hl ⊢
  generalize hag : ([.ref (sK 3)] : List Value).toArray = args at hts hQ ⊢
  have hl : lv_has ls 1 [(0, .ref (sK 3))] := hl
  refine lv_aload_n hx hb dJ0_length_8abf5_0 rfl (lv_at hl 0 rfl) ?_
  refine vk_getf (o := "java/lang/String") (n := "value") (d := "[B") (v := .ref (sV 3)) hx hb (hE.2.2.2.2.1 3 (by omega)).2.2.1 hS hown (hts (.fieldLink RJ0 9 "java/lang/String" "value" "[B") kc_len3_0) (fun _ h9 => h9) dJ0_length_8abf5_1 ?_
  refine va_tlen (v := 6) hx hb (hE.2.2.2.2.1 3 (by omega)).2.2.2.choose_spec hS (by decide) dJ0_length_8abf5_4 ?_
  refine lv_aload_n hx hb dJ0_length_8abf5_5 rfl (lv_at hl 0 rfl) ?_
  refine vp_callSi (va_runV (As := []) (rest := [.int 6]) ⟨hx, hb, hml, hown, hts⟩ (c_coder3 l dC dI sK sV) (cwV 0 hts gJ0_length_8abf5_J0_coder_7d493 rfl rfl rfl (by decide +kernel) ⟨Nat.le_of_ble_eq_true rfl, Nat.le_of_ble_eq_true rfl⟩) ⟨fun a U g mk q => by obtain ⟨q0, qhE⟩ := q; exact ⟨q0, qhE.same rfl rfl⟩, va_Orecv (hE.2.2.2.2.1 3 (by omega)).1 hS, fun U hU hW => ⟨rfl, hE.callF hS hU hW⟩⟩ rfl rfl hl.1 rfl (lv_room (Nat.le_of_ble_eq_true rfl)) dJ0_length_8abf5_6 ⟨Nat.le_of_ble_eq_true rfl, Nat.le_of_ble_eq_true rfl⟩).run (fun r_1 hw_2 => ?_)
  refine qi_as (y := 0) (hw_2) ?_
  refine lv_ishr hx hb dJ0_length_8abf5_9 ?_
  refine qi_as (y := 6) (by decide) ?_
  rw [hQ]
  exact W.iret (v := 6) hx hb hr (fun tQ htQ hWQ => ⟨6, rfl, rfl, by rw [htQ]⟩) (fun q hq => absurd hq List.not_mem_nil) dJ0_length_8abf5_10

theorem kc_same3_0 : ∀ w ∈ wsX50, w ∈ wsX5_sameSigns := by decide +kernel
theorem kc_same3_1 : (.fieldLink RX5 34 "MistHeaps$Hill" "at" "I" : Cond) ∈ wsX5_sameSigns := by decide +kernel
theorem kc_same3_2 : (.fieldLink RX5 31 "MistHeaps$Hill" "size" "I" : Cond) ∈ wsX5_sameSigns := by decide +kernel
set_option maxHeartbeats 4000000 in
set_option maxRecDepth 100000 in
theorem c_same3 (l : Launch) (dC : Nat → ClassId) (dI : Nat → Nat → Nat) (sK sV : Nat → Nat) (bl eW eA eE eC aTp : Nat) : Met l yX5_sameSigns wsX5_sameSigns ({ frames := 2, cells := 0, slots := 0, locals := 40 } : Room) (va_Pc [.ref bl, .ref (sK 3)] (fun U => va_P (dC, dI) vwCl [(bl, .inr (7, [.int 3, .int 0, .ref eW, .ref eA, .ref eE, .ref eC, .int 0, .ref aTp, .int 0, .int 0, .int 0]))] U.heap ∧ va_K (dC, dI) vwCl [] U ∧ Gs sK sV (fun _ => False) U)) (vp_Si (fun r => r = 0)) 0 0 (fun _ => False) := by
  refine met_ofQ (cc := cX5_sameSigns) (maxL := 3) (ret := (some .int)) (by decide) rfl ?_
  intro p e s m args below meth c s₁ Q B hml hv hQ
  obtain ⟨rfl, hP, hK, hE⟩ := hv
  have hx := B.exec
  have hb := B.bytes
  have hr := B.returns
  have hts := atoms_spec (ws := wsX5_sameSigns) B.pre
  have hown : s.vm.findClass RX5 = some m.cls := findClass_of_methodNamed B.named
  have hlocks := B.notSynchronized
  obtain ⟨A, hAe⟩ : ∃ A : Nat → Prop, A = fun _ => False := ⟨_, rfl⟩
  rw [← hAe] at hQ hE
  have hS : va_S A s.heap s.heap [] := va_S.rf
  have hl := lv_entry [.ref bl, .ref (sK 3)] (n := 3) (Nat.le_of_ble_eq_true rfl)
  rw [lg_entry_eq]
  generalize (lg_sl [.ref bl, .ref (sK 3)] ++ List.replicate (3 - (lg_sl [.ref bl, .ref (sK 3)]).length) Slot.unset).toArray = ls at hl ⊢
  generalize hag : ([.ref bl, .ref (sK 3)] : List Value).toArray = args at hts hQ ⊢
  have hl : lv_has ls 3 [(0, .ref bl), (1, .ref (sK 3))] := hl
  refine lv_iconst (v := 0) hx hb dX5_sameSigns_0 (by decide) ?_
  refine lv_istore_n (lv' := [(2, .int 0), (0, .ref bl), (1, .ref (sK 3))]) hx hb dX5_sameSigns_1 rfl hl (by decide) rfl (fun ls hl => ?_)
  refine lv_iload_n hx hb dX5_sameSigns_2 rfl (lv_at hl 0 rfl) ?_
  refine lv_aload_n hx hb dX5_sameSigns_3 rfl (lv_at hl 2 rfl) ?_
  refine vp_callSi (va_runV (As := []) (rest := [.int 0]) ⟨hx, hb, hml, hown, hts⟩ (c_len3 l dC dI sK sV) (cwV 0 hts gX5_sameSigns_J0_length_8abf5 rfl rfl rfl (by decide +kernel) ⟨Nat.le_of_ble_eq_true rfl, Nat.le_of_ble_eq_true rfl⟩) ⟨fun a U g mk q => by obtain ⟨q0, qhE⟩ := q; exact ⟨q0, qhE.same rfl rfl⟩, va_Orecv (hE.2.2.2.2.1 3 (by omega)).1 hS, fun U hU hW => ⟨rfl, hE.callF hS hU hW⟩⟩ rfl rfl hl.1 rfl (lv_room (Nat.le_of_ble_eq_true rfl)) dX5_sameSigns_4 ⟨Nat.le_of_ble_eq_true rfl, Nat.le_of_ble_eq_true rfl⟩).run (fun r_1 hw_2 => ?_)
  refine qi_as (y := 6) (hw_2) ?_
  refine lv_icmp_ge (tgt := 48) hx hb dX5_sameSigns_7 (by decide) (fun c_3 => absurd c_3 (by decide)) (fun _ => ?_)
  refine lv_aload_n hx hb dX5_sameSigns_10 rfl (lv_at hl 1 rfl) ?_
  refine va_get (D := (dC, dI)) (ci := 7) (v := .int 0) (C := RX5) (T := TX5) (N := 11) hx hb hts kc_same3_0 hown hK hP 0 rfl rfl 9 (by decide) (hts (.fieldLink RX5 34 "MistHeaps$Hill" "at" "I") kc_same3_1) (fun _ h9 => h9) rfl dX5_sameSigns_11 ?_
  refine lv_iload_n hx hb dX5_sameSigns_14 rfl (lv_at hl 0 rfl) ?_
  refine lv_iadd hx hb dX5_sameSigns_15 ?_
  refine qi_as (y := 0) (by decide) ?_
  refine lv_aload_n hx hb dX5_sameSigns_16 rfl (lv_at hl 1 rfl) ?_
  refine va_get (D := (dC, dI)) (ci := 7) (v := .int 0) (C := RX5) (T := TX5) (N := 11) hx hb hts kc_same3_0 hown hK hP 0 rfl rfl 8 (by decide) (hts (.fieldLink RX5 31 "MistHeaps$Hill" "size" "I") kc_same3_2) (fun _ h9 => h9) rfl dX5_sameSigns_17 ?_
  refine lv_icmp_ge (tgt := 48) hx hb dX5_sameSigns_20 (by decide) (fun _ => ?_) (fun c_4 => absurd c_4 (by decide))
  refine lv_iload_n hx hb dX5_sameSigns_48 rfl (lv_at hl 0 rfl) ?_
  rw [hQ]
  exact W.iret (v := 0) hx hb hr (fun tQ htQ hWQ => ⟨0, rfl, rfl, by rw [htQ]⟩) (fun q hq => absurd hq List.not_mem_nil) dX5_sameSigns_49

theorem kc_readWord0_0 : (.methodLink RX5 70 Lib.Math.max.name : Cond) ∈ wsX5_readWord := by decide +kernel
theorem kc_readWord0_1 : (.static Lib.Math.max.name : Cond) ∈ wsX5_readWord := by decide +kernel
theorem kc_readWord0_2 : (.initialized "java/lang/Math" : Cond) ∈ wsX5_readWord := by decide +kernel
theorem kc_readWord0_3 : (.code Lib.Math.max.name Lib.Math.max.code 2 (some .int) : Cond) ∈ wsX5_readWord := by decide +kernel
theorem kc_readWord0_4 : ∀ w ∈ wsX50, w ∈ wsX5_readWord := by decide +kernel
theorem kc_readWord0_5 : (.fieldLink RX5 34 "MistHeaps$Hill" "at" "I" : Cond) ∈ wsX5_readWord := by decide +kernel
set_option maxHeartbeats 4000000 in
set_option maxRecDepth 100000 in
theorem c_readWord0 (l : Launch) (dC : Nat → ClassId) (dI : Nat → Nat → Nat) (sK sV : Nat → Nat) (bl eW eA eE eC aTp : Nat) (sz : Nat) : Met l yX5_readWord wsX5_readWord ({ frames := 3, cells := 0, slots := 0, locals := 62 } : Room) (va_Pc [.ref bl] (fun U => U.heap.size = sz ∧ va_P (dC, dI) vwCl [(bl, .inr (7, [.int 3, .int 0, .ref eW, .ref eA, .ref eE, .ref eC, .int 0, .ref aTp, .int 0, .int 0, .int 0]))] U.heap ∧ va_K (dC, dI) vwCl [] U ∧ va_D (fun _ => True) [(bl, .inr (7, [.int 3, .int 0, .ref eW, .ref eA, .ref eE, .ref eC, .int 0, .ref aTp, .int 0, .int 0, .int 0]))] ∧ Gs sK sV (va_A [(bl, .inr (7, [.int 3, .int 0, .ref eW, .ref eA, .ref eE, .ref eC, .int 0, .ref aTp, .int 0, .int 0, .int 0]))] sz) U)) (va_Qi (fun (r : Int32) (u : Unit) => match u with | () => r = -1) (fun (u : Unit) (t : State) => match u with | () => va_P (dC, dI) vwCl [(bl, .inr (7, [.int 3, .int 0, .ref eW, .ref eA, .ref eE, .ref eC, .int 0, .ref aTp, .int 0, .int 0, .int 0]))] t.heap ∧ va_K (dC, dI) vwCl [] t ∧ va_D (va_A [(bl, .inr (7, [.int 3, .int 0, .ref eW, .ref eA, .ref eE, .ref eC, .int 0, .ref aTp, .int 0, .int 0, .int 0]))] sz) [(bl, .inr (7, [.int 3, .int 0, .ref eW, .ref eA, .ref eE, .ref eC, .int 0, .ref aTp, .int 0, .int 0, .int 0]))]) (va_A [(bl, .inr (7, [.int 3, .int 0, .ref eW, .ref eA, .ref eE, .ref eC, .int 0, .ref aTp, .int 0, .int 0, .int 0]))] sz)) 0 0 (va_A [(bl, .inr (7, [.int 3, .int 0, .ref eW, .ref eA, .ref eE, .ref eC, .int 0, .ref aTp, .int 0, .int 0, .int 0]))] sz) := by
  refine met_ofQ (cc := cX5_readWord) (maxL := 5) (ret := (some .int)) (by decide) rfl ?_
  intro p e s m args below meth c s₁ Q B hml hv hQ
  obtain ⟨rfl, hsz, hP, hK, hD0, hE⟩ := hv
  have hx := B.exec
  have hb := B.bytes
  have hr := B.returns
  have hts := atoms_spec (ws := wsX5_readWord) B.pre
  have hown : s.vm.findClass RX5 = some m.cls := findClass_of_methodNamed B.named
  have hlocks := B.notSynchronized
  subst hsz
  have hD := hD0.self (sz := s.heap.size)
  generalize hAe : va_A [(bl, .inr (7, [.int 3, .int 0, .ref eW, .ref eA, .ref eE, .ref eC, .int 0, .ref aTp, .int 0, .int 0, .int 0]))] s.heap.size = A at hD hQ hE ⊢
  have hA : ∀ q : Nat, s.heap.size ≤ q → A q := fun q h => by rw [← hAe]; exact Or.inr h
  have hS : va_S A s.heap s.heap [] := va_S.rf
  have hl := lv_entry [.ref bl] (n := 5) (Nat.le_of_ble_eq_true rfl)
  rw [lg_entry_eq]
  generalize (lg_sl [.ref bl] ++ List.replicate (5 - (lg_sl [.ref bl]).length) Slot.unset).toArray = ls at hl ⊢
  generalize hag : ([.ref bl] : List Value).toArray = args at hts hQ ⊢
  have hl : lv_has ls 5 [(0, .ref bl)] := hl
  obtain ⟨H, hH⟩ : ∃ H : Heap, H = s.heap := ⟨_, rfl⟩
  rw [← hH] at hP
  rw [← hH]
  have hS : va_S A s.heap H [] := by rw [hH]; exact hS
  obtain ⟨locs, hlo⟩ : ∃ L : List Loc, L = [] := ⟨_, rfl⟩
  rw [← hlo] at hS
  rw [← hlo]
  clear hH hlo
  refine lv_iconst (v := 0) hx hb dX5_readWord_0 (by decide) ?_
  refine lv_istore_n (lv' := [(1, .int 0), (0, .ref bl)]) hx hb dX5_readWord_1 rfl hl (by decide) rfl (fun ls hl => ?_)
  refine lv_iconst (v := 0) hx hb dX5_readWord_2 (by decide) ?_
  refine lv_istore_n (lv' := [(2, .int 0), (1, .int 0), (0, .ref bl)]) hx hb dX5_readWord_3 rfl hl (by decide) rfl (fun ls hl => ?_)
  refine lv_iload_n hx hb dX5_readWord_4 rfl (lv_at hl 0 rfl) ?_
  refine lv_iconst (v := 4) hx hb dX5_readWord_5 (by decide) ?_
  refine lv_icmp_ge (tgt := 56) hx hb dX5_readWord_6 (by decide) (fun c_1 => absurd c_1 (by decide)) (fun _ => ?_)
  refine lv_iload_n hx hb dX5_readWord_9 rfl (lv_at hl 0 rfl) ?_
  refine va_csq (va_runS (As := [.int 0]) (rest := []) ⟨hx, hb, hml, hown, hts⟩ (c_text0 l dC dI sK sV) (va_cwS 1 hts gX5_readWord_X5_textOf rfl rfl rfl (by decide +kernel) ⟨Nat.le_of_ble_eq_true rfl, Nat.le_of_ble_eq_true rfl⟩) ⟨fun a U g mk q => by obtain ⟨q0, qhE⟩ := q; exact ⟨q0, qhE.same rfl rfl⟩, fun U hU hW => ⟨rfl, hE.callF hS hU hW⟩⟩ rfl rfl hl.1 rfl (lv_room (Nat.le_of_ble_eq_true rfl)) dX5_readWord_10 ⟨Nat.le_of_ble_eq_true rfl, Nat.le_of_ble_eq_true rfl⟩).run (fun r_2 hw_3 => ?_)
  refine qq_as (v := .ref (sK 0)) (by rw [hw_3]; rfl) ?_
  refine lv_astore_n (lv' := [(3, .ref (sK 0)), (2, .int 0), (1, .int 0), (0, .ref bl)]) hx hb dX5_readWord_13 rfl hl (by decide) rfl (fun ls hl => ?_)
  refine lv_aload_n hx hb dX5_readWord_14 rfl (lv_at hl 3 rfl) ?_
  refine lv_aload_n hx hb dX5_readWord_15 rfl (lv_at hl 0 rfl) ?_
  have hPc := hP.sub (ws' := [(bl, .inr (7, [.int 3, .int 0, .ref eW, .ref eA, .ref eE, .ref eC, .int 0, .ref aTp, .int 0, .int 0, .int 0]))]) [0] rfl
  have hKc := hK.sub (tys' := []) [] rfl
  refine vp_callSi (va_runV (As := [.ref (sK 0)]) (rest := []) ⟨hx, hb, hml, hown, hts⟩ (c_same0 l dC dI sK sV bl eW eA eE eC aTp) (cwV 1 hts gX5_readWord_X5_sameSigns rfl rfl rfl (by decide +kernel) ⟨Nat.le_of_ble_eq_true rfl, Nat.le_of_ble_eq_true rfl⟩) ⟨fun a U g mk q => by obtain ⟨q0, qP, qK, qhE⟩ := q; exact ⟨q0, qP, va_K.moved (u := U) (U := U.calling g mk a) (Vm.Alike.refl U.vm) qK, qhE.same rfl rfl⟩, va_recv hK hP (ci := 7) (q0 := 0) rfl rfl, fun U hU hW => ⟨rfl, by rw [hU]; exact hPc, va_K.moved hW.alike hKc, hE.callF hS hU hW⟩⟩ rfl rfl hl.1 rfl (lv_room (Nat.le_of_ble_eq_true rfl)) dX5_readWord_16 ⟨Nat.le_of_ble_eq_true rfl, Nat.le_of_ble_eq_true rfl⟩).run (fun r_4 hw_5 => ?_)
  refine qi_as (y := 0) (hw_5) ?_
  refine lv_istore (lv' := [(4, .int 0), (3, .ref (sK 0)), (2, .int 0), (1, .int 0), (0, .ref bl)]) hx hb dX5_readWord_19 hl (by decide) rfl (fun ls hl => ?_)
  refine lv_iload_n hx hb dX5_readWord_21 rfl (lv_at hl 3 rfl) ?_
  refine lv_iload hx hb dX5_readWord_22 (lv_at hl 0 rfl) ?_
  refine va_mmax hx hb (by rw [hml]; exact hl.1.symm) hown (hts (.methodLink RX5 70 Lib.Math.max.name) kc_readWord0_0) (hts (.static Lib.Math.max.name) kc_readWord0_1) (hts (.initialized "java/lang/Math") kc_readWord0_2) (hts (.code Lib.Math.max.name Lib.Math.max.code 2 (some .int)) kc_readWord0_3) (Nat.le_of_ble_eq_true rfl) (Nat.le_of_ble_eq_true rfl) (Nat.le_of_ble_eq_true rfl) (Nat.le_of_ble_eq_true rfl) dX5_readWord_24 ?_
  refine qi_as (y := 0) (by decide) ?_
  refine lv_istore_n (lv' := [(1, .int 0), (4, .int 0), (3, .ref (sK 0)), (2, .int 0), (0, .ref bl)]) hx hb dX5_readWord_27 rfl hl (by decide) rfl (fun ls hl => ?_)
  refine lv_iload hx hb dX5_readWord_28 (lv_at hl 1 rfl) ?_
  refine lv_aload_n hx hb dX5_readWord_30 rfl (lv_at hl 2 rfl) ?_
  refine vp_callSi (va_runV (As := []) (rest := [.int 0]) ⟨hx, hb, hml, hown, hts⟩ (c_len0 l dC dI sK sV) (cwV 0 hts gX5_readWord_J0_length_8abf5 rfl rfl rfl (by decide +kernel) ⟨Nat.le_of_ble_eq_true rfl, Nat.le_of_ble_eq_true rfl⟩) ⟨fun a U g mk q => by obtain ⟨q0, qhE⟩ := q; exact ⟨q0, qhE.same rfl rfl⟩, va_Orecv (hE.2.2.2.2.1 0 (by omega)).1 hS, fun U hU hW => ⟨rfl, hE.callF hS hU hW⟩⟩ rfl rfl hl.1 rfl (lv_room (Nat.le_of_ble_eq_true rfl)) dX5_readWord_31 ⟨Nat.le_of_ble_eq_true rfl, Nat.le_of_ble_eq_true rfl⟩).run (fun r_6 hw_7 => ?_)
  refine qi_as (y := 4) (hw_7) ?_
  refine lv_icmp_ne (tgt := 50) hx hb dX5_readWord_34 (by decide) (fun _ => ?_) (fun c_8 => absurd c_8 (by decide))
  refine lv_iinc (v := 1) (lv' := [(2, .int 1), (1, .int 0), (4, .int 0), (3, .ref (sK 0)), (0, .ref bl)]) hx hb dX5_readWord_50 hl (k := 3) rfl (by decide) (by decide) rfl (fun ls hl => ?_)
  refine lv_goto (tgt := 4) hx hb dX5_readWord_53 (by decide) ?_
  refine lv_iload_n hx hb dX5_readWord_4 rfl (lv_at hl 0 rfl) ?_
  refine lv_iconst (v := 4) hx hb dX5_readWord_5 (by decide) ?_
  refine lv_icmp_ge (tgt := 56) hx hb dX5_readWord_6 (by decide) (fun c_9 => absurd c_9 (by decide)) (fun _ => ?_)
  refine lv_iload_n hx hb dX5_readWord_9 rfl (lv_at hl 0 rfl) ?_
  refine va_csq (va_runS (As := [.int 1]) (rest := []) ⟨hx, hb, hml, hown, hts⟩ (c_text1 l dC dI sK sV) (va_cwS 1 hts gX5_readWord_X5_textOf rfl rfl rfl (by decide +kernel) ⟨Nat.le_of_ble_eq_true rfl, Nat.le_of_ble_eq_true rfl⟩) ⟨fun a U g mk q => by obtain ⟨q0, qhE⟩ := q; exact ⟨q0, qhE.same rfl rfl⟩, fun U hU hW => ⟨rfl, hE.callF hS hU hW⟩⟩ rfl rfl hl.1 rfl (lv_room (Nat.le_of_ble_eq_true rfl)) dX5_readWord_10 ⟨Nat.le_of_ble_eq_true rfl, Nat.le_of_ble_eq_true rfl⟩).run (fun r_10 hw_11 => ?_)
  refine qq_as (v := .ref (sK 1)) (by rw [hw_11]; rfl) ?_
  refine lv_astore_n (lv' := [(3, .ref (sK 1)), (2, .int 1), (1, .int 0), (4, .int 0), (0, .ref bl)]) hx hb dX5_readWord_13 rfl hl (by decide) rfl (fun ls hl => ?_)
  refine lv_aload_n hx hb dX5_readWord_14 rfl (lv_at hl 4 rfl) ?_
  refine lv_aload_n hx hb dX5_readWord_15 rfl (lv_at hl 0 rfl) ?_
  have hPc := hP.sub (ws' := [(bl, .inr (7, [.int 3, .int 0, .ref eW, .ref eA, .ref eE, .ref eC, .int 0, .ref aTp, .int 0, .int 0, .int 0]))]) [0] rfl
  have hKc := hK.sub (tys' := []) [] rfl
  refine vp_callSi (va_runV (As := [.ref (sK 1)]) (rest := []) ⟨hx, hb, hml, hown, hts⟩ (c_same1 l dC dI sK sV bl eW eA eE eC aTp) (cwV 1 hts gX5_readWord_X5_sameSigns rfl rfl rfl (by decide +kernel) ⟨Nat.le_of_ble_eq_true rfl, Nat.le_of_ble_eq_true rfl⟩) ⟨fun a U g mk q => by obtain ⟨q0, qP, qK, qhE⟩ := q; exact ⟨q0, qP, va_K.moved (u := U) (U := U.calling g mk a) (Vm.Alike.refl U.vm) qK, qhE.same rfl rfl⟩, va_recv hK hP (ci := 7) (q0 := 0) rfl rfl, fun U hU hW => ⟨rfl, by rw [hU]; exact hPc, va_K.moved hW.alike hKc, hE.callF hS hU hW⟩⟩ rfl rfl hl.1 rfl (lv_room (Nat.le_of_ble_eq_true rfl)) dX5_readWord_16 ⟨Nat.le_of_ble_eq_true rfl, Nat.le_of_ble_eq_true rfl⟩).run (fun r_12 hw_13 => ?_)
  refine qi_as (y := 0) (hw_13) ?_
  refine lv_istore (lv' := [(4, .int 0), (3, .ref (sK 1)), (2, .int 1), (1, .int 0), (0, .ref bl)]) hx hb dX5_readWord_19 hl (by decide) rfl (fun ls hl => ?_)
  refine lv_iload_n hx hb dX5_readWord_21 rfl (lv_at hl 3 rfl) ?_
  refine lv_iload hx hb dX5_readWord_22 (lv_at hl 0 rfl) ?_
  refine va_mmax hx hb (by rw [hml]; exact hl.1.symm) hown (hts (.methodLink RX5 70 Lib.Math.max.name) kc_readWord0_0) (hts (.static Lib.Math.max.name) kc_readWord0_1) (hts (.initialized "java/lang/Math") kc_readWord0_2) (hts (.code Lib.Math.max.name Lib.Math.max.code 2 (some .int)) kc_readWord0_3) (Nat.le_of_ble_eq_true rfl) (Nat.le_of_ble_eq_true rfl) (Nat.le_of_ble_eq_true rfl) (Nat.le_of_ble_eq_true rfl) dX5_readWord_24 ?_
  refine qi_as (y := 0) (by decide) ?_
  refine lv_istore_n (lv' := [(1, .int 0), (4, .int 0), (3, .ref (sK 1)), (2, .int 1), (0, .ref bl)]) hx hb dX5_readWord_27 rfl hl (by decide) rfl (fun ls hl => ?_)
  refine lv_iload hx hb dX5_readWord_28 (lv_at hl 1 rfl) ?_
  refine lv_aload_n hx hb dX5_readWord_30 rfl (lv_at hl 2 rfl) ?_
  refine vp_callSi (va_runV (As := []) (rest := [.int 0]) ⟨hx, hb, hml, hown, hts⟩ (c_len1 l dC dI sK sV) (cwV 0 hts gX5_readWord_J0_length_8abf5 rfl rfl rfl (by decide +kernel) ⟨Nat.le_of_ble_eq_true rfl, Nat.le_of_ble_eq_true rfl⟩) ⟨fun a U g mk q => by obtain ⟨q0, qhE⟩ := q; exact ⟨q0, qhE.same rfl rfl⟩, va_Orecv (hE.2.2.2.2.1 1 (by omega)).1 hS, fun U hU hW => ⟨rfl, hE.callF hS hU hW⟩⟩ rfl rfl hl.1 rfl (lv_room (Nat.le_of_ble_eq_true rfl)) dX5_readWord_31 ⟨Nat.le_of_ble_eq_true rfl, Nat.le_of_ble_eq_true rfl⟩).run (fun r_14 hw_15 => ?_)
  refine qi_as (y := 5) (hw_15) ?_
  refine lv_icmp_ne (tgt := 50) hx hb dX5_readWord_34 (by decide) (fun _ => ?_) (fun c_16 => absurd c_16 (by decide))
  refine lv_iinc (v := 2) (lv' := [(2, .int 2), (1, .int 0), (4, .int 0), (3, .ref (sK 1)), (0, .ref bl)]) hx hb dX5_readWord_50 hl (k := 3) rfl (by decide) (by decide) rfl (fun ls hl => ?_)
  refine lv_goto (tgt := 4) hx hb dX5_readWord_53 (by decide) ?_
  refine lv_iload_n hx hb dX5_readWord_4 rfl (lv_at hl 0 rfl) ?_
  refine lv_iconst (v := 4) hx hb dX5_readWord_5 (by decide) ?_
  refine lv_icmp_ge (tgt := 56) hx hb dX5_readWord_6 (by decide) (fun c_17 => absurd c_17 (by decide)) (fun _ => ?_)
  refine lv_iload_n hx hb dX5_readWord_9 rfl (lv_at hl 0 rfl) ?_
  refine va_csq (va_runS (As := [.int 2]) (rest := []) ⟨hx, hb, hml, hown, hts⟩ (c_text2 l dC dI sK sV) (va_cwS 1 hts gX5_readWord_X5_textOf rfl rfl rfl (by decide +kernel) ⟨Nat.le_of_ble_eq_true rfl, Nat.le_of_ble_eq_true rfl⟩) ⟨fun a U g mk q => by obtain ⟨q0, qhE⟩ := q; exact ⟨q0, qhE.same rfl rfl⟩, fun U hU hW => ⟨rfl, hE.callF hS hU hW⟩⟩ rfl rfl hl.1 rfl (lv_room (Nat.le_of_ble_eq_true rfl)) dX5_readWord_10 ⟨Nat.le_of_ble_eq_true rfl, Nat.le_of_ble_eq_true rfl⟩).run (fun r_18 hw_19 => ?_)
  refine qq_as (v := .ref (sK 2)) (by rw [hw_19]; rfl) ?_
  refine lv_astore_n (lv' := [(3, .ref (sK 2)), (2, .int 2), (1, .int 0), (4, .int 0), (0, .ref bl)]) hx hb dX5_readWord_13 rfl hl (by decide) rfl (fun ls hl => ?_)
  refine lv_aload_n hx hb dX5_readWord_14 rfl (lv_at hl 4 rfl) ?_
  refine lv_aload_n hx hb dX5_readWord_15 rfl (lv_at hl 0 rfl) ?_
  have hPc := hP.sub (ws' := [(bl, .inr (7, [.int 3, .int 0, .ref eW, .ref eA, .ref eE, .ref eC, .int 0, .ref aTp, .int 0, .int 0, .int 0]))]) [0] rfl
  have hKc := hK.sub (tys' := []) [] rfl
  refine vp_callSi (va_runV (As := [.ref (sK 2)]) (rest := []) ⟨hx, hb, hml, hown, hts⟩ (c_same2 l dC dI sK sV bl eW eA eE eC aTp) (cwV 1 hts gX5_readWord_X5_sameSigns rfl rfl rfl (by decide +kernel) ⟨Nat.le_of_ble_eq_true rfl, Nat.le_of_ble_eq_true rfl⟩) ⟨fun a U g mk q => by obtain ⟨q0, qP, qK, qhE⟩ := q; exact ⟨q0, qP, va_K.moved (u := U) (U := U.calling g mk a) (Vm.Alike.refl U.vm) qK, qhE.same rfl rfl⟩, va_recv hK hP (ci := 7) (q0 := 0) rfl rfl, fun U hU hW => ⟨rfl, by rw [hU]; exact hPc, va_K.moved hW.alike hKc, hE.callF hS hU hW⟩⟩ rfl rfl hl.1 rfl (lv_room (Nat.le_of_ble_eq_true rfl)) dX5_readWord_16 ⟨Nat.le_of_ble_eq_true rfl, Nat.le_of_ble_eq_true rfl⟩).run (fun r_20 hw_21 => ?_)
  refine qi_as (y := 0) (hw_21) ?_
  refine lv_istore (lv' := [(4, .int 0), (3, .ref (sK 2)), (2, .int 2), (1, .int 0), (0, .ref bl)]) hx hb dX5_readWord_19 hl (by decide) rfl (fun ls hl => ?_)
  refine lv_iload_n hx hb dX5_readWord_21 rfl (lv_at hl 3 rfl) ?_
  refine lv_iload hx hb dX5_readWord_22 (lv_at hl 0 rfl) ?_
  refine va_mmax hx hb (by rw [hml]; exact hl.1.symm) hown (hts (.methodLink RX5 70 Lib.Math.max.name) kc_readWord0_0) (hts (.static Lib.Math.max.name) kc_readWord0_1) (hts (.initialized "java/lang/Math") kc_readWord0_2) (hts (.code Lib.Math.max.name Lib.Math.max.code 2 (some .int)) kc_readWord0_3) (Nat.le_of_ble_eq_true rfl) (Nat.le_of_ble_eq_true rfl) (Nat.le_of_ble_eq_true rfl) (Nat.le_of_ble_eq_true rfl) dX5_readWord_24 ?_
  refine qi_as (y := 0) (by decide) ?_
  refine lv_istore_n (lv' := [(1, .int 0), (4, .int 0), (3, .ref (sK 2)), (2, .int 2), (0, .ref bl)]) hx hb dX5_readWord_27 rfl hl (by decide) rfl (fun ls hl => ?_)
  refine lv_iload hx hb dX5_readWord_28 (lv_at hl 1 rfl) ?_
  refine lv_aload_n hx hb dX5_readWord_30 rfl (lv_at hl 2 rfl) ?_
  refine vp_callSi (va_runV (As := []) (rest := [.int 0]) ⟨hx, hb, hml, hown, hts⟩ (c_len2 l dC dI sK sV) (cwV 0 hts gX5_readWord_J0_length_8abf5 rfl rfl rfl (by decide +kernel) ⟨Nat.le_of_ble_eq_true rfl, Nat.le_of_ble_eq_true rfl⟩) ⟨fun a U g mk q => by obtain ⟨q0, qhE⟩ := q; exact ⟨q0, qhE.same rfl rfl⟩, va_Orecv (hE.2.2.2.2.1 2 (by omega)).1 hS, fun U hU hW => ⟨rfl, hE.callF hS hU hW⟩⟩ rfl rfl hl.1 rfl (lv_room (Nat.le_of_ble_eq_true rfl)) dX5_readWord_31 ⟨Nat.le_of_ble_eq_true rfl, Nat.le_of_ble_eq_true rfl⟩).run (fun r_22 hw_23 => ?_)
  refine qi_as (y := 6) (hw_23) ?_
  refine lv_icmp_ne (tgt := 50) hx hb dX5_readWord_34 (by decide) (fun _ => ?_) (fun c_24 => absurd c_24 (by decide))
  refine lv_iinc (v := 3) (lv' := [(2, .int 3), (1, .int 0), (4, .int 0), (3, .ref (sK 2)), (0, .ref bl)]) hx hb dX5_readWord_50 hl (k := 3) rfl (by decide) (by decide) rfl (fun ls hl => ?_)
  refine lv_goto (tgt := 4) hx hb dX5_readWord_53 (by decide) ?_
  refine lv_iload_n hx hb dX5_readWord_4 rfl (lv_at hl 0 rfl) ?_
  refine lv_iconst (v := 4) hx hb dX5_readWord_5 (by decide) ?_
  refine lv_icmp_ge (tgt := 56) hx hb dX5_readWord_6 (by decide) (fun c_25 => absurd c_25 (by decide)) (fun _ => ?_)
  refine lv_iload_n hx hb dX5_readWord_9 rfl (lv_at hl 0 rfl) ?_
  refine va_csq (va_runS (As := [.int 3]) (rest := []) ⟨hx, hb, hml, hown, hts⟩ (c_text3 l dC dI sK sV) (va_cwS 1 hts gX5_readWord_X5_textOf rfl rfl rfl (by decide +kernel) ⟨Nat.le_of_ble_eq_true rfl, Nat.le_of_ble_eq_true rfl⟩) ⟨fun a U g mk q => by obtain ⟨q0, qhE⟩ := q; exact ⟨q0, qhE.same rfl rfl⟩, fun U hU hW => ⟨rfl, hE.callF hS hU hW⟩⟩ rfl rfl hl.1 rfl (lv_room (Nat.le_of_ble_eq_true rfl)) dX5_readWord_10 ⟨Nat.le_of_ble_eq_true rfl, Nat.le_of_ble_eq_true rfl⟩).run (fun r_26 hw_27 => ?_)
  refine qq_as (v := .ref (sK 3)) (by rw [hw_27]; rfl) ?_
  refine lv_astore_n (lv' := [(3, .ref (sK 3)), (2, .int 3), (1, .int 0), (4, .int 0), (0, .ref bl)]) hx hb dX5_readWord_13 rfl hl (by decide) rfl (fun ls hl => ?_)
  refine lv_aload_n hx hb dX5_readWord_14 rfl (lv_at hl 4 rfl) ?_
  refine lv_aload_n hx hb dX5_readWord_15 rfl (lv_at hl 0 rfl) ?_
  have hPc := hP.sub (ws' := [(bl, .inr (7, [.int 3, .int 0, .ref eW, .ref eA, .ref eE, .ref eC, .int 0, .ref aTp, .int 0, .int 0, .int 0]))]) [0] rfl
  have hKc := hK.sub (tys' := []) [] rfl
  refine vp_callSi (va_runV (As := [.ref (sK 3)]) (rest := []) ⟨hx, hb, hml, hown, hts⟩ (c_same3 l dC dI sK sV bl eW eA eE eC aTp) (cwV 1 hts gX5_readWord_X5_sameSigns rfl rfl rfl (by decide +kernel) ⟨Nat.le_of_ble_eq_true rfl, Nat.le_of_ble_eq_true rfl⟩) ⟨fun a U g mk q => by obtain ⟨q0, qP, qK, qhE⟩ := q; exact ⟨q0, qP, va_K.moved (u := U) (U := U.calling g mk a) (Vm.Alike.refl U.vm) qK, qhE.same rfl rfl⟩, va_recv hK hP (ci := 7) (q0 := 0) rfl rfl, fun U hU hW => ⟨rfl, by rw [hU]; exact hPc, va_K.moved hW.alike hKc, hE.callF hS hU hW⟩⟩ rfl rfl hl.1 rfl (lv_room (Nat.le_of_ble_eq_true rfl)) dX5_readWord_16 ⟨Nat.le_of_ble_eq_true rfl, Nat.le_of_ble_eq_true rfl⟩).run (fun r_28 hw_29 => ?_)
  refine qi_as (y := 0) (hw_29) ?_
  refine lv_istore (lv' := [(4, .int 0), (3, .ref (sK 3)), (2, .int 3), (1, .int 0), (0, .ref bl)]) hx hb dX5_readWord_19 hl (by decide) rfl (fun ls hl => ?_)
  refine lv_iload_n hx hb dX5_readWord_21 rfl (lv_at hl 3 rfl) ?_
  refine lv_iload hx hb dX5_readWord_22 (lv_at hl 0 rfl) ?_
  refine va_mmax hx hb (by rw [hml]; exact hl.1.symm) hown (hts (.methodLink RX5 70 Lib.Math.max.name) kc_readWord0_0) (hts (.static Lib.Math.max.name) kc_readWord0_1) (hts (.initialized "java/lang/Math") kc_readWord0_2) (hts (.code Lib.Math.max.name Lib.Math.max.code 2 (some .int)) kc_readWord0_3) (Nat.le_of_ble_eq_true rfl) (Nat.le_of_ble_eq_true rfl) (Nat.le_of_ble_eq_true rfl) (Nat.le_of_ble_eq_true rfl) dX5_readWord_24 ?_
  refine qi_as (y := 0) (by decide) ?_
  refine lv_istore_n (lv' := [(1, .int 0), (4, .int 0), (3, .ref (sK 3)), (2, .int 3), (0, .ref bl)]) hx hb dX5_readWord_27 rfl hl (by decide) rfl (fun ls hl => ?_)
  refine lv_iload hx hb dX5_readWord_28 (lv_at hl 1 rfl) ?_
  refine lv_aload_n hx hb dX5_readWord_30 rfl (lv_at hl 2 rfl) ?_
  refine vp_callSi (va_runV (As := []) (rest := [.int 0]) ⟨hx, hb, hml, hown, hts⟩ (c_len3 l dC dI sK sV) (cwV 0 hts gX5_readWord_J0_length_8abf5 rfl rfl rfl (by decide +kernel) ⟨Nat.le_of_ble_eq_true rfl, Nat.le_of_ble_eq_true rfl⟩) ⟨fun a U g mk q => by obtain ⟨q0, qhE⟩ := q; exact ⟨q0, qhE.same rfl rfl⟩, va_Orecv (hE.2.2.2.2.1 3 (by omega)).1 hS, fun U hU hW => ⟨rfl, hE.callF hS hU hW⟩⟩ rfl rfl hl.1 rfl (lv_room (Nat.le_of_ble_eq_true rfl)) dX5_readWord_31 ⟨Nat.le_of_ble_eq_true rfl, Nat.le_of_ble_eq_true rfl⟩).run (fun r_30 hw_31 => ?_)
  refine qi_as (y := 6) (hw_31) ?_
  refine lv_icmp_ne (tgt := 50) hx hb dX5_readWord_34 (by decide) (fun _ => ?_) (fun c_32 => absurd c_32 (by decide))
  refine lv_iinc (v := 4) (lv' := [(2, .int 4), (1, .int 0), (4, .int 0), (3, .ref (sK 3)), (0, .ref bl)]) hx hb dX5_readWord_50 hl (k := 3) rfl (by decide) (by decide) rfl (fun ls hl => ?_)
  refine lv_goto (tgt := 4) hx hb dX5_readWord_53 (by decide) ?_
  refine lv_iload_n hx hb dX5_readWord_4 rfl (lv_at hl 0 rfl) ?_
  refine lv_iconst (v := 4) hx hb dX5_readWord_5 (by decide) ?_
  refine lv_icmp_ge (tgt := 56) hx hb dX5_readWord_6 (by decide) (fun _ => ?_) (fun c_33 => absurd c_33 (by decide))
  refine lv_aload_n hx hb dX5_readWord_56 rfl (lv_at hl 4 rfl) ?_
  refine lv_dup hx hb dX5_readWord_57 rfl ?_
  refine va_get (D := (dC, dI)) (ci := 7) (v := .int 0) (C := RX5) (T := TX5) (N := 11) hx hb hts kc_readWord0_4 hown hK hP 0 rfl rfl 9 (by decide) (hts (.fieldLink RX5 34 "MistHeaps$Hill" "at" "I") kc_readWord0_5) (fun _ h9 => h9) rfl dX5_readWord_58 ?_
  refine lv_iload_n hx hb dX5_readWord_61 rfl (lv_at hl 1 rfl) ?_
  refine lv_iadd hx hb dX5_readWord_62 ?_
  refine qi_as (y := 0) (by decide) ?_
  refine va_put (D := (dC, dI)) (ci := 7) (v := .int 0) (ty := .int) (C := RX5) (T := TX5) (N := 11) hx hb hts kc_readWord0_4 tyX5 tyX5_ok nmX5 hown hK hP hD hS 0 rfl rfl 9 (by decide) (hts (.fieldLink RX5 34 "MistHeaps$Hill" "at" "I") kc_readWord0_5) (fun _ h9 => h9) rfl (by decide +kernel) rfl rfl (Nat.le_of_ble_eq_true rfl) dX5_readWord_63 (fun H locs hP hD hS => ?_)
  have hP : va_P (dC, dI) vwCl [(bl, .inr (7, [.int 3, .int 0, .ref eW, .ref eA, .ref eE, .ref eC, .int 0, .ref aTp, .int 0, .int 0, .int 0]))] H := hP
  have hD : va_D A [(bl, .inr (7, [.int 3, .int 0, .ref eW, .ref eA, .ref eE, .ref eC, .int 0, .ref aTp, .int 0, .int 0, .int 0]))] := hD
  refine lv_iconst (v := (-1)) hx hb dX5_readWord_66 (by decide) ?_
  rw [hQ]
  have hP9 := hP.sub (ws' := [(bl, .inr (7, [.int 3, .int 0, .ref eW, .ref eA, .ref eE, .ref eC, .int 0, .ref aTp, .int 0, .int 0, .int 0]))]) [0] rfl
  have hD9 := hD.sub (ws' := [(bl, .inr (7, [.int 3, .int 0, .ref eW, .ref eA, .ref eE, .ref eC, .int 0, .ref aTp, .int 0, .int 0, .int 0]))]) [0] (by decide) rfl
  have hK9 := hK.sub (tys' := []) [] rfl
  exact W.iret (v := (-1)) hx hb hr (fun tQ htQ hWQ => ⟨⟨(-1), (), rfl, rfl, by rw [htQ]; exact hP9, va_K.moved hWQ.alike hK9, hD9⟩, hS.F htQ⟩) hS.2.2 dX5_readWord_67

theorem kc_read0_0 : ∀ w ∈ wsX50, w ∈ wsX5_read := by decide +kernel
theorem kc_read0_1 : (.fieldLink RX5 28 "MistHeaps$Hill" "tape" "[I" : Cond) ∈ wsX5_read := by decide +kernel
theorem kc_read0_2 : (.fieldLink RX5 31 "MistHeaps$Hill" "size" "I" : Cond) ∈ wsX5_read := by decide +kernel
theorem kc_read0_3 : (.fieldLink RX5 34 "MistHeaps$Hill" "at" "I" : Cond) ∈ wsX5_read := by decide +kernel
theorem kc_read0_4 : (.fieldLink RX5 37 "MistHeaps$Hill" "coded" "I" : Cond) ∈ wsX5_read := by decide +kernel
theorem kc_read0_5 : (.fieldLink RX5 11 "MistHeaps$Hill" "sight" "I" : Cond) ∈ wsX5_read := by decide +kernel
set_option maxHeartbeats 4000000 in
set_option maxRecDepth 100000 in
theorem c_read0 (l : Launch) (dC : Nat → ClassId) (dI : Nat → Nat → Nat) (sK sV : Nat → Nat) (bl eW eA eE eC aTp : Nat) (sz : Nat) : Met l yX5_read wsX5_read ({ frames := 4, cells := 0, slots := 0, locals := 86 } : Room) (va_Pc [.ref bl, .ref aTp, .int 0] (fun U => U.heap.size = sz ∧ va_P (dC, dI) vwCl [(bl, .inr (7, [.int 3, .int 0, .ref eW, .ref eA, .ref eE, .ref eC, .int 0, .null, .int 0, .int 0, .int 0]))] U.heap ∧ va_K (dC, dI) vwCl [] U ∧ va_D (fun _ => True) [(bl, .inr (7, [.int 3, .int 0, .ref eW, .ref eA, .ref eE, .ref eC, .int 0, .null, .int 0, .int 0, .int 0]))] ∧ Gs sK sV (va_A [(bl, .inr (7, [.int 3, .int 0, .ref eW, .ref eA, .ref eE, .ref eC, .int 0, .null, .int 0, .int 0, .int 0]))] sz) U)) (va_Qi (fun (r : Int32) (u : Unit) => match u with | () => r = 0) (fun (u : Unit) (t : State) => match u with | () => True) (va_A [(bl, .inr (7, [.int 3, .int 0, .ref eW, .ref eA, .ref eE, .ref eC, .int 0, .null, .int 0, .int 0, .int 0]))] sz)) 0 0 (va_A [(bl, .inr (7, [.int 3, .int 0, .ref eW, .ref eA, .ref eE, .ref eC, .int 0, .null, .int 0, .int 0, .int 0]))] sz) := by
  refine met_ofQ (cc := cX5_read) (maxL := 5) (ret := (some .int)) (by decide) rfl ?_
  intro p e s m args below meth c s₁ Q B hml hv hQ
  obtain ⟨rfl, hsz, hP, hK, hD0, hE⟩ := hv
  have hx := B.exec
  have hb := B.bytes
  have hr := B.returns
  have hts := atoms_spec (ws := wsX5_read) B.pre
  have hown : s.vm.findClass RX5 = some m.cls := findClass_of_methodNamed B.named
  have hlocks := B.notSynchronized
  subst hsz
  have hD := hD0.self (sz := s.heap.size)
  generalize hAe : va_A [(bl, .inr (7, [.int 3, .int 0, .ref eW, .ref eA, .ref eE, .ref eC, .int 0, .null, .int 0, .int 0, .int 0]))] s.heap.size = A at hD hQ hE ⊢
  have hA : ∀ q : Nat, s.heap.size ≤ q → A q := fun q h => by rw [← hAe]; exact Or.inr h
  have hS : va_S A s.heap s.heap [] := va_S.rf
  have hl := lv_entry [.ref bl, .ref aTp, .int 0] (n := 5) (Nat.le_of_ble_eq_true rfl)
  rw [lg_entry_eq]
  generalize (lg_sl [.ref bl, .ref aTp, .int 0] ++ List.replicate (5 - (lg_sl [.ref bl, .ref aTp, .int 0]).length) Slot.unset).toArray = ls at hl ⊢
  generalize hag : ([.ref bl, .ref aTp, .int 0] : List Value).toArray = args at hts hQ ⊢
  have hl : lv_has ls 5 [(0, .ref bl), (1, .ref aTp), (2, .int 0)] := hl
  obtain ⟨H, hH⟩ : ∃ H : Heap, H = s.heap := ⟨_, rfl⟩
  rw [← hH] at hP
  rw [← hH]
  have hS : va_S A s.heap H [] := by rw [hH]; exact hS
  obtain ⟨locs, hlo⟩ : ∃ L : List Loc, L = [] := ⟨_, rfl⟩
  rw [← hlo] at hS
  rw [← hlo]
  clear hH hlo
  refine lv_aload_n hx hb dX5_read_0 rfl (lv_at hl 0 rfl) ?_
  refine lv_aload_n hx hb dX5_read_1 rfl (lv_at hl 1 rfl) ?_
  refine va_put (D := (dC, dI)) (ci := 7) (v := .ref aTp) (ty := .array .int) (C := RX5) (T := TX5) (N := 11) hx hb hts kc_read0_0 tyX5 tyX5_ok nmX5 hown hK hP hD hS 0 rfl rfl 7 (by decide) (hts (.fieldLink RX5 28 "MistHeaps$Hill" "tape" "[I") kc_read0_1) (fun _ h9 => h9) rfl (by decide +kernel) rfl rfl (Nat.le_of_ble_eq_true rfl) dX5_read_2 (fun H locs hP hD hS => ?_)
  have hP : va_P (dC, dI) vwCl [(bl, .inr (7, [.int 3, .int 0, .ref eW, .ref eA, .ref eE, .ref eC, .int 0, .ref aTp, .int 0, .int 0, .int 0]))] H := hP
  have hD : va_D A [(bl, .inr (7, [.int 3, .int 0, .ref eW, .ref eA, .ref eE, .ref eC, .int 0, .ref aTp, .int 0, .int 0, .int 0]))] := hD
  refine lv_aload_n hx hb dX5_read_5 rfl (lv_at hl 0 rfl) ?_
  refine lv_iload_n hx hb dX5_read_6 rfl (lv_at hl 2 rfl) ?_
  refine va_put (D := (dC, dI)) (ci := 7) (v := .int 0) (ty := .int) (C := RX5) (T := TX5) (N := 11) hx hb hts kc_read0_0 tyX5 tyX5_ok nmX5 hown hK hP hD hS 0 rfl rfl 8 (by decide) (hts (.fieldLink RX5 31 "MistHeaps$Hill" "size" "I") kc_read0_2) (fun _ h9 => h9) rfl (by decide +kernel) rfl rfl (Nat.le_of_ble_eq_true rfl) dX5_read_7 (fun H locs hP hD hS => ?_)
  have hP : va_P (dC, dI) vwCl [(bl, .inr (7, [.int 3, .int 0, .ref eW, .ref eA, .ref eE, .ref eC, .int 0, .ref aTp, .int 0, .int 0, .int 0]))] H := hP
  have hD : va_D A [(bl, .inr (7, [.int 3, .int 0, .ref eW, .ref eA, .ref eE, .ref eC, .int 0, .ref aTp, .int 0, .int 0, .int 0]))] := hD
  refine lv_aload_n hx hb dX5_read_10 rfl (lv_at hl 0 rfl) ?_
  refine lv_iconst (v := 0) hx hb dX5_read_11 (by decide) ?_
  refine va_put (D := (dC, dI)) (ci := 7) (v := .int 0) (ty := .int) (C := RX5) (T := TX5) (N := 11) hx hb hts kc_read0_0 tyX5 tyX5_ok nmX5 hown hK hP hD hS 0 rfl rfl 9 (by decide) (hts (.fieldLink RX5 34 "MistHeaps$Hill" "at" "I") kc_read0_3) (fun _ h9 => h9) rfl (by decide +kernel) rfl rfl (Nat.le_of_ble_eq_true rfl) dX5_read_12 (fun H locs hP hD hS => ?_)
  have hP : va_P (dC, dI) vwCl [(bl, .inr (7, [.int 3, .int 0, .ref eW, .ref eA, .ref eE, .ref eC, .int 0, .ref aTp, .int 0, .int 0, .int 0]))] H := hP
  have hD : va_D A [(bl, .inr (7, [.int 3, .int 0, .ref eW, .ref eA, .ref eE, .ref eC, .int 0, .ref aTp, .int 0, .int 0, .int 0]))] := hD
  refine lv_aload_n hx hb dX5_read_15 rfl (lv_at hl 0 rfl) ?_
  refine lv_iconst (v := 0) hx hb dX5_read_16 (by decide) ?_
  refine va_put (D := (dC, dI)) (ci := 7) (v := .int 0) (ty := .int) (C := RX5) (T := TX5) (N := 11) hx hb hts kc_read0_0 tyX5 tyX5_ok nmX5 hown hK hP hD hS 0 rfl rfl 6 (by decide) (hts (.fieldLink RX5 37 "MistHeaps$Hill" "coded" "I") kc_read0_4) (fun _ h9 => h9) rfl (by decide +kernel) rfl rfl (Nat.le_of_ble_eq_true rfl) dX5_read_17 (fun H locs hP hD hS => ?_)
  have hP : va_P (dC, dI) vwCl [(bl, .inr (7, [.int 3, .int 0, .ref eW, .ref eA, .ref eE, .ref eC, .int 0, .ref aTp, .int 0, .int 0, .int 0]))] H := hP
  have hD : va_D A [(bl, .inr (7, [.int 3, .int 0, .ref eW, .ref eA, .ref eE, .ref eC, .int 0, .ref aTp, .int 0, .int 0, .int 0]))] := hD
  refine lv_aload_n hx hb dX5_read_20 rfl (lv_at hl 0 rfl) ?_
  refine lv_iconst (v := 3) hx hb dX5_read_21 (by decide) ?_
  refine va_put (D := (dC, dI)) (ci := 7) (v := .int 3) (ty := .int) (C := RX5) (T := TX5) (N := 11) hx hb hts kc_read0_0 tyX5 tyX5_ok nmX5 hown hK hP hD hS 0 rfl rfl 0 (by decide) (hts (.fieldLink RX5 11 "MistHeaps$Hill" "sight" "I") kc_read0_5) (fun _ h9 => h9) rfl (by decide +kernel) rfl rfl (Nat.le_of_ble_eq_true rfl) dX5_read_22 (fun H locs hP hD hS => ?_)
  have hP : va_P (dC, dI) vwCl [(bl, .inr (7, [.int 3, .int 0, .ref eW, .ref eA, .ref eE, .ref eC, .int 0, .ref aTp, .int 0, .int 0, .int 0]))] H := hP
  have hD : va_D A [(bl, .inr (7, [.int 3, .int 0, .ref eW, .ref eA, .ref eE, .ref eC, .int 0, .ref aTp, .int 0, .int 0, .int 0]))] := hD
  refine lv_iconst (v := 0) hx hb dX5_read_25 (by decide) ?_
  refine lv_istore_n (lv' := [(3, .int 0), (0, .ref bl), (1, .ref aTp), (2, .int 0)]) hx hb dX5_read_26 rfl hl (by decide) rfl (fun ls hl => ?_)
  refine lv_iload_n hx hb dX5_read_27 rfl (lv_at hl 0 rfl) ?_
  refine lv_bipush (v := 10) hx hb dX5_read_28 (by decide) ?_
  refine lv_icmp_ge (tgt := 164) hx hb dX5_read_30 (by decide) (fun c_1 => absurd c_1 (by decide)) (fun _ => ?_)
  refine lv_aload_n hx hb dX5_read_33 rfl (lv_at hl 1 rfl) ?_
  have hPc := hP.sub (ws' := [(bl, .inr (7, [.int 3, .int 0, .ref eW, .ref eA, .ref eE, .ref eC, .int 0, .ref aTp, .int 0, .int 0, .int 0]))]) [0] rfl
  have hDc := hD.sub (ws' := [(bl, .inr (7, [.int 3, .int 0, .ref eW, .ref eA, .ref eE, .ref eC, .int 0, .ref aTp, .int 0, .int 0, .int 0]))]) [0] (by decide) rfl
  have hKc := hK.sub (tys' := []) [] rfl
  have hFc := va_free (wc := [(bl, .inr (7, [.int 3, .int 0, .ref eW, .ref eA, .ref eE, .ref eC, .int 0, .ref aTp, .int 0, .int 0, .int 0]))]) hD hS hA [0] rfl
  refine va_calli (va_runV (As := []) (rest := []) ⟨hx, hb, hml, hown, hts⟩ (c_readWord0 l dC dI sK sV bl eW eA eE eC aTp H.size) (cwV 0 hts gX5_read_X5_readWord rfl rfl rfl (by decide +kernel) ⟨Nat.le_of_ble_eq_true rfl, Nat.le_of_ble_eq_true rfl⟩) ⟨fun a U g mk q => by obtain ⟨q0, q1, qP, qK, qD, qhE⟩ := q; exact ⟨q0, q1, qP, va_K.moved (u := U) (U := U.calling g mk a) (Vm.Alike.refl U.vm) qK, qD, qhE.same rfl rfl⟩, va_recv hK hP (ci := 7) (q0 := 0) rfl rfl, fun U hU hW => ⟨rfl, by rw [hU], by rw [hU]; exact hPc, va_K.moved hW.alike hKc, hDc.weaken (fun _ _ _ _ => trivial), hE.call hS hU hW (fun q h => hFc q h)⟩⟩ rfl rfl hl.1 rfl (lv_room (Nat.le_of_ble_eq_true rfl)) dX5_read_34 ⟨Nat.le_of_ble_eq_true rfl, Nat.le_of_ble_eq_true rfl⟩) hS (fun q _ h => hFc q h) hFc (fun r_2 u tC H1 locs htC hvm hw_3 hB hz1 hk1 hS => ?_)
  obtain ⟨⟩ := u
  try dsimp only at hw_3 hB
  obtain ⟨hP1, hK1, hD1⟩ := hB
  rw [htC] at hP1
  have hK1 := va_K.moved hvm.symm hK1
  obtain ⟨hP, hD⟩ := va_join (wr := []) (w1 := [(bl, .inr (7, [.int 3, .int 0, .ref eW, .ref eA, .ref eE, .ref eC, .int 0, .ref aTp, .int 0, .int 0, .int 0]))]) hP hD [0] [] rfl rfl (by decide) (by decide) hk1 hFc hP1 hD1
  have hK := (hK.sub (tys' := []) [] rfl).app hK1
  generalize H1 = H at hP hS ⊢
  have hP : va_P (dC, dI) vwCl [(bl, .inr (7, [.int 3, .int 0, .ref eW, .ref eA, .ref eE, .ref eC, .int 0, .ref aTp, .int 0, .int 0, .int 0]))] H := hP
  have hD : va_D A [(bl, .inr (7, [.int 3, .int 0, .ref eW, .ref eA, .ref eE, .ref eC, .int 0, .ref aTp, .int 0, .int 0, .int 0]))] := hD
  have hK : va_K (dC, dI) vwCl [] s := hK
  refine qi_as (y := (-1)) (hw_3) ?_
  refine lv_istore (lv' := [(4, .int (-1)), (3, .int 0), (0, .ref bl), (1, .ref aTp), (2, .int 0)]) hx hb dX5_read_37 hl (by decide) rfl (fun ls hl => ?_)
  refine lv_iload hx hb dX5_read_39 (lv_at hl 0 rfl) ?_
  refine lv_iconst (v := (-1)) hx hb dX5_read_41 (by decide) ?_
  refine lv_icmp_eq (tgt := 52) hx hb dX5_read_42 (by decide) (fun _ => ?_) (fun c_4 => absurd c_4 (by decide))
  refine lv_aload_n hx hb dX5_read_52 rfl (lv_at hl 2 rfl) ?_
  refine va_get (D := (dC, dI)) (ci := 7) (v := .int 0) (C := RX5) (T := TX5) (N := 11) hx hb hts kc_read0_0 hown hK hP 0 rfl rfl 9 (by decide) (hts (.fieldLink RX5 34 "MistHeaps$Hill" "at" "I") kc_read0_3) (fun _ h9 => h9) rfl dX5_read_53 ?_
  rw [hQ]
  exact W.iret (v := 0) hx hb hr (fun tQ htQ hWQ => ⟨⟨0, (), rfl, rfl, trivial⟩, hS.F htQ⟩) hS.2.2 dX5_read_56

theorem kc_xHill_0 : ∀ w ∈ wsX110, w ∈ wsX11_hill := by decide +kernel
theorem kc_xHill_1 : (.fieldLink RX11 14 "MistHeaps" "scene" "LMistHeaps$Scene;" : Cond) ∈ wsX11_hill := by decide +kernel
theorem kc_xHill_2 : ∀ w ∈ wsX80, w ∈ wsX11_hill := by decide +kernel
theorem kc_xHill_3 : (.fieldLink RX11 61 "MistHeaps$Scene" "hills" "I" : Cond) ∈ wsX11_hill := by decide +kernel
theorem kc_xHill_4 : (.fieldLink RX11 28 "MistHeaps" "blank" "LMistHeaps$Hill;" : Cond) ∈ wsX11_hill := by decide +kernel
theorem kc_xHill_5 : (.fieldLink RX11 57 "MistHeaps$Scene" "tape" "[I" : Cond) ∈ wsX11_hill := by decide +kernel
theorem kc_xHill_6 : (.fieldLink RX11 53 "MistHeaps$Scene" "tapeSize" "I" : Cond) ∈ wsX11_hill := by decide +kernel
set_option maxHeartbeats 4000000 in
set_option maxRecDepth 100000 in
theorem c_xHill (l : Launch) (dC : Nat → ClassId) (dI : Nat → Nat → Nat) (sK sV : Nat → Nat) (h0 sc kp bl go ch bo aTp aHl aHs aWk aBk aFc : Nat) (eW eA eE eC : Nat) (sz : Nat) : Met l yX11_hill wsX11_hill ({ frames := 5, cells := 0, slots := 0, locals := 110 } : Room) (va_Pc [.ref h0] (fun U => U.heap.size = sz ∧ va_P (dC, dI) vwCl [(h0, .inr (13, [.ref sc, .ref kp, .int 0, .ref bl, .ref go, .ref ch, .ref bo])), (sc, .inr (10, [.ref aTp, .int 0, .ref aHl, .int 0, .long 0, .int 0, .int 0, .ref aHs, .int 0, .ref aWk, .int 0, .ref aBk, .int 0, .ref aFc])), (bl, .inr (7, [.int 3, .int 0, .ref eW, .ref eA, .ref eE, .ref eC, .int 0, .null, .int 0, .int 0, .int 0]))] U.heap ∧ va_K (dC, dI) vwCl [] U ∧ va_D (fun _ => True) [(h0, .inr (13, [.ref sc, .ref kp, .int 0, .ref bl, .ref go, .ref ch, .ref bo])), (sc, .inr (10, [.ref aTp, .int 0, .ref aHl, .int 0, .long 0, .int 0, .int 0, .ref aHs, .int 0, .ref aWk, .int 0, .ref aBk, .int 0, .ref aFc])), (bl, .inr (7, [.int 3, .int 0, .ref eW, .ref eA, .ref eE, .ref eC, .int 0, .null, .int 0, .int 0, .int 0]))] ∧ Gs sK sV (va_A [(h0, .inr (13, [.ref sc, .ref kp, .int 0, .ref bl, .ref go, .ref ch, .ref bo])), (sc, .inr (10, [.ref aTp, .int 0, .ref aHl, .int 0, .long 0, .int 0, .int 0, .ref aHs, .int 0, .ref aWk, .int 0, .ref aBk, .int 0, .ref aFc])), (bl, .inr (7, [.int 3, .int 0, .ref eW, .ref eA, .ref eE, .ref eC, .int 0, .null, .int 0, .int 0, .int 0]))] sz) U)) (va_Qi (fun (r : Int32) (u : Unit) => match u with | () => r = -10) (fun (u : Unit) (t : State) => match u with | () => True) (va_A [(h0, .inr (13, [.ref sc, .ref kp, .int 0, .ref bl, .ref go, .ref ch, .ref bo])), (sc, .inr (10, [.ref aTp, .int 0, .ref aHl, .int 0, .long 0, .int 0, .int 0, .ref aHs, .int 0, .ref aWk, .int 0, .ref aBk, .int 0, .ref aFc])), (bl, .inr (7, [.int 3, .int 0, .ref eW, .ref eA, .ref eE, .ref eC, .int 0, .null, .int 0, .int 0, .int 0]))] sz)) 0 0 (va_A [(h0, .inr (13, [.ref sc, .ref kp, .int 0, .ref bl, .ref go, .ref ch, .ref bo])), (sc, .inr (10, [.ref aTp, .int 0, .ref aHl, .int 0, .long 0, .int 0, .int 0, .ref aHs, .int 0, .ref aWk, .int 0, .ref aBk, .int 0, .ref aFc])), (bl, .inr (7, [.int 3, .int 0, .ref eW, .ref eA, .ref eE, .ref eC, .int 0, .null, .int 0, .int 0, .int 0]))] sz) := by
  refine met_ofQ (cc := cX11_hill) (maxL := 2) (ret := (some .int)) (by decide) rfl ?_
  intro p e s m args below meth c s₁ Q B hml hv hQ
  obtain ⟨rfl, hsz, hP, hK, hD0, hE⟩ := hv
  have hx := B.exec
  have hb := B.bytes
  have hr := B.returns
  have hts := atoms_spec (ws := wsX11_hill) B.pre
  have hown : s.vm.findClass RX11 = some m.cls := findClass_of_methodNamed B.named
  have hlocks := B.notSynchronized
  subst hsz
  have hD := hD0.self (sz := s.heap.size)
  generalize hAe : va_A [(h0, .inr (13, [.ref sc, .ref kp, .int 0, .ref bl, .ref go, .ref ch, .ref bo])), (sc, .inr (10, [.ref aTp, .int 0, .ref aHl, .int 0, .long 0, .int 0, .int 0, .ref aHs, .int 0, .ref aWk, .int 0, .ref aBk, .int 0, .ref aFc])), (bl, .inr (7, [.int 3, .int 0, .ref eW, .ref eA, .ref eE, .ref eC, .int 0, .null, .int 0, .int 0, .int 0]))] s.heap.size = A at hD hQ hE ⊢
  have hA : ∀ q : Nat, s.heap.size ≤ q → A q := fun q h => by rw [← hAe]; exact Or.inr h
  have hS : va_S A s.heap s.heap [] := va_S.rf
  have hl := lv_entry [.ref h0] (n := 2) (Nat.le_of_ble_eq_true rfl)
  rw [lg_entry_eq]
  generalize (lg_sl [.ref h0] ++ List.replicate (2 - (lg_sl [.ref h0]).length) Slot.unset).toArray = ls at hl ⊢
  generalize hag : ([.ref h0] : List Value).toArray = args at hts hQ ⊢
  have hl : lv_has ls 2 [(0, .ref h0)] := hl
  obtain ⟨H, hH⟩ : ∃ H : Heap, H = s.heap := ⟨_, rfl⟩
  rw [← hH] at hP
  rw [← hH]
  have hS : va_S A s.heap H [] := by rw [hH]; exact hS
  obtain ⟨locs, hlo⟩ : ∃ L : List Loc, L = [] := ⟨_, rfl⟩
  rw [← hlo] at hS
  rw [← hlo]
  clear hH hlo
  refine lv_aload_n hx hb dX11_hill_0 rfl (lv_at hl 0 rfl) ?_
  refine va_get (D := (dC, dI)) (ci := 13) (v := .ref sc) (C := RX11) (T := TX11) (N := 7) hx hb hts kc_xHill_0 hown hK hP 0 rfl rfl 0 (by decide) (hts (.fieldLink RX11 14 "MistHeaps" "scene" "LMistHeaps$Scene;") kc_xHill_1) (fun _ h9 => h9) rfl dX11_hill_1 ?_
  refine va_get (D := (dC, dI)) (ci := 10) (v := .int 0) (C := RX8) (T := TX8) (N := 14) hx hb hts kc_xHill_2 hown hK hP 1 rfl rfl 3 (by decide) (hts (.fieldLink RX11 61 "MistHeaps$Scene" "hills" "I") kc_xHill_3) (fun _ h9 => h9) rfl dX11_hill_4 ?_
  refine lv_iconst (v := 5) hx hb dX11_hill_7 (by decide) ?_
  refine lv_icmp_lt (tgt := 14) hx hb dX11_hill_8 (by decide) (fun _ => ?_) (fun c_1 => absurd c_1 (by decide))
  refine lv_aload_n hx hb dX11_hill_14 rfl (lv_at hl 0 rfl) ?_
  refine va_get (D := (dC, dI)) (ci := 13) (v := .ref bl) (C := RX11) (T := TX11) (N := 7) hx hb hts kc_xHill_0 hown hK hP 0 rfl rfl 3 (by decide) (hts (.fieldLink RX11 28 "MistHeaps" "blank" "LMistHeaps$Hill;") kc_xHill_4) (fun _ h9 => h9) rfl dX11_hill_15 ?_
  refine lv_aload_n hx hb dX11_hill_18 rfl (lv_at hl 0 rfl) ?_
  refine va_get (D := (dC, dI)) (ci := 13) (v := .ref sc) (C := RX11) (T := TX11) (N := 7) hx hb hts kc_xHill_0 hown hK hP 0 rfl rfl 0 (by decide) (hts (.fieldLink RX11 14 "MistHeaps" "scene" "LMistHeaps$Scene;") kc_xHill_1) (fun _ h9 => h9) rfl dX11_hill_19 ?_
  refine va_get (D := (dC, dI)) (ci := 10) (v := .ref aTp) (C := RX8) (T := TX8) (N := 14) hx hb hts kc_xHill_2 hown hK hP 1 rfl rfl 0 (by decide) (hts (.fieldLink RX11 57 "MistHeaps$Scene" "tape" "[I") kc_xHill_5) (fun _ h9 => h9) rfl dX11_hill_22 ?_
  refine lv_aload_n hx hb dX11_hill_25 rfl (lv_at hl 0 rfl) ?_
  refine va_get (D := (dC, dI)) (ci := 13) (v := .ref sc) (C := RX11) (T := TX11) (N := 7) hx hb hts kc_xHill_0 hown hK hP 0 rfl rfl 0 (by decide) (hts (.fieldLink RX11 14 "MistHeaps" "scene" "LMistHeaps$Scene;") kc_xHill_1) (fun _ h9 => h9) rfl dX11_hill_26 ?_
  refine va_get (D := (dC, dI)) (ci := 10) (v := .int 0) (C := RX8) (T := TX8) (N := 14) hx hb hts kc_xHill_2 hown hK hP 1 rfl rfl 1 (by decide) (hts (.fieldLink RX11 53 "MistHeaps$Scene" "tapeSize" "I") kc_xHill_6) (fun _ h9 => h9) rfl dX11_hill_29 ?_
  have hPc := hP.sub (ws' := [(bl, .inr (7, [.int 3, .int 0, .ref eW, .ref eA, .ref eE, .ref eC, .int 0, .null, .int 0, .int 0, .int 0]))]) [2] rfl
  have hDc := hD.sub (ws' := [(bl, .inr (7, [.int 3, .int 0, .ref eW, .ref eA, .ref eE, .ref eC, .int 0, .null, .int 0, .int 0, .int 0]))]) [2] (by decide) rfl
  have hKc := hK.sub (tys' := []) [] rfl
  have hFc := va_free (wc := [(bl, .inr (7, [.int 3, .int 0, .ref eW, .ref eA, .ref eE, .ref eC, .int 0, .null, .int 0, .int 0, .int 0]))]) hD hS hA [2] rfl
  refine va_calli (va_runV (As := [.ref aTp, .int 0]) (rest := []) ⟨hx, hb, hml, hown, hts⟩ (c_read0 l dC dI sK sV bl eW eA eE eC aTp H.size) (cwV 2 hts gX11_hill_X5_read rfl rfl rfl (by decide +kernel) ⟨Nat.le_of_ble_eq_true rfl, Nat.le_of_ble_eq_true rfl⟩) ⟨fun a U g mk q => by obtain ⟨q0, q1, qP, qK, qD, qhE⟩ := q; exact ⟨q0, q1, qP, va_K.moved (u := U) (U := U.calling g mk a) (Vm.Alike.refl U.vm) qK, qD, qhE.same rfl rfl⟩, va_recv hK hP (ci := 7) (q0 := 2) rfl rfl, fun U hU hW => ⟨rfl, by rw [hU], by rw [hU]; exact hPc, va_K.moved hW.alike hKc, hDc.weaken (fun _ _ _ _ => trivial), hE.call hS hU hW (fun q h => hFc q h)⟩⟩ rfl rfl hl.1 rfl (lv_room (Nat.le_of_ble_eq_true rfl)) dX11_hill_32 ⟨Nat.le_of_ble_eq_true rfl, Nat.le_of_ble_eq_true rfl⟩) hS (fun q _ h => hFc q h) hFc (fun r_2 u tC H1 locs htC hvm hw_3 hB hz1 hk1 hS => ?_)
  obtain ⟨⟩ := u
  try dsimp only at hw_3 hB
  obtain ⟨hP, hD⟩ := va_join (wr := [(h0, .inr (13, [.ref sc, .ref kp, .int 0, .ref bl, .ref go, .ref ch, .ref bo])), (sc, .inr (10, [.ref aTp, .int 0, .ref aHl, .int 0, .long 0, .int 0, .int 0, .ref aHs, .int 0, .ref aWk, .int 0, .ref aBk, .int 0, .ref aFc]))]) (w1 := []) hP hD [2] [0, 1] rfl rfl (by decide) (by decide) hk1 hFc (fun k q h => by simp at h) ⟨fun i j p q h => by simp at h, fun k q h => by simp at h⟩
  have hK := hK.sub (tys' := []) [] rfl
  generalize H1 = H at hP hS ⊢
  have hP : va_P (dC, dI) vwCl [(h0, .inr (13, [.ref sc, .ref kp, .int 0, .ref bl, .ref go, .ref ch, .ref bo])), (sc, .inr (10, [.ref aTp, .int 0, .ref aHl, .int 0, .long 0, .int 0, .int 0, .ref aHs, .int 0, .ref aWk, .int 0, .ref aBk, .int 0, .ref aFc]))] H := hP
  have hD : va_D A [(h0, .inr (13, [.ref sc, .ref kp, .int 0, .ref bl, .ref go, .ref ch, .ref bo])), (sc, .inr (10, [.ref aTp, .int 0, .ref aHl, .int 0, .long 0, .int 0, .int 0, .ref aHs, .int 0, .ref aWk, .int 0, .ref aBk, .int 0, .ref aFc]))] := hD
  have hK : va_K (dC, dI) vwCl [] s := hK
  refine qi_as (y := 0) (hw_3) ?_
  refine lv_istore_n (lv' := [(1, .int 0), (0, .ref h0)]) hx hb dX11_hill_35 rfl hl (by decide) rfl (fun ls hl => ?_)
  refine lv_aload_n hx hb dX11_hill_36 rfl (lv_at hl 1 rfl) ?_
  refine va_get (D := (dC, dI)) (ci := 13) (v := .ref sc) (C := RX11) (T := TX11) (N := 7) hx hb hts kc_xHill_0 hown hK hP 0 rfl rfl 0 (by decide) (hts (.fieldLink RX11 14 "MistHeaps" "scene" "LMistHeaps$Scene;") kc_xHill_1) (fun _ h9 => h9) rfl dX11_hill_37 ?_
  refine lv_iconst (v := 0) hx hb dX11_hill_40 (by decide) ?_
  refine va_put (D := (dC, dI)) (ci := 10) (v := .int 0) (ty := .int) (C := RX8) (T := TX8) (N := 14) hx hb hts kc_xHill_2 tyX8 tyX8_ok nmX8 hown hK hP hD hS 1 rfl rfl 1 (by decide) (hts (.fieldLink RX11 53 "MistHeaps$Scene" "tapeSize" "I") kc_xHill_6) (fun _ h9 => h9) rfl (by decide +kernel) rfl rfl (Nat.le_of_ble_eq_true rfl) dX11_hill_41 (fun H locs hP hD hS => ?_)
  have hP : va_P (dC, dI) vwCl [(h0, .inr (13, [.ref sc, .ref kp, .int 0, .ref bl, .ref go, .ref ch, .ref bo])), (sc, .inr (10, [.ref aTp, .int 0, .ref aHl, .int 0, .long 0, .int 0, .int 0, .ref aHs, .int 0, .ref aWk, .int 0, .ref aBk, .int 0, .ref aFc]))] H := hP
  have hD : va_D A [(h0, .inr (13, [.ref sc, .ref kp, .int 0, .ref bl, .ref go, .ref ch, .ref bo])), (sc, .inr (10, [.ref aTp, .int 0, .ref aHl, .int 0, .long 0, .int 0, .int 0, .ref aHs, .int 0, .ref aWk, .int 0, .ref aBk, .int 0, .ref aFc]))] := hD
  refine lv_iload_n hx hb dX11_hill_44 rfl (lv_at hl 0 rfl) ?_
  refine lv_iconst (v := (-1)) hx hb dX11_hill_45 (by decide) ?_
  refine lv_icmp_eq (tgt := 54) hx hb dX11_hill_46 (by decide) (fun c_4 => absurd c_4 (by decide)) (fun _ => ?_)
  refine lv_bipush (v := (-10)) hx hb dX11_hill_49 (by decide) ?_
  refine lv_iload_n hx hb dX11_hill_51 rfl (lv_at hl 0 rfl) ?_
  refine lv_isub hx hb dX11_hill_52 ?_
  refine qi_as (y := (-10)) (by decide) ?_
  rw [hQ]
  exact W.iret (v := (-10)) hx hb hr (fun tQ htQ hWQ => ⟨⟨(-10), (), rfl, rfl, trivial⟩, hS.F htQ⟩) hS.2.2 dX11_hill_53
