theorem ggX6_doGoes_X3_doGoes : GoodIn wsX6_doGoes wsX3_doGoes := gga_of 1049 rfl rfl rfl
theorem ggX4_doSees_X3_doSees : GoodIn wsX4_doSees wsX3_doSees := gga_of 1025 rfl rfl rfl
theorem ggX1_doLooks_X3_doLooks : GoodIn wsX1_doLooks wsX3_doLooks := gga_of 1077 rfl rfl rfl
theorem ggX10_leadsTo_X11_rowOf : GoodIn wsX10_leadsTo wsX11_rowOf := gga_of 643 rfl rfl rfl
theorem ggX10_leadsTo_X10_isOnSide : GoodIn wsX10_leadsTo wsX10_isOnSide := gga_of 749 rfl rfl rfl
theorem gX10_leadsTo_X10_isOnSide : GoodIn wsX10_leadsTo (va_wsS RX10 26 yX10_isOnSide wsX10_isOnSide) := goodIn_app (ggh_of [747, 748, 84] rfl rfl rfl) ggX10_leadsTo_X10_isOnSide
theorem ggX10_leadsTo_X11_columnOf : GoodIn wsX10_leadsTo wsX11_columnOf := gga_of 646 rfl rfl rfl
noncomputable def dk14dlead_cX7_reachBy_0 : List (Nat × Instr × Nat) := [(0, .iconst 1, 1), (1, .aload_n 0, 1), (2, .iload_n 1, 1), (3, .iload_n 2, 1), (4, .invokespecial 7, 3), (7, .invokestatic 11, 3), (10, .ireturn, 1)]
set_option maxRecDepth 100000 in
theorem dk14dlead_cX7_reachBy_0_a : dkA cX7_reachBy dk14dlead_cX7_reachBy_0 = true := by decide +kernel
theorem dX7_reachBy_0 : decode cX7_reachBy 0 = .ok (.iconst 1, 1) := dkAt dk14dlead_cX7_reachBy_0_a 0 rfl
theorem dX7_reachBy_1 : decode cX7_reachBy 1 = .ok (.aload_n 0, 1) := dkAt dk14dlead_cX7_reachBy_0_a 1 rfl
theorem dX7_reachBy_2 : decode cX7_reachBy 2 = .ok (.iload_n 1, 1) := dkAt dk14dlead_cX7_reachBy_0_a 2 rfl
theorem dX7_reachBy_3 : decode cX7_reachBy 3 = .ok (.iload_n 2, 1) := dkAt dk14dlead_cX7_reachBy_0_a 3 rfl
theorem dX7_reachBy_4 : decode cX7_reachBy 4 = .ok (.invokespecial 7, 3) := dkAt dk14dlead_cX7_reachBy_0_a 4 rfl
theorem dX7_reachBy_7 : decode cX7_reachBy 7 = .ok (.invokestatic 11, 3) := dkAt dk14dlead_cX7_reachBy_0_a 5 rfl
theorem dX7_reachBy_10 : decode cX7_reachBy 10 = .ok (.ireturn, 1) := dkAt dk14dlead_cX7_reachBy_0_a 6 rfl
theorem dX3_leadsTo_0 : decode cX3_leadsTo 0 = .ok (.iconst 1, 1) := by decide +kernel
theorem dX3_leadsTo_1 : decode cX3_leadsTo 1 = .ok (.ireturn, 1) := by decide +kernel
theorem dX1_leadsTo_0 : decode cX1_leadsTo 0 = .ok (.iconst 0, 1) := by decide +kernel
theorem dX1_leadsTo_1 : decode cX1_leadsTo 1 = .ok (.ireturn, 1) := by decide +kernel
noncomputable def dk14dlead_cX10_isOnSide_0 : List (Nat × Instr × Nat) := [(0, .iload_n 0, 1), (1, .ifCond .eq 9, 3), (10, .iconst 1, 1), (11, .goto 4, 3), (15, .ireturn, 1), (4, .iload_n 0, 1), (5, .iload_n 1, 1), (6, .imul, 1), (7, .ifCond .le 7, 3), (14, .iconst 0, 1)]
set_option maxRecDepth 100000 in
theorem dk14dlead_cX10_isOnSide_0_a : dkA cX10_isOnSide dk14dlead_cX10_isOnSide_0 = true := by decide +kernel
theorem dX10_isOnSide_0 : decode cX10_isOnSide 0 = .ok (.iload_n 0, 1) := dkAt dk14dlead_cX10_isOnSide_0_a 0 rfl
theorem dX10_isOnSide_1 : decode cX10_isOnSide 1 = .ok (.ifCond .eq 9, 3) := dkAt dk14dlead_cX10_isOnSide_0_a 1 rfl
theorem dX10_isOnSide_10 : decode cX10_isOnSide 10 = .ok (.iconst 1, 1) := dkAt dk14dlead_cX10_isOnSide_0_a 2 rfl
theorem dX10_isOnSide_11 : decode cX10_isOnSide 11 = .ok (.goto 4, 3) := dkAt dk14dlead_cX10_isOnSide_0_a 3 rfl
theorem dX10_isOnSide_15 : decode cX10_isOnSide 15 = .ok (.ireturn, 1) := dkAt dk14dlead_cX10_isOnSide_0_a 4 rfl
theorem dX10_isOnSide_4 : decode cX10_isOnSide 4 = .ok (.iload_n 0, 1) := dkAt dk14dlead_cX10_isOnSide_0_a 5 rfl
theorem dX10_isOnSide_5 : decode cX10_isOnSide 5 = .ok (.iload_n 1, 1) := dkAt dk14dlead_cX10_isOnSide_0_a 6 rfl
theorem dX10_isOnSide_6 : decode cX10_isOnSide 6 = .ok (.imul, 1) := dkAt dk14dlead_cX10_isOnSide_0_a 7 rfl
theorem dX10_isOnSide_7 : decode cX10_isOnSide 7 = .ok (.ifCond .le 7, 3) := dkAt dk14dlead_cX10_isOnSide_0_a 8 rfl
theorem dX10_isOnSide_14 : decode cX10_isOnSide 14 = .ok (.iconst 0, 1) := dkAt dk14dlead_cX10_isOnSide_0_a 9 rfl
noncomputable def dk14dlead_cX10_leadsTo_0 : List (Nat × Instr × Nat) := [(0, .aload_n 0, 1), (1, .getfield 9, 3), (4, .bipush 8, 2), (6, .irem, 1), (7, .istore_n 2, 1), (8, .getstatic 15, 3), (11, .iload_n 2, 1), (12, .iaload, 1), (13, .iload_n 1, 1), (14, .invokestatic 19, 3), (17, .aload_n 0, 1), (18, .getfield 23, 3), (21, .invokestatic 19, 3), (24, .isub, 1), (25, .invokestatic 26, 3), (28, .ifCond .eq 30, 3), (31, .getstatic 30, 3), (34, .iload_n 2, 1), (35, .iaload, 1), (36, .iload_n 1, 1), (37, .invokestatic 33, 3), (40, .aload_n 0, 1), (41, .getfield 23, 3), (44, .invokestatic 33, 3), (47, .isub, 1), (48, .invokestatic 26, 3), (51, .ifCond .eq 7, 3), (54, .iconst 1, 1), (55, .goto 4, 3), (59, .ireturn, 1), (58, .iconst 0, 1)]
set_option maxRecDepth 100000 in
theorem dk14dlead_cX10_leadsTo_0_a : dkA cX10_leadsTo dk14dlead_cX10_leadsTo_0 = true := by decide +kernel
theorem dX10_leadsTo_0 : decode cX10_leadsTo 0 = .ok (.aload_n 0, 1) := dkAt dk14dlead_cX10_leadsTo_0_a 0 rfl
theorem dX10_leadsTo_1 : decode cX10_leadsTo 1 = .ok (.getfield 9, 3) := dkAt dk14dlead_cX10_leadsTo_0_a 1 rfl
theorem dX10_leadsTo_4 : decode cX10_leadsTo 4 = .ok (.bipush 8, 2) := dkAt dk14dlead_cX10_leadsTo_0_a 2 rfl
theorem dX10_leadsTo_6 : decode cX10_leadsTo 6 = .ok (.irem, 1) := dkAt dk14dlead_cX10_leadsTo_0_a 3 rfl
theorem dX10_leadsTo_7 : decode cX10_leadsTo 7 = .ok (.istore_n 2, 1) := dkAt dk14dlead_cX10_leadsTo_0_a 4 rfl
theorem dX10_leadsTo_8 : decode cX10_leadsTo 8 = .ok (.getstatic 15, 3) := dkAt dk14dlead_cX10_leadsTo_0_a 5 rfl
theorem dX10_leadsTo_11 : decode cX10_leadsTo 11 = .ok (.iload_n 2, 1) := dkAt dk14dlead_cX10_leadsTo_0_a 6 rfl
theorem dX10_leadsTo_12 : decode cX10_leadsTo 12 = .ok (.iaload, 1) := dkAt dk14dlead_cX10_leadsTo_0_a 7 rfl
theorem dX10_leadsTo_13 : decode cX10_leadsTo 13 = .ok (.iload_n 1, 1) := dkAt dk14dlead_cX10_leadsTo_0_a 8 rfl
theorem dX10_leadsTo_14 : decode cX10_leadsTo 14 = .ok (.invokestatic 19, 3) := dkAt dk14dlead_cX10_leadsTo_0_a 9 rfl
theorem dX10_leadsTo_17 : decode cX10_leadsTo 17 = .ok (.aload_n 0, 1) := dkAt dk14dlead_cX10_leadsTo_0_a 10 rfl
theorem dX10_leadsTo_18 : decode cX10_leadsTo 18 = .ok (.getfield 23, 3) := dkAt dk14dlead_cX10_leadsTo_0_a 11 rfl
theorem dX10_leadsTo_21 : decode cX10_leadsTo 21 = .ok (.invokestatic 19, 3) := dkAt dk14dlead_cX10_leadsTo_0_a 12 rfl
theorem dX10_leadsTo_24 : decode cX10_leadsTo 24 = .ok (.isub, 1) := dkAt dk14dlead_cX10_leadsTo_0_a 13 rfl
theorem dX10_leadsTo_25 : decode cX10_leadsTo 25 = .ok (.invokestatic 26, 3) := dkAt dk14dlead_cX10_leadsTo_0_a 14 rfl
theorem dX10_leadsTo_28 : decode cX10_leadsTo 28 = .ok (.ifCond .eq 30, 3) := dkAt dk14dlead_cX10_leadsTo_0_a 15 rfl
theorem dX10_leadsTo_31 : decode cX10_leadsTo 31 = .ok (.getstatic 30, 3) := dkAt dk14dlead_cX10_leadsTo_0_a 16 rfl
theorem dX10_leadsTo_34 : decode cX10_leadsTo 34 = .ok (.iload_n 2, 1) := dkAt dk14dlead_cX10_leadsTo_0_a 17 rfl
theorem dX10_leadsTo_35 : decode cX10_leadsTo 35 = .ok (.iaload, 1) := dkAt dk14dlead_cX10_leadsTo_0_a 18 rfl
theorem dX10_leadsTo_36 : decode cX10_leadsTo 36 = .ok (.iload_n 1, 1) := dkAt dk14dlead_cX10_leadsTo_0_a 19 rfl
theorem dX10_leadsTo_37 : decode cX10_leadsTo 37 = .ok (.invokestatic 33, 3) := dkAt dk14dlead_cX10_leadsTo_0_a 20 rfl
theorem dX10_leadsTo_40 : decode cX10_leadsTo 40 = .ok (.aload_n 0, 1) := dkAt dk14dlead_cX10_leadsTo_0_a 21 rfl
theorem dX10_leadsTo_41 : decode cX10_leadsTo 41 = .ok (.getfield 23, 3) := dkAt dk14dlead_cX10_leadsTo_0_a 22 rfl
theorem dX10_leadsTo_44 : decode cX10_leadsTo 44 = .ok (.invokestatic 33, 3) := dkAt dk14dlead_cX10_leadsTo_0_a 23 rfl
theorem dX10_leadsTo_47 : decode cX10_leadsTo 47 = .ok (.isub, 1) := dkAt dk14dlead_cX10_leadsTo_0_a 24 rfl
theorem dX10_leadsTo_48 : decode cX10_leadsTo 48 = .ok (.invokestatic 26, 3) := dkAt dk14dlead_cX10_leadsTo_0_a 25 rfl
theorem dX10_leadsTo_51 : decode cX10_leadsTo 51 = .ok (.ifCond .eq 7, 3) := dkAt dk14dlead_cX10_leadsTo_0_a 26 rfl
theorem dX10_leadsTo_54 : decode cX10_leadsTo 54 = .ok (.iconst 1, 1) := dkAt dk14dlead_cX10_leadsTo_0_a 27 rfl
theorem dX10_leadsTo_55 : decode cX10_leadsTo 55 = .ok (.goto 4, 3) := dkAt dk14dlead_cX10_leadsTo_0_a 28 rfl
theorem dX10_leadsTo_59 : decode cX10_leadsTo 59 = .ok (.ireturn, 1) := dkAt dk14dlead_cX10_leadsTo_0_a 29 rfl
theorem dX10_leadsTo_58 : decode cX10_leadsTo 58 = .ok (.iconst 0, 1) := dkAt dk14dlead_cX10_leadsTo_0_a 30 rfl
/-- a nest mate's static rows by their links, and which kind is above which -/
noncomputable def nestF : List Cond := [.fieldLinkNest RX10 15 "MistHeaps" "DOWN" "[I" "MistHeaps", .fieldLinkNest RX10 30 "MistHeaps" "RIGHT" "[I" "MistHeaps", .fieldLinkNest RX3 24 "MistHeaps" "KIND_ABOVE" "[I" "MistHeaps"]
theorem nestF_tab : ∀ w ∈ nestF, w.onTables = true := by decide +kernel
theorem nestF_warm {s U : State} (hW : s.WarmedH U.vm) (h : ∀ w ∈ nestF, va_Nw w s) : ∀ w ∈ nestF, va_Nw w U := by
  have k : ∀ w ∈ nestF, ∃ (a : String) (i : Nat) (b n d h : String), w = .fieldLinkNest a i b n d h := by
    intro w hw
    simp only [nestF, List.mem_cons, List.not_mem_nil, or_false] at hw
    rcases hw with rfl | rfl | rfl <;> exact ⟨_, _, _, _, _, _, rfl⟩
  intro w hw
  obtain ⟨a, i, b, n, d, h9, rfl⟩ := k w hw
  exact va_Nw.warmF hW (h _ hw)
noncomputable def fAbove : Nat → Int32 := fun k => [-1, 0, 0, 0, 1, 2, 3].getD k 0
theorem fAbove_of {k : Nat} (h : k < 7) : fAbove k = -1 ∨ ∃ j : Nat, j < 7 ∧ fAbove k = nI j := by
  have : k = 0 ∨ k = 1 ∨ k = 2 ∨ k = 3 ∨ k = 4 ∨ k = 5 ∨ k = 6 := by omega
  rcases this with rfl | rfl | rfl | rfl | rfl | rfl | rfl
  · exact Or.inl rfl
  · exact Or.inr ⟨0, by omega, rfl⟩
  · exact Or.inr ⟨0, by omega, rfl⟩
  · exact Or.inr ⟨0, by omega, rfl⟩
  · exact Or.inr ⟨1, by omega, rfl⟩
  · exact Or.inr ⟨2, by omega, rfl⟩
  · exact Or.inr ⟨3, by omega, rfl⟩
noncomputable def Gn (kA : Nat) (A : Nat → Prop) (U : State) : Prop := (∀ w ∈ nestF, va_Nw w U) ∧ va_Z "MistHeaps" "KIND_ABOVE" "[I" (.ref kA) A U U.heap ∧ va_T .int kA 7 (fun k => .int (fAbove k)) A U U.heap
theorem Gn.same {kA : Nat} {A : Nat → Prop} {u U : State} (h : Gn kA A u) (hvm : u.vm = U.vm) (hh : U.heap = u.heap) : Gn kA A U := by
  obtain ⟨h1, h2, h3⟩ := h
  have hv : u.vm.Alike U.vm := by rw [hvm]; exact Vm.Alike.refl _
  refine ⟨fun w hw => va_Nw.same (nestF_tab w hw) hvm (h1 w hw), ?_, ?_⟩
  · rw [hh]; exact h2.moved hv
  · rw [hh]; exact h3.moved hv
theorem Gn.call {kA : Nat} {A B : Nat → Prop} {s U : State} {H : Heap} {locs : List Loc} (h : Gn kA A s) (hS : va_S A s.heap H locs) (hU : U.heap = H) (hW : s.WarmedH U.vm) (hB : ∀ q, B q → A q) : Gn kA B U := by
  obtain ⟨h1, h2, h3⟩ := h
  refine ⟨nestF_warm hW h1, ?_, ?_⟩
  · rw [hU]; exact ((h2.kept (H1 := H) hS.2.1).moved hW.alike).narrow hB
  · rw [hU]; exact ((h3.kept (H1 := H) hS.2.1).moved hW.alike).narrow hB
theorem Gn.callF {kA : Nat} {A : Nat → Prop} {s U : State} {H : Heap} {locs : List Loc} (h : Gn kA A s) (hS : va_S A s.heap H locs) (hU : U.heap = H) (hW : s.WarmedH U.vm) : Gn kA (fun _ => False) U := h.call hS hU hW (fun _ q => q.elim)

/-- the words of a super call that names the class above, whose body is of one class more above -/
noncomputable def s2W (own : String) (idx : Nat) (x y : MethodName) (ws : List Cond) : List Cond := ([.methodLink own idx x, .sameMethod x.cls y.cls x.name x.desc, .superclass own x.cls, .superclass x.cls y.cls, .instanceMethod y, .initialized y.cls] : List Cond) ++ ws
noncomputable def okW (w : Cond) : Prop := (w.onTables && w.keeps) = true ∨ ∃ ty, w = .arrayClass ty
theorem s2_ok {own : String} {idx : Nat} {x y : MethodName} {ws : List Cond} (h : ∀ w ∈ ws, okW w) : ∀ w ∈ s2W own idx x y ws, okW w := by
  intro w hw
  rcases List.mem_append.mp hw with q | q
  · simp only [List.mem_cons, List.not_mem_nil, or_false] at q
    rcases q with rfl | rfl | rfl | rfl | rfl | rfl <;> exact Or.inl (by first | rfl | simp [Cond.onTables, Cond.keeps, Cond.steady])
  · exact h w q
noncomputable def x7r : MethodName := ⟨"MistHeaps$False", "reachBy", "(II)I"⟩
noncomputable def x7g : MethodName := ⟨"MistHeaps$False", "doGoes", "(ILjava/util/ArrayList;)I"⟩
noncomputable def x9s : MethodName := ⟨"MistHeaps$Low", "doSees", "(ILjava/util/ArrayList;)I"⟩
noncomputable def x10l : MethodName := ⟨"MistHeaps$High", "doLooks", "(ILjava/util/ArrayList;)I"⟩
noncomputable def oldW : List Cond := (s2W RX7 7 x7r yX3_reachBy wsX3_reachBy ++ s2W RX7 22 x7g yX3_doGoes wsX3_doGoes) ++ (s2W RX9 21 x9s yX3_doSees wsX3_doSees ++ s2W RX10 40 x10l yX3_doLooks wsX3_doLooks)
theorem oldW_ok : ∀ w ∈ oldW, okW w := List.forall_mem_append.mpr ⟨List.forall_mem_append.mpr ⟨s2_ok (fun w h => (ggX4_reachBy_X3_reachBy w h).2), s2_ok (fun w h => (ggX6_doGoes_X3_doGoes w h).2)⟩, List.forall_mem_append.mpr ⟨s2_ok (fun w h => (ggX4_doSees_X3_doSees w h).2), s2_ok (fun w h => (ggX1_doLooks_X3_doLooks w h).2)⟩⟩
/-- what the printed words of the overriding methods leave out -/
noncomputable def Gw (A : Nat → Prop) (U : State) : Prop := ∀ w ∈ oldW, w.before #[] U = true
theorem Gw.same {A : Nat → Prop} {u U : State} (h : Gw A u) (hvm : u.vm = U.vm) (hh : U.heap = u.heap) : Gw A U := fun w hw => word_at (s := u) (U := U) (by rw [← hvm]; exact State.WarmedH.refl u) (oldW_ok w hw) (h w hw)
theorem Gw.call {A B : Nat → Prop} {s U : State} {H : Heap} {locs : List Loc} (h : Gw A s) (hS : va_S A s.heap H locs) (hU : U.heap = H) (hW : s.WarmedH U.vm) (hB : ∀ q, B q → A q) : Gw B U := fun w hw => word_at hW (oldW_ok w hw) (h w hw)
theorem Gw.callF {A : Nat → Prop} {s U : State} {H : Heap} {locs : List Loc} (h : Gw A s) (hS : va_S A s.heap H locs) (hU : U.heap = H) (hW : s.WarmedH U.vm) : Gw (fun _ => False) U := fun w hw => word_at hW (oldW_ok w hw) (h w hw)
noncomputable def s2_C (R : Room) (s : State) (args : Array Value) (own : String) (index : Nat) (x y : MethodName) (bytes : ByteArray) (maxL : Nat) (ret : Option FieldType) (ws : List Cond) (rm : Room) (mc ms n : Nat) : Prop :=
  (rm.cells = mc ∧ rm.slots = ms ∧ rm.frames + 1 ≤ R.frames ∧ 8 + (maxL + 11) + rm.locals ≤ R.locals ∧ (∀ w ∈ ws, ∀ (a' : Array Value) (U : State), s.WarmedH U.vm → w.before a' U = true) ∧ Cond.code y bytes maxL ret ∈ ws) ∧
  (Cond.methodLink own index x).before args s = true ∧ (Cond.sameMethod x.cls y.cls x.name x.desc).before args s = true ∧ (Cond.superclass own x.cls).before args s = true ∧ (Cond.superclass x.cls y.cls).before args s = true ∧ (Cond.instanceMethod y).before args s = true ∧ (Cond.initialized y.cls).before args s = true ∧ (Cond.code y bytes maxL ret).before args s = true ∧ x.name = y.name ∧ x.desc = y.desc ∧ y.name ≠ "<init>" ∧ (∀ sig, parseMethodDescriptor y.desc = some sig → n = sig.parameters.length)
theorem s2_cw {R : Room} {s : State} {args : Array Value} {own : String} {index maxL mc ms : Nat} {x y : MethodName} {bytes : ByteArray} {ret : Option FieldType} {ws ws' : List Cond} {rm : Room} {A : Nat → Prop} (n : Nat) (hG : Gw A s) (hT : ∀ w ∈ s2W own index x y ws, w ∈ oldW) (hw : ws = Cond.code y bytes maxL ret :: ws') (hrc : rm.cells = mc) (hrs : rm.slots = ms) (hxn : x.name = y.name) (hxd : x.desc = y.desc)
    (hd : y.name ≠ "<init>" ∧ (parseMethodDescriptor y.desc).map (fun d => d.parameters.length) = some n) (hR : rm.frames + 1 ≤ R.frames ∧ 8 + (maxL + 11) + rm.locals ≤ R.locals) : s2_C R s args own index x y bytes maxL ret ws rm mc ms n := by
  have ok : ∀ w ∈ s2W own index x y ws, ∀ (a' : Array Value) (U : State), s.WarmedH U.vm → w.before a' U = true := fun w h a' U hW => word_at hW (oldW_ok w (hT w h)) (hG w (hT w h))
  have ok1 : ∀ w ∈ s2W own index x y ws, w.before args s = true := fun w h => ok w h args s (State.WarmedH.refl s)
  have hin : ∀ w ∈ ws, w ∈ s2W own index x y ws := fun w h => List.mem_append_right _ h
  have hc : Cond.code y bytes maxL ret ∈ ws := by rw [hw]; exact List.mem_cons_self
  refine ⟨⟨hrc, hrs, hR.1, hR.2, fun w h => ok w (hin w h), hc⟩, ok1 _ (by simp [s2W]), ok1 _ (by simp [s2W]), ok1 _ (by simp [s2W]), ok1 _ (by simp [s2W]), ok1 _ (by simp [s2W]), ok1 _ (by simp [s2W]), ok1 _ (hin _ hc), hxn, hxd, hd.1, fun sig h => ?_⟩
  have h2 := hd.2
  rw [h] at h2
  exact (Option.some.inj h2).symm
section
variable {p : Program} {l : Launch} {e : Env} {R : Room} {s : State} {m : MethodId} {args : Array Value} {below : List Frame} {meth : Method} {c : Code}
theorem s2_call {T : State} {locs : List Loc} {cells slots : Nat} (X : Stand p l e R s m args below meth c T locs cells slots) (hexec : p.tables.exec = Jvm.exec) {own : String} {index : Nat} {x y : MethodName} {bytes : ByteArray} {maxL : Nat} {ret : Option FieldType}
    (hown : s.vm.findClass own = some m.cls) (hlink : (Cond.methodLink own index x).before args s = true) (hsame : (Cond.sameMethod x.cls y.cls x.name x.desc).before args s = true) (hsup : (Cond.superclass own x.cls).before args s = true) (hsup2 : (Cond.superclass x.cls y.cls).before args s = true)
    (hinst : (Cond.instanceMethod y).before args s = true) (hcode : (Cond.code y bytes maxL ret).before args s = true) (hxn : x.name = y.name) (hxd : x.desc = y.desc) (hno : y.name ≠ "<init>")
    {W : Nat} {Pre : Pt → Array Value → Prop} {Post : Pt → Array Value → Option Value → Pt → Prop} (hK : Back l R p e below s args y 3 W Pre Post)
    {b : Addr} {cellB : Cell} {kB : Class} (hcell : T.heap[b]? = some cellB) (hobj : cellB.vm.isStatics = false) (hkB : s.vm.classes[cellB.cls]? = some kB)
    {g : JFrame} (hg : g.method = m) (hsize : g.locals.size = c.maxLocals) {argsL rest : List Value} (hlen : ∀ sig, parseMethodDescriptor y.desc = some sig → argsL.length = sig.parameters.length)
    (hstack : g.stack = argsL.reverse ++ .ref b :: rest) (hW : 2 * g.monitorRoom + (rest.map fun v => v.category).sum ≤ W) (hdg : decode c.code g.pc = .ok (.invokespecial index, 3))
    (hpre : ∀ vm₁, s.WarmedH vm₁ → Pre ⟨T.setVm vm₁, locs, cells, slots⟩ (Value.ref b :: argsL).toArray) :
    ∃ (v : Option Value) (vm₁ : Vm) (B : Pt), s.WarmedH vm₁ ∧ Stand p l e R s m args below meth c B.U B.locs B.cells B.slots ∧ Post ⟨T.setVm vm₁, locs, cells, slots⟩ (Value.ref b :: argsL).toArray v B ∧
      ∀ target, Steps p.tables e below (B.U.setTop { g with pc := g.pc + 3, stack := v.toList ++ rest }) target → Steps p.tables e below (T.setTop g) target := by
  obtain ⟨mk, methM, hnamed, hmethM, hstM, habM⟩ := Cond.instanceMethod_spec hinst
  obtain ⟨methM', cM, hmethM', -, -, -, -, -, -, hsigM⟩ := Cond.code_spec hnamed hcode
  cases hmethM.symm.trans hmethM'
  obtain ⟨ps, dk, kp, hps, hdk, hkp, hsuper, -, -, hnid⟩ := Cond.superclass_spec hown hsup
  obtain ⟨pt, dk2, kp2, hpt, hdk2, hkp2, hsuper2, -, -, -⟩ := Cond.superclass_spec hps hsup2
  have hn : s.methodNamed? ⟨y.cls, x.name, x.desc⟩ = some mk := by rw [hxn, hxd]; exact hnamed
  have hpm : pt = mk.cls := Option.some.inj (hpt.symm.trans (findClass_of_methodNamed hnamed))
  have hsub : s.vm.isSubclass ps mk.cls = true := by
    rw [← hpm]
    obtain ⟨k, hk⟩ : ∃ k, s.vm.classes.size = k + 1 := by
      have h9 : ps < s.vm.classes.size := (Array.getElem?_eq_some_iff.mp hdk2).1
      exact ⟨s.vm.classes.size - 1, (Nat.succ_pred_eq_of_pos (Nat.lt_of_le_of_lt (Nat.zero_le _) h9)).symm⟩
    simp [Vm.isSubclass, hk, Vm.isSubclassAux, hdk2, hsuper2]
  obtain ⟨vm₁, X₁, hstep₁⟩ := X.invokespecialUp hexec hown hlink hsame hn hmethM hstM habM (by rw [hxn]; exact hno) hdk hnid hps hsuper hsub (a := b) (cell := cellB) hcell
    (fun z h => by rw [h] at hobj; cases hobj) hkB (g := g) hg (argsL := argsL) (rest := rest) (hlen _ hsigM) hstack hdg
  obtain ⟨v, B, X', hpost, hsteps⟩ := hK m meth c ⟨T.setVm vm₁, locs, cells, slots⟩ { g with stack := rest } (.invokespecial index) mk (Value.ref b :: argsL).toArray X₁ hg hsize hdg hW (X₁.named hnamed) (hpre vm₁ X₁.warmed)
  exact ⟨v, vm₁, B, X₁.warmed, X', hpost, fun target h => hstep₁ _ (by rw [doInvoke_state]; exact hsteps.trans h)⟩
variable {H : Heap} {locs : List Loc} {cells slots : Nat}
theorem va_runS2 {x y : MethodName} {bytes cc : ByteArray} {maxL nL mc ms n index : Nat} {ret : Option FieldType} {ws : List Cond} {rm : Room} {Pc : Array Value → State → Prop} {Qc : Array Value → State → Outcome → State → Prop} {free : Addr → Prop} {Ts : List Cond} {own C : String} {cC : ClassId} {b : Addr} {As rest : List Value} {g : JFrame}
    (hat : ClassAt s C cC) (S : CallFix p m c cc nL s args Ts own) (hM : Met l y ws rm Pc Qc mc ms free) (cw : s2_C R s args own index x y bytes maxL ret ws rm mc ms n) (hp : PreV s H C b Pc As)
    (hg : g.method = m) (hn : As.length = n) (hsize : g.locals.size = nL) (hstack : g.stack = As.reverse ++ .ref b :: rest) (hW : 2 * g.monitorRoom + (rest.map fun v => v.category).sum ≤ 8) (hdg : decode cc g.pc = .ok (.invokespecial index, 3)) (hf : cells + mc ≤ R.cells ∧ slots + ms ≤ R.slots) :
    va_Run p l e R s m args below meth c H locs cells slots mc ms g rest (Qc (Value.ref b :: As).toArray) (free) := by
  obtain ⟨⟨hrc, hrs, hfr, hlo, hws, hcw⟩, hl1, hl2, hl3, hl3b, hl4, hini, hcode, hxn, hxd, hno, hlen⟩ := cw
  have hK : Back l R p e below s args y 3 8 (PreOf R mc ms Pc) (PostOf Qc mc ms free) := back_of (bytes := bytes) (maxL := maxL) (ret := ret) hM hp.1 hrc hrs hfr hlo hws hcw (fun a' U hW => word_at hW (Or.inl (by first | rfl | simp [Cond.onTables, Cond.keeps, Cond.steady])) hini)
  obtain ⟨hx, hb, hml, ho, -⟩ := S
  obtain ⟨-, ⟨cellB, hcB, hoB, hclB⟩, hPc⟩ := hp
  obtain ⟨hfc, kB, hkB, -⟩ := hat
  cases hfc.symm.trans hclB
  intro T hT X
  obtain ⟨v, vm₁, ⟨U', l2, c2, s2⟩, hW₁, X', ⟨g', mk, t, L, e1, e2, hq, h1, hL, h2, h3⟩, st⟩ := s2_call X hx (bytes := bytes) (maxL := maxL) (ret := ret) ho hl1 hl2 hl3 hl3b hl4 hcode hxn hxd hno hK (by rw [hT]; exact hcB) hoB hkB hg (hsize.trans hml.symm) (argsL := As) (rest := rest) (fun sig h => hn.trans (hlen sig h)) hstack hW (by rw [hb]; exact hdg)
    (fun vm₁ hW₁ => ⟨hf.1, hf.2, hPc (T.setVm vm₁) hT hW₁⟩)
  dsimp only [Pt.U, Pt.locs, Pt.cells, Pt.slots] at X' e1 e2 h1 h2 h3 st
  subst h1; subst h2; subst h3
  exact ⟨v, (T.setVm vm₁).calling g' mk (Value.ref b :: As).toArray, t, U', L, hT, X', hL, e1, e2, hq, st⟩
end
theorem in7r : ∀ w ∈ s2W RX7 7 x7r yX3_reachBy wsX3_reachBy, w ∈ oldW := fun w h => List.mem_append_left _ (List.mem_append_left _ h)
theorem in7g : ∀ w ∈ s2W RX7 22 x7g yX3_doGoes wsX3_doGoes, w ∈ oldW := fun w h => List.mem_append_left _ (List.mem_append_right _ h)
theorem in9s : ∀ w ∈ s2W RX9 21 x9s yX3_doSees wsX3_doSees, w ∈ oldW := fun w h => List.mem_append_right _ (List.mem_append_left _ h)
theorem in10l : ∀ w ∈ s2W RX10 40 x10l yX3_doLooks wsX3_doLooks, w ∈ oldW := fun w h => List.mem_append_right _ (List.mem_append_right _ h)

theorem kc_reach3_X7_0 : (.methodLink RX3 28 Lib.Math.max.name : Cond) ∈ wsX3_reachBy := kc_of 684 rfl rfl rfl
theorem kc_reach3_X7_1 : (.static Lib.Math.max.name : Cond) ∈ wsX3_reachBy := kc_of 426 rfl rfl rfl
theorem kc_reach3_X7_2 : (.initialized "java/lang/Math" : Cond) ∈ wsX3_reachBy := kc_of 77 rfl rfl rfl
theorem kc_reach3_X7_3 : (.code Lib.Math.max.name Lib.Math.max.code 2 (some .int) : Cond) ∈ wsX3_reachBy := kc_of 427 rfl rfl rfl
set_option maxHeartbeats 4000000 in
set_option maxRecDepth 100000 in
theorem c_reach3_X7 (l : Launch) (dC : Nat → ClassId) (dI : Nat → Nat → Nat)  (i0 : Nat) (sk : Int32) (sv : Int32) (scl : Int32) (x : Int32) (y : Int32) (a0 : Nat) : Met l yX3_reachBy wsX3_reachBy ({ frames := 1, cells := 0, slots := 0, locals := 13 } : Room) (va_Pc [.ref a0, .int x, .int y] (fun U => Fz dC dI [(zo9iiii a0 sk (nI i0) sv scl)] [] (fun _ => False) U)) (vp_Si (fun r => r = mx0 x)) 0 0 (fun _ => False) := by
  refine met_ofQ (cc := cX3_reachBy) (maxL := 3) (ret := (some .int)) (by decide) rfl ?_
  intro p e s m args below meth c s₁ Q B hml hv hQ
  obtain ⟨rfl, hZ⟩ := hv
  have hx := B.exec
  have hb := B.bytes
  have hr := B.returns
  have hts := atoms_spec (ws := wsX3_reachBy) B.pre
  have hown : s.vm.findClass RX3 = some m.cls := findClass_of_methodNamed B.named
  have hlocks := B.notSynchronized
  obtain ⟨A, hAe⟩ : ∃ A : Nat → Prop, A = fun _ => False := ⟨_, rfl⟩
  rw [← hAe] at hQ hZ
  have hS : va_S A s.heap s.heap [] := va_S.rf
  have hl := lv_entry [.ref a0, .int x, .int y] (n := 3) (Nat.le_of_ble_eq_true rfl)
  rw [lg_entry_eq]
  generalize (lg_sl [.ref a0, .int x, .int y] ++ List.replicate (3 - (lg_sl [.ref a0, .int x, .int y]).length) Slot.unset).toArray = ls at hl ⊢
  generalize hag : ([.ref a0, .int x, .int y] : List Value).toArray = args at hts hQ ⊢
  have hl : lv_has ls 3 [(0, .ref a0), (1, .int x), (2, .int y)] := hl
  refine lv_iconst (v := 0) hx hb dX3_reachBy_0 (by decide) ?_
  refine lv_iload_n hx hb dX3_reachBy_1 rfl (lv_at hl 1 rfl) ?_
  refine va_mmax hx hb (by rw [hml]; exact hl.1.symm) hown (hts (.methodLink RX3 28 Lib.Math.max.name) kc_reach3_X7_0) (hts (.static Lib.Math.max.name) kc_reach3_X7_1) (hts (.initialized "java/lang/Math") kc_reach3_X7_2) (hts (.code Lib.Math.max.name Lib.Math.max.code 2 (some .int)) kc_reach3_X7_3) (Nat.le_of_ble_eq_true rfl) (Nat.le_of_ble_eq_true rfl) (Nat.le_of_ble_eq_true rfl) (Nat.le_of_ble_eq_true rfl) dX3_reachBy_2 ?_
  rw [hQ]
  exact W.iret (v := (if 0 < x then x else 0)) hx hb hr (fun tQ htQ hWQ => ⟨(if 0 < x then x else 0), rfl, rfl, by rw [htQ]⟩) (fun q hq => absurd hq List.not_mem_nil) dX3_reachBy_5

theorem kc_reach7_0 : (.methodLink RX7 11 Lib.Math.min.name : Cond) ∈ wsX7_reachBy := kc_of 677 rfl rfl rfl
theorem kc_reach7_1 : (.static Lib.Math.min.name : Cond) ∈ wsX7_reachBy := kc_of 477 rfl rfl rfl
theorem kc_reach7_2 : (.initialized "java/lang/Math" : Cond) ∈ wsX7_reachBy := kc_of 77 rfl rfl rfl
theorem kc_reach7_3 : (.code Lib.Math.min.name Lib.Math.min.code 2 (some .int) : Cond) ∈ wsX7_reachBy := kc_of 478 rfl rfl rfl
set_option maxHeartbeats 4000000 in
set_option maxRecDepth 100000 in
theorem c_reach7 (l : Launch) (dC : Nat → ClassId) (dI : Nat → Nat → Nat)   (i0 : Nat) (sk : Int32) (sv : Int32) (scl : Int32) (x : Int32) (y : Int32) (a0 : Nat) : Met l yX7_reachBy wsX7_reachBy ({ frames := 2, cells := 0, slots := 0, locals := 35 } : Room) (va_Pc [.ref a0, .int x, .int y] (fun U => Gw (fun _ => False) U ∧ Fz dC dI [(zo9iiii a0 sk (nI i0) sv scl)] [] (fun _ => False) U)) (vp_Si (fun r => r = if mx0 x < 1 then mx0 x else 1)) 0 0 (fun _ => False) := by
  refine met_ofQ (cc := cX7_reachBy) (maxL := 3) (ret := (some .int)) (by decide) rfl ?_
  intro p e s m args below meth c s₁ Q B hml hv hQ
  obtain ⟨rfl, hW_, hZ⟩ := hv
  have hx := B.exec
  have hb := B.bytes
  have hr := B.returns
  have hts := atoms_spec (ws := wsX7_reachBy) B.pre
  have hown : s.vm.findClass RX7 = some m.cls := findClass_of_methodNamed B.named
  have hlocks := B.notSynchronized
  obtain ⟨A, hAe⟩ : ∃ A : Nat → Prop, A = fun _ => False := ⟨_, rfl⟩
  rw [← hAe] at hQ hW_ hZ
  have hS : va_S A s.heap s.heap [] := va_S.rf
  have hl := lv_entry [.ref a0, .int x, .int y] (n := 3) (Nat.le_of_ble_eq_true rfl)
  rw [lg_entry_eq]
  generalize (lg_sl [.ref a0, .int x, .int y] ++ List.replicate (3 - (lg_sl [.ref a0, .int x, .int y]).length) Slot.unset).toArray = ls at hl ⊢
  generalize hag : ([.ref a0, .int x, .int y] : List Value).toArray = args at hts hQ ⊢
  have hl : lv_has ls 3 [(0, .ref a0), (1, .int x), (2, .int y)] := hl
  refine lv_iconst (v := 1) hx hb dX7_reachBy_0 (by decide) ?_
  refine lv_aload_n hx hb dX7_reachBy_1 rfl (lv_at hl 0 rfl) ?_
  refine lv_iload_n hx hb dX7_reachBy_2 rfl (lv_at hl 1 rfl) ?_
  refine lv_iload_n hx hb dX7_reachBy_3 rfl (lv_at hl 2 rfl) ?_
  refine vp_callSi (va_runS2 (hZ.2.1.1 9 (RX7, TX7, 4) rfl).2 (As := [.int x, .int y]) (rest := [.int 1]) ⟨hx, hb, hml, hown, hts⟩ (c_reach3_X7 l dC dI  i0 sk sv scl x y a0) (s2_cw (x := x7r) 2 hW_ in7r rfl rfl rfl rfl rfl (by decide +kernel) ⟨Nat.le_of_ble_eq_true rfl, Nat.le_of_ble_eq_true rfl⟩) ⟨fun a U g mk q => by obtain ⟨q0, qhZ⟩ := q; exact ⟨q0, qhZ.same rfl rfl⟩, va_recv hZ.2.1 (hZ.P hS) (ci := 9) (q := (RX7, TX7, 4)) (q0 := 0) rfl rfl, fun U hU hW => ⟨rfl, (hZ.sub [0] [] rfl rfl).callF hS hU hW⟩⟩ rfl rfl hl.1 rfl (lv_room (Nat.le_of_ble_eq_true rfl)) dX7_reachBy_4 ⟨Nat.le_of_ble_eq_true rfl, Nat.le_of_ble_eq_true rfl⟩).run (fun r_1 hw_2 => ?_)
  obtain rfl := hw_2
  refine va_mmin hx hb (by rw [hml]; exact hl.1.symm) hown (hts (.methodLink RX7 11 Lib.Math.min.name) kc_reach7_0) (hts (.static Lib.Math.min.name) kc_reach7_1) (hts (.initialized "java/lang/Math") kc_reach7_2) (hts (.code Lib.Math.min.name Lib.Math.min.code 2 (some .int)) kc_reach7_3) (Nat.le_of_ble_eq_true rfl) (Nat.le_of_ble_eq_true rfl) (Nat.le_of_ble_eq_true rfl) (Nat.le_of_ble_eq_true rfl) dX7_reachBy_7 ?_
  rw [hQ]
  exact W.iret (v := (if (mx0 x) < 1 then (mx0 x) else 1)) hx hb hr (fun tQ htQ hWQ => ⟨(if (mx0 x) < 1 then (mx0 x) else 1), rfl, rfl, by rw [htQ]⟩) (fun q hq => absurd hq List.not_mem_nil) dX7_reachBy_10

set_option maxHeartbeats 4000000 in
set_option maxRecDepth 100000 in
theorem c_lead3_X3 (l : Launch) (dC : Nat → ClassId) (dI : Nat → Nat → Nat)  (i0 : Nat) (sk : Int32) (sv : Int32) (scl : Int32) (x : Int32) (a0 : Nat) : Met l yX3_leadsTo wsX3_leadsTo ({ frames := 0, cells := 0, slots := 0, locals := 0 } : Room) (va_Pc [.ref a0, .int x] (fun U => Fz dC dI [(zo5iiii a0 sk (nI i0) sv scl)] [] (fun _ => False) U)) (vp_Si (fun r => r = 1)) 0 0 (fun _ => False) := by
  refine met_ofQ (cc := cX3_leadsTo) (maxL := 2) (ret := (some .boolean)) (by decide) rfl ?_
  intro p e s m args below meth c s₁ Q B hml hv hQ
  obtain ⟨rfl, hZ⟩ := hv
  have hx := B.exec
  have hb := B.bytes
  have hr := B.returns
  have hts := atoms_spec (ws := wsX3_leadsTo) B.pre
  have hown : s.vm.findClass RX3 = some m.cls := findClass_of_methodNamed B.named
  have hlocks := B.notSynchronized
  obtain ⟨A, hAe⟩ : ∃ A : Nat → Prop, A = fun _ => False := ⟨_, rfl⟩
  rw [← hAe] at hQ hZ
  have hS : va_S A s.heap s.heap [] := va_S.rf
  have hl := lv_entry [.ref a0, .int x] (n := 2) (Nat.le_of_ble_eq_true rfl)
  rw [lg_entry_eq]
  generalize (lg_sl [.ref a0, .int x] ++ List.replicate (2 - (lg_sl [.ref a0, .int x]).length) Slot.unset).toArray = ls at hl ⊢
  generalize hag : ([.ref a0, .int x] : List Value).toArray = args at hts hQ ⊢
  have hl : lv_has ls 2 [(0, .ref a0), (1, .int x)] := hl
  refine lv_iconst (v := 1) hx hb dX3_leadsTo_0 (by decide) ?_
  rw [hQ]
  exact W.zret (v := 1) hx hb hr rfl (fun tQ htQ hWQ => ⟨1, rfl, rfl, by rw [htQ]⟩) (fun q hq => absurd hq List.not_mem_nil) dX3_leadsTo_1

set_option maxHeartbeats 4000000 in
set_option maxRecDepth 100000 in
theorem c_lead3_X4 (l : Launch) (dC : Nat → ClassId) (dI : Nat → Nat → Nat)  (i0 : Nat) (sk : Int32) (sv : Int32) (scl : Int32) (x : Int32) (a0 : Nat) : Met l yX3_leadsTo wsX3_leadsTo ({ frames := 0, cells := 0, slots := 0, locals := 0 } : Room) (va_Pc [.ref a0, .int x] (fun U => Fz dC dI [(zo6iiii a0 sk (nI i0) sv scl)] [] (fun _ => False) U)) (vp_Si (fun r => r = 1)) 0 0 (fun _ => False) := by
  refine met_ofQ (cc := cX3_leadsTo) (maxL := 2) (ret := (some .boolean)) (by decide) rfl ?_
  intro p e s m args below meth c s₁ Q B hml hv hQ
  obtain ⟨rfl, hZ⟩ := hv
  have hx := B.exec
  have hb := B.bytes
  have hr := B.returns
  have hts := atoms_spec (ws := wsX3_leadsTo) B.pre
  have hown : s.vm.findClass RX3 = some m.cls := findClass_of_methodNamed B.named
  have hlocks := B.notSynchronized
  obtain ⟨A, hAe⟩ : ∃ A : Nat → Prop, A = fun _ => False := ⟨_, rfl⟩
  rw [← hAe] at hQ hZ
  have hS : va_S A s.heap s.heap [] := va_S.rf
  have hl := lv_entry [.ref a0, .int x] (n := 2) (Nat.le_of_ble_eq_true rfl)
  rw [lg_entry_eq]
  generalize (lg_sl [.ref a0, .int x] ++ List.replicate (2 - (lg_sl [.ref a0, .int x]).length) Slot.unset).toArray = ls at hl ⊢
  generalize hag : ([.ref a0, .int x] : List Value).toArray = args at hts hQ ⊢
  have hl : lv_has ls 2 [(0, .ref a0), (1, .int x)] := hl
  refine lv_iconst (v := 1) hx hb dX3_leadsTo_0 (by decide) ?_
  rw [hQ]
  exact W.zret (v := 1) hx hb hr rfl (fun tQ htQ hWQ => ⟨1, rfl, rfl, by rw [htQ]⟩) (fun q hq => absurd hq List.not_mem_nil) dX3_leadsTo_1

set_option maxHeartbeats 4000000 in
set_option maxRecDepth 100000 in
theorem c_lead3_X6 (l : Launch) (dC : Nat → ClassId) (dI : Nat → Nat → Nat)  (i0 : Nat) (sk : Int32) (sv : Int32) (scl : Int32) (x : Int32) (a0 : Nat) : Met l yX3_leadsTo wsX3_leadsTo ({ frames := 0, cells := 0, slots := 0, locals := 0 } : Room) (va_Pc [.ref a0, .int x] (fun U => Fz dC dI [(zo8iiii a0 sk (nI i0) sv scl)] [] (fun _ => False) U)) (vp_Si (fun r => r = 1)) 0 0 (fun _ => False) := by
  refine met_ofQ (cc := cX3_leadsTo) (maxL := 2) (ret := (some .boolean)) (by decide) rfl ?_
  intro p e s m args below meth c s₁ Q B hml hv hQ
  obtain ⟨rfl, hZ⟩ := hv
  have hx := B.exec
  have hb := B.bytes
  have hr := B.returns
  have hts := atoms_spec (ws := wsX3_leadsTo) B.pre
  have hown : s.vm.findClass RX3 = some m.cls := findClass_of_methodNamed B.named
  have hlocks := B.notSynchronized
  obtain ⟨A, hAe⟩ : ∃ A : Nat → Prop, A = fun _ => False := ⟨_, rfl⟩
  rw [← hAe] at hQ hZ
  have hS : va_S A s.heap s.heap [] := va_S.rf
  have hl := lv_entry [.ref a0, .int x] (n := 2) (Nat.le_of_ble_eq_true rfl)
  rw [lg_entry_eq]
  generalize (lg_sl [.ref a0, .int x] ++ List.replicate (2 - (lg_sl [.ref a0, .int x]).length) Slot.unset).toArray = ls at hl ⊢
  generalize hag : ([.ref a0, .int x] : List Value).toArray = args at hts hQ ⊢
  have hl : lv_has ls 2 [(0, .ref a0), (1, .int x)] := hl
  refine lv_iconst (v := 1) hx hb dX3_leadsTo_0 (by decide) ?_
  rw [hQ]
  exact W.zret (v := 1) hx hb hr rfl (fun tQ htQ hWQ => ⟨1, rfl, rfl, by rw [htQ]⟩) (fun q hq => absurd hq List.not_mem_nil) dX3_leadsTo_1

set_option maxHeartbeats 4000000 in
set_option maxRecDepth 100000 in
theorem c_lead3_X9 (l : Launch) (dC : Nat → ClassId) (dI : Nat → Nat → Nat)  (i0 : Nat) (sk : Int32) (sv : Int32) (scl : Int32) (x : Int32) (a0 : Nat) : Met l yX3_leadsTo wsX3_leadsTo ({ frames := 0, cells := 0, slots := 0, locals := 0 } : Room) (va_Pc [.ref a0, .int x] (fun U => Fz dC dI [(zo11iiii a0 sk (nI i0) sv scl)] [] (fun _ => False) U)) (vp_Si (fun r => r = 1)) 0 0 (fun _ => False) := by
  refine met_ofQ (cc := cX3_leadsTo) (maxL := 2) (ret := (some .boolean)) (by decide) rfl ?_
  intro p e s m args below meth c s₁ Q B hml hv hQ
  obtain ⟨rfl, hZ⟩ := hv
  have hx := B.exec
  have hb := B.bytes
  have hr := B.returns
  have hts := atoms_spec (ws := wsX3_leadsTo) B.pre
  have hown : s.vm.findClass RX3 = some m.cls := findClass_of_methodNamed B.named
  have hlocks := B.notSynchronized
  obtain ⟨A, hAe⟩ : ∃ A : Nat → Prop, A = fun _ => False := ⟨_, rfl⟩
  rw [← hAe] at hQ hZ
  have hS : va_S A s.heap s.heap [] := va_S.rf
  have hl := lv_entry [.ref a0, .int x] (n := 2) (Nat.le_of_ble_eq_true rfl)
  rw [lg_entry_eq]
  generalize (lg_sl [.ref a0, .int x] ++ List.replicate (2 - (lg_sl [.ref a0, .int x]).length) Slot.unset).toArray = ls at hl ⊢
  generalize hag : ([.ref a0, .int x] : List Value).toArray = args at hts hQ ⊢
  have hl : lv_has ls 2 [(0, .ref a0), (1, .int x)] := hl
  refine lv_iconst (v := 1) hx hb dX3_leadsTo_0 (by decide) ?_
  rw [hQ]
  exact W.zret (v := 1) hx hb hr rfl (fun tQ htQ hWQ => ⟨1, rfl, rfl, by rw [htQ]⟩) (fun q hq => absurd hq List.not_mem_nil) dX3_leadsTo_1

set_option maxHeartbeats 4000000 in
set_option maxRecDepth 100000 in
theorem c_lead1_X1 (l : Launch) (dC : Nat → ClassId) (dI : Nat → Nat → Nat)  (i0 : Nat) (sk : Int32) (sv : Int32) (scl : Int32) (x : Int32) (a0 : Nat) : Met l yX1_leadsTo wsX1_leadsTo ({ frames := 0, cells := 0, slots := 0, locals := 0 } : Room) (va_Pc [.ref a0, .int x] (fun U => Fz dC dI [(zo3iiii a0 sk (nI i0) sv scl)] [] (fun _ => False) U)) (vp_Si (fun r => r = 0)) 0 0 (fun _ => False) := by
  refine met_ofQ (cc := cX1_leadsTo) (maxL := 2) (ret := (some .boolean)) (by decide) rfl ?_
  intro p e s m args below meth c s₁ Q B hml hv hQ
  obtain ⟨rfl, hZ⟩ := hv
  have hx := B.exec
  have hb := B.bytes
  have hr := B.returns
  have hts := atoms_spec (ws := wsX1_leadsTo) B.pre
  have hown : s.vm.findClass RX1 = some m.cls := findClass_of_methodNamed B.named
  have hlocks := B.notSynchronized
  obtain ⟨A, hAe⟩ : ∃ A : Nat → Prop, A = fun _ => False := ⟨_, rfl⟩
  rw [← hAe] at hQ hZ
  have hS : va_S A s.heap s.heap [] := va_S.rf
  have hl := lv_entry [.ref a0, .int x] (n := 2) (Nat.le_of_ble_eq_true rfl)
  rw [lg_entry_eq]
  generalize (lg_sl [.ref a0, .int x] ++ List.replicate (2 - (lg_sl [.ref a0, .int x]).length) Slot.unset).toArray = ls at hl ⊢
  generalize hag : ([.ref a0, .int x] : List Value).toArray = args at hts hQ ⊢
  have hl : lv_has ls 2 [(0, .ref a0), (1, .int x)] := hl
  refine lv_iconst (v := 0) hx hb dX1_leadsTo_0 (by decide) ?_
  rw [hQ]
  exact W.zret (v := 0) hx hb hr rfl (fun tQ htQ hWQ => ⟨0, rfl, rfl, by rw [htQ]⟩) (fun q hq => absurd hq List.not_mem_nil) dX1_leadsTo_1

set_option maxHeartbeats 4000000 in
set_option maxRecDepth 100000 in
theorem c_lead1_X7 (l : Launch) (dC : Nat → ClassId) (dI : Nat → Nat → Nat)  (i0 : Nat) (sk : Int32) (sv : Int32) (scl : Int32) (x : Int32) (a0 : Nat) : Met l yX1_leadsTo wsX1_leadsTo ({ frames := 0, cells := 0, slots := 0, locals := 0 } : Room) (va_Pc [.ref a0, .int x] (fun U => Fz dC dI [(zo9iiii a0 sk (nI i0) sv scl)] [] (fun _ => False) U)) (vp_Si (fun r => r = 0)) 0 0 (fun _ => False) := by
  refine met_ofQ (cc := cX1_leadsTo) (maxL := 2) (ret := (some .boolean)) (by decide) rfl ?_
  intro p e s m args below meth c s₁ Q B hml hv hQ
  obtain ⟨rfl, hZ⟩ := hv
  have hx := B.exec
  have hb := B.bytes
  have hr := B.returns
  have hts := atoms_spec (ws := wsX1_leadsTo) B.pre
  have hown : s.vm.findClass RX1 = some m.cls := findClass_of_methodNamed B.named
  have hlocks := B.notSynchronized
  obtain ⟨A, hAe⟩ : ∃ A : Nat → Prop, A = fun _ => False := ⟨_, rfl⟩
  rw [← hAe] at hQ hZ
  have hS : va_S A s.heap s.heap [] := va_S.rf
  have hl := lv_entry [.ref a0, .int x] (n := 2) (Nat.le_of_ble_eq_true rfl)
  rw [lg_entry_eq]
  generalize (lg_sl [.ref a0, .int x] ++ List.replicate (2 - (lg_sl [.ref a0, .int x]).length) Slot.unset).toArray = ls at hl ⊢
  generalize hag : ([.ref a0, .int x] : List Value).toArray = args at hts hQ ⊢
  have hl : lv_has ls 2 [(0, .ref a0), (1, .int x)] := hl
  refine lv_iconst (v := 0) hx hb dX1_leadsTo_0 (by decide) ?_
  rw [hQ]
  exact W.zret (v := 0) hx hb hr rfl (fun tQ htQ hWQ => ⟨0, rfl, rfl, by rw [htQ]⟩) (fun q hq => absurd hq List.not_mem_nil) dX1_leadsTo_1

set_option maxHeartbeats 4000000 in
set_option maxRecDepth 100000 in
theorem c_onSide (l : Launch) (dC : Nat → ClassId) (dI : Nat → Nat → Nat) (x y : Int32) : Met l yX10_isOnSide wsX10_isOnSide ({ frames := 0, cells := 0, slots := 0, locals := 0 } : Room) (va_Pc [.int x, .int y] (fun U => True)) (vp_Si (fun r => (r = 1 ∧ (x = 0 ∨ 0 < x * y)) ∨ (r = 0 ∧ ¬ (x = 0 ∨ 0 < x * y)))) 0 0 (fun _ => False) := by
  refine met_ofQ (cc := cX10_isOnSide) (maxL := 2) (ret := (some .boolean)) (by decide) rfl ?_
  intro p e s m args below meth c s₁ Q B hml hv hQ
  obtain ⟨rfl, -⟩ := hv
  have hx := B.exec
  have hb := B.bytes
  have hr := B.returns
  have hts := atoms_spec (ws := wsX10_isOnSide) B.pre
  have hown : s.vm.findClass RX10 = some m.cls := findClass_of_methodNamed B.named
  have hlocks := B.notSynchronized
  obtain ⟨A, hAe⟩ : ∃ A : Nat → Prop, A = fun _ => False := ⟨_, rfl⟩
  rw [← hAe] at hQ
  have hS : va_S A s.heap s.heap [] := va_S.rf
  have hl := lv_entry [.int x, .int y] (n := 2) (Nat.le_of_ble_eq_true rfl)
  rw [lg_entry_eq]
  generalize (lg_sl [.int x, .int y] ++ List.replicate (2 - (lg_sl [.int x, .int y]).length) Slot.unset).toArray = ls at hl ⊢
  generalize hag : ([.int x, .int y] : List Value).toArray = args at hts hQ ⊢
  have hl : lv_has ls 2 [(0, .int x), (1, .int y)] := hl
  refine lv_iload_n hx hb dX10_isOnSide_0 rfl (lv_at hl 0 rfl) ?_
  refine lv_if_eq (tgt := 10) hx hb dX10_isOnSide_1 (by decide) (fun c_1 => ?_) (fun c_1 => ?_)
  · skip
    refine lv_iconst (v := 1) hx hb dX10_isOnSide_10 (by decide) ?_
    refine lv_goto (tgt := 15) hx hb dX10_isOnSide_11 (by decide) ?_
    rw [hQ]
    exact W.zret (v := 1) hx hb hr rfl (fun tQ htQ hWQ => ⟨1, rfl, by first | exact Or.inl ⟨rfl, Or.inl (by assumption)⟩ | exact Or.inl ⟨rfl, Or.inr (Int32.not_le.mp (by assumption))⟩ | exact Or.inr ⟨rfl, fun z9 => z9.elim (by assumption) (fun z8 => absurd z8 (Int32.not_lt.mpr (by assumption)))⟩, by rw [htQ]⟩) (fun q hq => absurd hq List.not_mem_nil) dX10_isOnSide_15
  · skip
    refine lv_iload_n hx hb dX10_isOnSide_4 rfl (lv_at hl 0 rfl) ?_
    refine lv_iload_n hx hb dX10_isOnSide_5 rfl (lv_at hl 1 rfl) ?_
    refine lv_imul hx hb dX10_isOnSide_6 ?_
    refine lv_if_le (tgt := 14) hx hb dX10_isOnSide_7 (by decide) (fun c_2 => ?_) (fun c_2 => ?_)
    · skip
      refine lv_iconst (v := 0) hx hb dX10_isOnSide_14 (by decide) ?_
      rw [hQ]
      exact W.zret (v := 0) hx hb hr rfl (fun tQ htQ hWQ => ⟨0, rfl, by first | exact Or.inl ⟨rfl, Or.inl (by assumption)⟩ | exact Or.inl ⟨rfl, Or.inr (Int32.not_le.mp (by assumption))⟩ | exact Or.inr ⟨rfl, fun z9 => z9.elim (by assumption) (fun z8 => absurd z8 (Int32.not_lt.mpr (by assumption)))⟩, by rw [htQ]⟩) (fun q hq => absurd hq List.not_mem_nil) dX10_isOnSide_15
    · skip
      refine lv_iconst (v := 1) hx hb dX10_isOnSide_10 (by decide) ?_
      refine lv_goto (tgt := 15) hx hb dX10_isOnSide_11 (by decide) ?_
      rw [hQ]
      exact W.zret (v := 1) hx hb hr rfl (fun tQ htQ hWQ => ⟨1, rfl, by first | exact Or.inl ⟨rfl, Or.inl (by assumption)⟩ | exact Or.inl ⟨rfl, Or.inr (Int32.not_le.mp (by assumption))⟩ | exact Or.inr ⟨rfl, fun z9 => z9.elim (by assumption) (fun z8 => absurd z8 (Int32.not_lt.mpr (by assumption)))⟩, by rw [htQ]⟩) (fun q hq => absurd hq List.not_mem_nil) dX10_isOnSide_15

theorem kc_lead10_0 : (.fieldLink RX10 9 "MistHeaps$Turning" "v" "I" : Cond) ∈ wsX10_leadsTo := kc_of 237 rfl rfl rfl
theorem kc_lead10_1 : ∀ w ∈ wsX100, w ∈ wsX10_leadsTo := fun w h => List.mem_cons_of_mem _ (gin_wsX100 w h)
theorem kc_lead10_2 : (.sameField "MistHeaps$Turning" "MistHeaps$Heap" "v" "I" : Cond) ∈ wsX10_leadsTo := kc_of 238 rfl rfl rfl
theorem kc_lead10_3 : (.initialized RX11 : Cond) ∈ wsX10_leadsTo := kc_of 63 rfl rfl rfl
theorem kc_lead10_4 : (.static yX11_rowOf : Cond) ∈ wsX10_leadsTo := kc_of 642 rfl rfl rfl
theorem kc_lead10_5 : (.fieldLink RX10 23 "MistHeaps$Turning" "cell" "I" : Cond) ∈ wsX10_leadsTo := kc_of 247 rfl rfl rfl
theorem kc_lead10_6 : (.sameField "MistHeaps$Turning" "MistHeaps$Heap" "cell" "I" : Cond) ∈ wsX10_leadsTo := kc_of 248 rfl rfl rfl
theorem kc_lead10_7 : (.static yX11_columnOf : Cond) ∈ wsX10_leadsTo := kc_of 645 rfl rfl rfl
set_option maxHeartbeats 4000000 in
set_option maxRecDepth 100000 in
theorem c_lead10 (l : Launch) (dC : Nat → ClassId) (dI : Nat → Nat → Nat) (gd : Nat → Nat) (kA : Nat)  (i0 : Nat) (sk : Int32) (sv : Int32) (scl : Int32) (x : Int32) (a0 : Nat) (zv9 : ∃ v9 : Nat, v9 ≤ 9 ∧ sv = nI v9) (zs9 : ∃ c9 : Nat, c9 < 36 ∧ scl = nI c9) (zx9 : ∃ x9 : Nat, x9 < 36 ∧ x = nI x9) : Met l yX10_leadsTo wsX10_leadsTo ({ frames := 1, cells := 0, slots := 0, locals := 21 } : Room) (va_Pc [.ref a0, .int x] (fun U => Gl gd (fun _ => False) U ∧ Gn kA (fun _ => False) U ∧ Fz dC dI [(zo12iiii a0 sk (nI i0) sv scl)] [] (fun _ => False) U)) (vp_Si (fun r => (r = 1 ∧ ldP sv scl x) ∨ (r = 0 ∧ ¬ ldP sv scl x))) 0 0 (fun _ => False) := by
  refine met_ofQ (cc := cX10_leadsTo) (maxL := 3) (ret := (some .boolean)) (by decide) rfl ?_
  intro p e s m args below meth c s₁ Q B hml hv hQ
  obtain ⟨rfl, hG, hN_, hZ⟩ := hv
  have hx := B.exec
  have hb := B.bytes
  have hr := B.returns
  have hts := atoms_spec (ws := wsX10_leadsTo) B.pre
  have hown : s.vm.findClass RX10 = some m.cls := findClass_of_methodNamed B.named
  have hlocks := B.notSynchronized
  obtain ⟨A, hAe⟩ : ∃ A : Nat → Prop, A = fun _ => False := ⟨_, rfl⟩
  rw [← hAe] at hQ hG hN_ hZ
  have hS : va_S A s.heap s.heap [] := va_S.rf
  have hl := lv_entry [.ref a0, .int x] (n := 3) (Nat.le_of_ble_eq_true rfl)
  rw [lg_entry_eq]
  generalize (lg_sl [.ref a0, .int x] ++ List.replicate (3 - (lg_sl [.ref a0, .int x]).length) Slot.unset).toArray = ls at hl ⊢
  generalize hag : ([.ref a0, .int x] : List Value).toArray = args at hts hQ ⊢
  have hl : lv_has ls 3 [(0, .ref a0), (1, .int x)] := hl
  obtain ⟨v9, hv9, rfl⟩ := zv9
  refine lv_aload_n hx hb dX10_leadsTo_0 rfl (lv_at hl 0 rfl) ?_
  refine va_get (D := (dC, dI)) (ci := 12) (v := .int (nI v9)) (C := RX10) (T := TX10) (N := 4) hx hb hts kc_lead10_1 hown hZ.2.1 (hZ.P hS) 0 rfl rfl 2 (by decide) (hts (.fieldLink RX10 9 "MistHeaps$Turning" "v" "I") kc_lead10_0) (fun x h => u_same (hts (.sameField "MistHeaps$Turning" "MistHeaps$Heap" "v" "I") kc_lead10_2) x h) rfl dX10_leadsTo_1 ?_
  refine lv_bipush (v := 8) hx hb dX10_leadsTo_4 (by decide) ?_
  refine lv_irem hx hb dX10_leadsTo_6 (by decide) ?_
  refine qi_as (y := nI (v9 % 8)) (pk_rem (a := v9) (d := 8) (by omega) (by omega) (by omega)) ?_
  refine lv_istore_n (lv' := [(2, .int (nI (v9 % 8))), (0, .ref a0), (1, .int x)]) hx hb dX10_leadsTo_7 rfl hl (by decide) rfl (fun ls hl => ?_)
  refine va_getsN (C := "MistHeaps") (n := "DOWN") (d := "[I") (v := .ref (gd 0)) hx hb hG.2.1 hS hown (va_Nw.use rfl (hN_.1 (.fieldLinkNest RX10 15 "MistHeaps" "DOWN" "[I" "MistHeaps") (by decide +kernel))) (fun _ h9 => h9) dX10_leadsTo_8 ?_
  refine lv_iload_n hx hb dX10_leadsTo_11 rfl (lv_at hl 0 rfl) ?_
  refine va_ti (v := .int (fDown (v9 % 8))) hx hb hG.2.2.1 hS (vp_in_nI (n := v9 % 8) (N := 8) (by omega) (by omega)) (by rw [nI_clamp (by omega)]) dX10_leadsTo_12 ?_
  refine lv_iload_n hx hb dX10_leadsTo_13 rfl (lv_at hl 2 rfl) ?_
  refine vp_callSi (va_runSN (As := [.int x]) (rest := [.int (fDown (v9 % 8))]) ⟨hx, hb, hml, hown, hts⟩ (c_rowOf l dC dI x) ⟨va_cnB 1 hts ggX10_leadsTo_X11_rowOf rfl rfl rfl (hG.1 (.methodLinkNest RX10 19 yX11_rowOf "MistHeaps") (by decide +kernel)) (hts (.initialized RX11) kc_lead10_3) (by decide +kernel) ⟨Nat.le_of_ble_eq_true rfl, Nat.le_of_ble_eq_true rfl⟩, (hts (.static yX11_rowOf) kc_lead10_4), trivial⟩ ⟨fun a U g mk q => ⟨q.1, trivial⟩, fun U hU hW => ⟨rfl, trivial⟩⟩ rfl rfl hl.1 rfl (lv_room (Nat.le_of_ble_eq_true rfl)) dX10_leadsTo_14 ⟨Nat.le_of_ble_eq_true rfl, Nat.le_of_ble_eq_true rfl⟩).run (fun r_1 hw_2 => ?_)
  obtain rfl := hw_2
  refine lv_aload_n hx hb dX10_leadsTo_17 rfl (lv_at hl 1 rfl) ?_
  refine va_get (D := (dC, dI)) (ci := 12) (v := .int scl) (C := RX10) (T := TX10) (N := 4) hx hb hts kc_lead10_1 hown hZ.2.1 (hZ.P hS) 0 rfl rfl 3 (by decide) (hts (.fieldLink RX10 23 "MistHeaps$Turning" "cell" "I") kc_lead10_5) (fun x h => u_same (hts (.sameField "MistHeaps$Turning" "MistHeaps$Heap" "cell" "I") kc_lead10_6) x h) rfl dX10_leadsTo_18 ?_
  refine vp_callSi (va_runSN (As := [.int scl]) (rest := [.int (x / 6), .int (fDown (v9 % 8))]) ⟨hx, hb, hml, hown, hts⟩ (c_rowOf l dC dI scl) ⟨va_cnB 1 hts ggX10_leadsTo_X11_rowOf rfl rfl rfl (hG.1 (.methodLinkNest RX10 19 yX11_rowOf "MistHeaps") (by decide +kernel)) (hts (.initialized RX11) kc_lead10_3) (by decide +kernel) ⟨Nat.le_of_ble_eq_true rfl, Nat.le_of_ble_eq_true rfl⟩, (hts (.static yX11_rowOf) kc_lead10_4), trivial⟩ ⟨fun a U g mk q => ⟨q.1, trivial⟩, fun U hU hW => ⟨rfl, trivial⟩⟩ rfl rfl hl.1 rfl (lv_room (Nat.le_of_ble_eq_true rfl)) dX10_leadsTo_21 ⟨Nat.le_of_ble_eq_true rfl, Nat.le_of_ble_eq_true rfl⟩).run (fun r_3 hw_4 => ?_)
  obtain rfl := hw_4
  refine lv_isub hx hb dX10_leadsTo_24 ?_
  refine vp_callSi (va_runS (As := [.int (fDown (v9 % 8)), .int ((x / 6) - (scl / 6))]) (rest := []) ⟨hx, hb, hml, hown, hts⟩ (c_onSide l dC dI (fDown (v9 % 8)) ((x / 6) - (scl / 6))) (va_cwS 2 hts gX10_leadsTo_X10_isOnSide rfl rfl rfl hd_yX10_isOnSide.2 ⟨Nat.le_of_ble_eq_true rfl, Nat.le_of_ble_eq_true rfl⟩) ⟨fun a U g mk q => ⟨q.1, trivial⟩, fun U hU hW => ⟨rfl, trivial⟩⟩ rfl rfl hl.1 rfl (lv_room (Nat.le_of_ble_eq_true rfl)) dX10_leadsTo_25 ⟨Nat.le_of_ble_eq_true rfl, Nat.le_of_ble_eq_true rfl⟩).run (fun r_5 hw_6 => ?_)
  rcases hw_6 with ⟨rfl, hd_7⟩ | ⟨rfl, hd_7⟩
  · skip
    refine lv_if_eq (tgt := 58) hx hb dX10_leadsTo_28 (by decide) (fun c_8 => absurd c_8 (by decide)) (fun _ => ?_)
    refine va_getsN (C := "MistHeaps") (n := "RIGHT") (d := "[I") (v := .ref (gd 1)) hx hb hG.2.2.2.1 hS hown (va_Nw.use rfl (hN_.1 (.fieldLinkNest RX10 30 "MistHeaps" "RIGHT" "[I" "MistHeaps") (by decide +kernel))) (fun _ h9 => h9) dX10_leadsTo_31 ?_
    refine lv_iload_n hx hb dX10_leadsTo_34 rfl (lv_at hl 0 rfl) ?_
    refine va_ti (v := .int (fRight (v9 % 8))) hx hb hG.2.2.2.2 hS (vp_in_nI (n := v9 % 8) (N := 8) (by omega) (by omega)) (by rw [nI_clamp (by omega)]) dX10_leadsTo_35 ?_
    refine lv_iload_n hx hb dX10_leadsTo_36 rfl (lv_at hl 2 rfl) ?_
    refine vp_callSi (va_runSN (As := [.int x]) (rest := [.int (fRight (v9 % 8))]) ⟨hx, hb, hml, hown, hts⟩ (c_columnOf l dC dI x) ⟨va_cnB 1 hts ggX10_leadsTo_X11_columnOf rfl rfl rfl (hG.1 (.methodLinkNest RX10 33 yX11_columnOf "MistHeaps") (by decide +kernel)) (hts (.initialized RX11) kc_lead10_3) (by decide +kernel) ⟨Nat.le_of_ble_eq_true rfl, Nat.le_of_ble_eq_true rfl⟩, (hts (.static yX11_columnOf) kc_lead10_7), trivial⟩ ⟨fun a U g mk q => ⟨q.1, trivial⟩, fun U hU hW => ⟨rfl, trivial⟩⟩ rfl rfl hl.1 rfl (lv_room (Nat.le_of_ble_eq_true rfl)) dX10_leadsTo_37 ⟨Nat.le_of_ble_eq_true rfl, Nat.le_of_ble_eq_true rfl⟩).run (fun r_9 hw_10 => ?_)
    obtain rfl := hw_10
    refine lv_aload_n hx hb dX10_leadsTo_40 rfl (lv_at hl 1 rfl) ?_
    refine va_get (D := (dC, dI)) (ci := 12) (v := .int scl) (C := RX10) (T := TX10) (N := 4) hx hb hts kc_lead10_1 hown hZ.2.1 (hZ.P hS) 0 rfl rfl 3 (by decide) (hts (.fieldLink RX10 23 "MistHeaps$Turning" "cell" "I") kc_lead10_5) (fun x h => u_same (hts (.sameField "MistHeaps$Turning" "MistHeaps$Heap" "cell" "I") kc_lead10_6) x h) rfl dX10_leadsTo_41 ?_
    refine vp_callSi (va_runSN (As := [.int scl]) (rest := [.int (x - x / 6 * 6), .int (fRight (v9 % 8))]) ⟨hx, hb, hml, hown, hts⟩ (c_columnOf l dC dI scl) ⟨va_cnB 1 hts ggX10_leadsTo_X11_columnOf rfl rfl rfl (hG.1 (.methodLinkNest RX10 33 yX11_columnOf "MistHeaps") (by decide +kernel)) (hts (.initialized RX11) kc_lead10_3) (by decide +kernel) ⟨Nat.le_of_ble_eq_true rfl, Nat.le_of_ble_eq_true rfl⟩, (hts (.static yX11_columnOf) kc_lead10_7), trivial⟩ ⟨fun a U g mk q => ⟨q.1, trivial⟩, fun U hU hW => ⟨rfl, trivial⟩⟩ rfl rfl hl.1 rfl (lv_room (Nat.le_of_ble_eq_true rfl)) dX10_leadsTo_44 ⟨Nat.le_of_ble_eq_true rfl, Nat.le_of_ble_eq_true rfl⟩).run (fun r_11 hw_12 => ?_)
    obtain rfl := hw_12
    refine lv_isub hx hb dX10_leadsTo_47 ?_
    refine vp_callSi (va_runS (As := [.int (fRight (v9 % 8)), .int ((x - x / 6 * 6) - (scl - scl / 6 * 6))]) (rest := []) ⟨hx, hb, hml, hown, hts⟩ (c_onSide l dC dI (fRight (v9 % 8)) ((x - x / 6 * 6) - (scl - scl / 6 * 6))) (va_cwS 2 hts gX10_leadsTo_X10_isOnSide rfl rfl rfl hd_yX10_isOnSide.2 ⟨Nat.le_of_ble_eq_true rfl, Nat.le_of_ble_eq_true rfl⟩) ⟨fun a U g mk q => ⟨q.1, trivial⟩, fun U hU hW => ⟨rfl, trivial⟩⟩ rfl rfl hl.1 rfl (lv_room (Nat.le_of_ble_eq_true rfl)) dX10_leadsTo_48 ⟨Nat.le_of_ble_eq_true rfl, Nat.le_of_ble_eq_true rfl⟩).run (fun r_13 hw_14 => ?_)
    rcases hw_14 with ⟨rfl, hd_15⟩ | ⟨rfl, hd_15⟩
    · skip
      refine lv_if_eq (tgt := 58) hx hb dX10_leadsTo_51 (by decide) (fun c_16 => absurd c_16 (by decide)) (fun _ => ?_)
      refine lv_iconst (v := 1) hx hb dX10_leadsTo_54 (by decide) ?_
      refine lv_goto (tgt := 59) hx hb dX10_leadsTo_55 (by decide) ?_
      rw [hQ]
      exact W.zret (v := 1) hx hb hr rfl (fun tQ htQ hWQ => ⟨1, rfl, Or.inl ⟨rfl, (ld_r hv9 zs9 zx9).mp hd_7, (ld_c hv9 zs9 zx9).mp hd_15⟩, by rw [htQ]⟩) (fun q hq => absurd hq List.not_mem_nil) dX10_leadsTo_59
    · skip
      refine lv_if_eq (tgt := 58) hx hb dX10_leadsTo_51 (by decide) (fun _ => ?_) (fun c_17 => absurd c_17 (by decide))
      refine lv_iconst (v := 0) hx hb dX10_leadsTo_58 (by decide) ?_
      rw [hQ]
      exact W.zret (v := 0) hx hb hr rfl (fun tQ htQ hWQ => ⟨0, rfl, Or.inr ⟨rfl, fun z9 => hd_15 ((ld_c hv9 zs9 zx9).mpr z9.2)⟩, by rw [htQ]⟩) (fun q hq => absurd hq List.not_mem_nil) dX10_leadsTo_59
  · skip
    refine lv_if_eq (tgt := 58) hx hb dX10_leadsTo_28 (by decide) (fun _ => ?_) (fun c_18 => absurd c_18 (by decide))
    refine lv_iconst (v := 0) hx hb dX10_leadsTo_58 (by decide) ?_
    rw [hQ]
    exact W.zret (v := 0) hx hb hr rfl (fun tQ htQ hWQ => ⟨0, rfl, Or.inr ⟨rfl, fun z9 => hd_7 ((ld_r hv9 zs9 zx9).mpr z9.1)⟩, by rw [htQ]⟩) (fun q hq => absurd hq List.not_mem_nil) dX10_leadsTo_59
