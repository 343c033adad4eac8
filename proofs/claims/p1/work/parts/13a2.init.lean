
theorem arr_known {args : Array Value} {s : State} {ty : FieldType} (h : (Cond.arrayClass ty).before args s = true) : ∃ c : ClassId, s.vm.findClass ("[" ++ ty.toString) = some c ∧ ArrOfT s c ty := by
  obtain ⟨c, k, comp, h1, h2, h3⟩ := Cond.arrayClass_spec h
  exact ⟨c, h1, fun n z => ⟨(fun q hq => by cases hq), k, h2, comp, h3⟩⟩
theorem mna_rows {f : Nat → va_E} {r : Nat → Nat} {e : va_E} {n : Nat} : va_pl ([] ++ (List.range n).map r) (vr_up f ((List.range n).map r) e) = (List.range n).map (fun i => (r i, e)) := by
  unfold va_pl
  rw [List.nil_append, List.map_map]
  apply List.map_congr_left
  intro i hi
  show (r i, vr_up f _ e (r i)) = (r i, e)
  rw [vr_up_in (List.mem_map.mpr ⟨i, hi, rfl⟩)]
theorem K_rep {D : va_G} {cl : List vw_C} {tys : List (ClassId × FieldType)} {s : State} {c : ClassId} {ty : FieldType} (hK : va_K D cl tys s) (h1 : ArrOfT s c ty) (h2 : va_RA s c ty) (n : Nat) : va_K D cl (List.replicate n (c, ty)) s := ⟨hK.1, fun k q h => by
  have e := List.eq_of_mem_replicate (List.mem_of_getElem? h)
  rw [e]
  exact ⟨h1, h2⟩⟩
def castW : List Cond := [.castable RX4 "MistHeaps$Heap", .castable RX6 "MistHeaps$Heap", .castable RX1 "MistHeaps$Heap", .castable RX10 "MistHeaps$Heap", .castable RX9 "MistHeaps$Heap", .castable RX7 "MistHeaps$Heap"]
theorem castW_tab : ∀ w ∈ castW, w.onTables = true := by decide +kernel
/-- what the constructors, and a heap's being set, take along -/
def Gc (bS : Nat) (A : Nat → Prop) (U : State) : Prop := va_AO "MistHeaps$Heap" U ∧ va_AOA .long U ∧ va_AOA .int U ∧ (∀ w ∈ castW, va_Nw w U) ∧ va_Z "java/util/ArrayList" "DEFAULTCAPACITY_EMPTY_ELEMENTDATA" "[Ljava/lang/Object;" (.ref bS) A U U.heap
theorem castW_warm {s U : State} (hW : s.WarmedH U.vm) (h : ∀ w ∈ castW, va_Nw w s) : ∀ w ∈ castW, va_Nw w U := by
  have k : ∀ w ∈ castW, ∃ (a b : String), w = .castable a b := by
    intro w hw
    simp only [castW, List.mem_cons, List.not_mem_nil, or_false] at hw
    rcases hw with rfl | rfl | rfl | rfl | rfl | rfl <;> exact ⟨_, _, rfl⟩
  intro w hw
  obtain ⟨a, b, rfl⟩ := k w hw
  exact va_Nw.warmC hW (h _ hw)
theorem Gc.same {bS : Nat} {A : Nat → Prop} {u U : State} (h : Gc bS A u) (hvm : u.vm = U.vm) (hh : U.heap = u.heap) : Gc bS A U := by
  obtain ⟨h1, h2, h3, h4, h5⟩ := h
  have hv : u.vm.Alike U.vm := by rw [hvm]; exact Vm.Alike.refl _
  refine ⟨h1.moved hv, h2.moved hv, h3.moved hv, fun w hw => va_Nw.same (castW_tab w hw) hvm (h4 w hw), ?_⟩
  rw [hh]; exact h5.moved hv
theorem Gc.call {bS : Nat} {A B : Nat → Prop} {s U : State} {H : Heap} {locs : List Loc} (h : Gc bS A s) (hS : va_S A s.heap H locs) (hU : U.heap = H) (hW : s.WarmedH U.vm) (hB : ∀ q, B q → A q) : Gc bS B U := by
  obtain ⟨h1, h2, h3, h4, h5⟩ := h
  refine ⟨h1.moved hW.alike, h2.moved hW.alike, h3.moved hW.alike, castW_warm hW h4, ?_⟩
  rw [hU]; exact ((h5.kept (H1 := H) hS.2.1).moved hW.alike).narrow hB
theorem Gc.castable {bS : Nat} {A : Nat → Prop} {U : State} (h : Gc bS A U) (w : Cond) (hw : w ∈ castW) : va_Nw w U := h.2.2.2.1 w hw
