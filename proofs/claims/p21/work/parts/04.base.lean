section
variable {p : Program} {l : Launch} {e : Env} {R : Room} {s : State} {m : MethodId} {args : Array Value} {below : List Frame} {meth : Method} {c : Code} {H : Heap} {locs : List Loc} {cells slots : Nat} {Q : State → Prop} {pc : Nat} {ls : Array Slot} {rest : List Value}
theorem qi_as {x y : Int32} (h : x = y) (k : W p l e R s m args below meth c H locs cells slots Q (F0 m pc ls (.int y :: rest))) : W p l e R s m args below meth c H locs cells slots Q (F0 m pc ls (.int x :: rest)) := h ▸ k
theorem ql_as {x y : Int64} (h : x = y) (k : W p l e R s m args below meth c H locs cells slots Q (F0 m pc ls (.long y :: rest))) : W p l e R s m args below meth c H locs cells slots Q (F0 m pc ls (.long x :: rest)) := h ▸ k
theorem qq_as {x : Option Nat} {v : Value} (h : va_rf x = v) (k : W p l e R s m args below meth c H locs cells slots Q (F0 m pc ls (v :: rest))) : W p l e R s m args below meth c H locs cells slots Q (F0 m pc ls (va_rf x :: rest)) := h ▸ k
end
theorem met_ofQ {l : Launch} {y : MethodName} {ws ws' : List Cond} {rm : Room} {Pc : Array Value → State → Prop} {Qc : Array Value → State → Outcome → State → Prop} {mc ms : Nat} {free : Addr → Prop} {cc : ByteArray} {maxL : Nat} {ret : Option FieldType} (hy : plainName y.cls = true) (hw : ws = Cond.code y cc maxL ret :: ws') (body : ∀ p e s m args below meth c s₁ Q, BodyLoose p l y (headSpec ws rm) cc maxL ret e s m args below meth c s₁ → c.maxLocals = maxL → Pc args s → Q = MQ below Qc args s mc ms free → W p l e rm s m args below meth c s.heap [] 0 0 Q (entryFrame m args maxL)) : Met l y ws rm Pc Qc mc ms free :=
  Met.ofW hy hw (fun p e s m args below meth c s₁ B h1 h2 => body p e s m args below meth c s₁ _ B h1 h2 rfl)
theorem sw_out (lo hi : Int) (x : Int32) (h : ∀ k : Nat, k < (hi - lo + 1).toNat → ¬ x = Int32.ofInt (lo + k)) : x.toInt < lo ∨ hi < x.toInt := by
  by_cases h1 : x.toInt < lo
  · exact Or.inl h1
  · by_cases h2 : hi < x.toInt
    · exact Or.inr h2
    · exfalso
      refine h (x.toInt - lo).toNat (by omega) ?_
      rw [show lo + ((x.toInt - lo).toNat : Int) = x.toInt by omega]
      exact (Int32.ofInt_toInt x).symm
/-- the static rows of numbers, by their addresses, and the links between nest mates: what a call takes along -/
noncomputable def nestW : List Cond := [.methodLinkNest RX8 102 yX11_rowOf "MistHeaps", .methodLinkNest RX8 106 yX11_columnOf "MistHeaps", .methodLinkNest RX2 44 yX11_apart "MistHeaps", .methodLinkNest RX10 19 yX11_rowOf "MistHeaps", .methodLinkNest RX10 33 yX11_columnOf "MistHeaps", .methodLinkNest RX8 113 yX11_apart "MistHeaps", .methodLinkNest RX0 44 yX11_isIn "MistHeaps", .methodLinkNest RX0 56 yX11_besideOrSame "MistHeaps"]
noncomputable def fDown : Nat → Int32 := fun k => [-1, -1, 0, 1, 1, 1, 0, -1].getD k 0
noncomputable def fRight : Nat → Int32 := fun k => [0, 1, 1, 1, 0, -1, -1, -1].getD k 0
noncomputable def Gl (gd : Nat → Nat) (A : Nat → Prop) (U : State) : Prop := (∀ w ∈ nestW, va_Nw w U) ∧ va_Z "MistHeaps" "DOWN" "[I" (.ref (gd 0)) A U U.heap ∧ va_T .int (gd 0) 8 (fun k => .int (fDown k)) A U U.heap ∧ va_Z "MistHeaps" "RIGHT" "[I" (.ref (gd 1)) A U U.heap ∧ va_T .int (gd 1) 8 (fun k => .int (fRight k)) A U U.heap
theorem nestW_tab : ∀ w ∈ nestW, w.onTables = true := by decide +kernel
theorem nestW_warm {s U : State} (hW : s.WarmedH U.vm) (h : ∀ w ∈ nestW, va_Nw w s) : ∀ w ∈ nestW, va_Nw w U := by
  have k : ∀ w ∈ nestW, ∃ (a : String) (i : Nat) (x : MethodName) (b : String), w = .methodLinkNest a i x b := by
    intro w hw
    simp only [nestW, List.mem_cons, List.not_mem_nil, or_false] at hw
    rcases hw with rfl | rfl | rfl | rfl | rfl | rfl | rfl | rfl <;> exact ⟨_, _, _, _, rfl⟩
  intro w hw
  obtain ⟨a, i, x, b, rfl⟩ := k w hw
  exact va_Nw.warmM hW (h _ hw)
theorem Gl.same {gd : Nat → Nat} {A : Nat → Prop} {u U : State} (h : Gl gd A u) (hvm : u.vm = U.vm) (hh : U.heap = u.heap) : Gl gd A U := by
  obtain ⟨h1, h2, h3, h4, h5⟩ := h
  have hv : u.vm.Alike U.vm := by rw [hvm]; exact Vm.Alike.refl _
  refine ⟨fun w hw => va_Nw.same (nestW_tab w hw) hvm (h1 w hw), ?_, ?_, ?_, ?_⟩
  · rw [hh]; exact h2.moved hv
  · rw [hh]; exact h3.moved hv
  · rw [hh]; exact h4.moved hv
  · rw [hh]; exact h5.moved hv
theorem Gl.mv {gd : Nat → Nat} {A : Nat → Prop} {U : State} (g : _) (mk : _) (a : _) (h : Gl gd A U) : Gl gd A (U.calling g mk a) := h.same rfl rfl
theorem Gl.call {gd : Nat → Nat} {A B : Nat → Prop} {s U : State} {H : Heap} {locs : List Loc} (h : Gl gd A s) (hS : va_S A s.heap H locs) (hU : U.heap = H) (hW : s.WarmedH U.vm) (hB : ∀ q, B q → A q) : Gl gd B U := by
  obtain ⟨h1, h2, h3, h4, h5⟩ := h
  refine ⟨nestW_warm hW h1, ?_, ?_, ?_, ?_⟩
  · rw [hU]; exact ((h2.kept (H1 := H) hS.2.1).moved hW.alike).narrow hB
  · rw [hU]; exact ((h3.kept (H1 := H) hS.2.1).moved hW.alike).narrow hB
  · rw [hU]; exact ((h4.kept (H1 := H) hS.2.1).moved hW.alike).narrow hB
  · rw [hU]; exact ((h5.kept (H1 := H) hS.2.1).moved hW.alike).narrow hB
theorem Gl.callF {gd : Nat → Nat} {A : Nat → Prop} {s U : State} {H : Heap} {locs : List Loc} (h : Gl gd A s) (hS : va_S A s.heap H locs) (hU : U.heap = H) (hW : s.WarmedH U.vm) : Gl gd (fun _ => False) U := h.call hS hU hW (fun _ q => q.elim)
noncomputable def sgL (big : List Cond) (d : Nat) (rs : List Nat) : List Cond := rs.filterMap (fun i => (big.drop d)[i]?)
noncomputable def sgs (big : List Cond) : List Nat → List (List Nat) → List Cond
  | d :: ds, r :: rs => sgL big d r ++ sgs big ds rs
  | _, _ => []
theorem sgs_in {big : List Cond} : ∀ (ds : List Nat) (rs : List (List Nat)) (w : Cond), w ∈ sgs big ds rs → w ∈ big
  | [], _, w, h => by simp [sgs] at h
  | _ :: _, [], w, h => by simp [sgs] at h
  | d :: ds, r :: rs, w, h => by
    rcases List.mem_append.mp h with q | q
    · obtain ⟨i, -, hi⟩ := List.mem_filterMap.mp q
      exact List.mem_of_mem_drop (List.mem_of_getElem? hi)
    · exact sgs_in ds rs w q
theorem goodIn_q {big : List Cond} (ws : List Cond) (ds : List Nat) (rs : List (List Nat)) (hp : ws = sgs big ds rs) (h : ws.all goodWord = true) : GoodIn big ws := by
  intro w hw
  have h1 := List.all_eq_true.mp h w hw
  rw [hp] at hw
  exact ⟨sgs_in ds rs w hw, good_of_word h1⟩
/-- the decoded rows of a method, some at a time -/
noncomputable def dkA (c : ByteArray) (rs : List (Nat × Instr × Nat)) : Bool := rs.all (fun r => decide (decode c r.1 = .ok (r.2.1, r.2.2)))
theorem dkAt {c : ByteArray} {rs : List (Nat × Instr × Nat)} (h : dkA c rs = true) (i : Nat) {pc l : Nat} {ins : Instr} (hi : rs[i]? = some (pc, ins, l)) : decode c pc = .ok (ins, l) := of_decide_eq_true (List.all_eq_true.mp h (pc, ins, l) (List.mem_of_getElem? hi))
