section mg19a

/-! a method's contract taken over the whole of an object's cells -/
theorem met_wrap {l : Launch} {y : MethodName} {ws : List Cond} {rm : Room} {Pc' : Array Value → State → Prop} {Qc' : Array Value → State → Outcome → State → Prop} {mc ms : Nat} {free' : Addr → Prop} (h : ∀ (args : Array Value) (s : State), Pc' args s → ∃ (Pc : Array Value → State → Prop) (Qc : Array Value → State → Outcome → State → Prop) (free : Addr → Prop), Met l y ws rm Pc Qc mc ms free ∧ Pc args s ∧ (∀ o t, Qc args s o t → Qc' args s o t) ∧ ∀ q, free q → free' q) : Met l y ws rm Pc' Qc' mc ms free' := by
  intro p e hl hc hcl s m args below hf ha hP hK
  obtain ⟨Pc, Qc, free, hM, hp, hq, hfr⟩ := h args s hP
  obtain ⟨n, o, h1, h2, h3, hQ, L, hF, hL⟩ := hM p e hl hc hcl s m args below hf ha hp trivial
  exact ⟨n, o, h1, h2, h3, hq _ _ hQ, L, hF, fun q hq' => hfr _ (hL q hq')⟩
theorem K_mem {D : va_G} {cl : List vw_C} {T tys : List (ClassId × FieldType)} {U : State} (h : va_K D cl T U) (hm : ∀ p ∈ tys, p ∈ T) : va_K D cl tys U := ⟨h.1, fun k q hq => by
  obtain ⟨i, hi⟩ := List.getElem?_of_mem (hm q (List.mem_of_getElem? hq))
  exact h.2 i q hi⟩
theorem bl_sub {D : va_G} {cl : List vw_C} {G F T : va_W} {H : Heap} (h : va_P D cl (G ++ T) H) (is : List Nat) (hs : is.map (fun i => G[i]?) = F.map some) : va_P D cl F H := by
  intro k q hq
  obtain ⟨i, -, hi⟩ := va_in_of is hs hq
  exact h i q (by rw [List.getElem?_append_left (List.getElem?_eq_some_iff.mp hi).1]; exact hi)
theorem bl_Dsub {A : Nat → Prop} {G F T : va_W} (h : va_D A (G ++ T)) (is : List Nat) (hn : va_nd is = true) (hs : is.map (fun i => G[i]?) = F.map some) : va_D A F := by
  have hG : va_D A G := ⟨fun i j x y hx hy e => h.1 i j x y (by rw [List.getElem?_append_left (List.getElem?_eq_some_iff.mp hx).1]; exact hx) (by rw [List.getElem?_append_left (List.getElem?_eq_some_iff.mp hy).1]; exact hy) e, fun k q hq => h.2 k q (by rw [List.getElem?_append_left (List.getElem?_eq_some_iff.mp hq).1]; exact hq)⟩
  exact hG.sub is hn hs
theorem bl_mem {G F T : va_W} (is : List Nat) (hs : is.map (fun i => G[i]?) = F.map some) : ∀ c ∈ F, c ∈ G ++ T := by
  intro c hc
  obtain ⟨k, hk⟩ := List.getElem?_of_mem hc
  obtain ⟨i, -, hi⟩ := va_in_of is hs hk
  exact List.mem_append_left _ (List.mem_of_getElem? hi)
theorem bl_A {wc X : va_W} {sz : Nat} (h : ∀ c ∈ wc, c ∈ X) : ∀ q, va_A wc sz q → va_A X sz q := by
  intro q hq
  rcases hq with ⟨k, e, hk⟩ | hq
  · obtain ⟨i, hi⟩ := List.getElem?_of_mem (h _ (List.mem_of_getElem? hk))
    exact Or.inl ⟨i, e, hi⟩
  · exact Or.inr hq
/-- where the cells behind a call come from: out of what came back, or left as they were -/
noncomputable def bl_ok (sel : List (Option Nat)) (pos isC : List Nat) : Bool := sel.zipIdx.all (fun p => match p.1 with | some k => decide (pos[k]? = some p.2) | none => decide (p.2 ∉ isC))
section
variable {B : Nat → Prop} {D : va_G} {cl : List vw_C} {F F' T wc w1 : va_W} {H H1 : Heap}
theorem bl_key (isC : List Nat) (hC : isC.map (fun i => F[i]?) = wc.map some) (sel : List (Option Nat)) (pos : List Nat) (hs : sel.zipIdx.map (fun p => match p.1 with | some k => w1[k]? | none => F[p.2]?) = F'.map some) (hl : sel.length = F.length ∨ T = []) (hok : bl_ok sel pos isC = true) (i : Nat) (c : Nat × va_E) (hi : (F' ++ T)[i]? = some c) : (∃ k : Nat, w1[k]? = some c ∧ pos[k]? = some i) ∨ ((F ++ T)[i]? = some c ∧ i ∉ isC) := by
  have hl' : sel.length = F'.length := by
    have e := congrArg List.length hs
    simp only [List.length_map, List.length_zipIdx] at e
    exact e
  rcases Nat.lt_or_ge i F'.length with q | q
  · rw [List.getElem?_append_left q] at hi
    have e : (sel.zipIdx.map (fun p => match p.1 with | some k => w1[k]? | none => F[p.2]?))[i]? = some (some c) := by rw [hs, List.getElem?_map, hi]; rfl
    rw [List.getElem?_map, List.getElem?_zipIdx] at e
    rcases hsi : sel[i]? with _ | o
    · rw [hsi] at e; cases e
    · rw [hsi] at e
      simp only [Option.map_some, Nat.zero_add, Option.some.injEq] at e
      have hm : (o, i) ∈ sel.zipIdx := by
        apply List.mem_of_getElem? (i := i)
        rw [List.getElem?_zipIdx, hsi]
        simp
      have hp := List.all_eq_true.mp hok _ hm
      rcases o with _ | k
      · right
        simp only [decide_eq_true_eq] at hp
        exact ⟨by rw [List.getElem?_append_left (List.getElem?_eq_some_iff.mp e).1]; exact e, hp⟩
      · left
        simp only [decide_eq_true_eq] at hp
        exact ⟨k, e, hp⟩
  · right
    rw [List.getElem?_append_right q] at hi
    have hlF : F'.length = F.length := by
      rcases hl with hl | hl
      · omega
      · subst hl; simp at hi
    refine ⟨by rw [List.getElem?_append_right (by omega), ← hlF]; exact hi, fun hm => ?_⟩
    obtain ⟨k, hk⟩ := List.getElem?_of_mem hm
    have e : (isC.map (fun i => F[i]?))[k]? = (wc.map some)[k]? := by rw [hC]
    rw [List.getElem?_map, hk, List.getElem?_map] at e
    simp only [Option.map_some] at e
    rcases hw : wc[k]? with _ | z
    · rw [hw] at e; cases e
    · rw [hw] at e
      simp only [Option.map_some, Option.some.injEq] at e
      have := (List.getElem?_eq_some_iff.mp e).1
      omega
theorem bl_kept (hP : va_P D cl (F ++ T) H) (hD : va_D B (F ++ T)) (isC : List Nat) (hC : isC.map (fun i => F[i]?) = wc.map some) {i : Nat} {c : Nat × va_E} (hi : (F ++ T)[i]? = some c) (hn : i ∉ isC) : ¬ va_A wc H.size c.1 := by
  intro h
  rcases h with ⟨k, e, hk⟩ | h
  · obtain ⟨j, h3, h4⟩ := va_in_of isC hC hk
    have hij := hD.1 i j c (c.1, e) hi (by rw [List.getElem?_append_left (List.getElem?_eq_some_iff.mp h4).1]; exact h4) rfl
    rw [hij] at hn
    exact hn (List.mem_of_getElem? h3)
  · have := (hP i c hi).lt
    omega
theorem bl_gen (hP : va_P D cl (F ++ T) H) (hD : va_D B (F ++ T)) (isC : List Nat) (hC : isC.map (fun i => F[i]?) = wc.map some) (hk : ∀ q : Nat, q < H.size → ¬ va_A wc H.size q → H1[q]? = H[q]?) (hP1 : va_P D cl w1 H1) (hD1 : va_D (va_A wc H.size) w1) (sel : List (Option Nat)) (pos : List Nat) (hs : sel.zipIdx.map (fun p => match p.1 with | some k => w1[k]? | none => F[p.2]?) = F'.map some) (hl : sel.length = F.length ∨ T = []) (hok : bl_ok sel pos isC = true) : va_P D cl (F' ++ T) H1 ∧ va_D (va_A (F ++ T) H.size) (F' ++ T) := by
  have key := bl_key (T := T) isC hC sel pos hs hl hok
  refine ⟨fun i c hi => ?_, fun i j x y hx hy exy => ?_, fun i c hi => ?_⟩
  · rcases key i c hi with ⟨k, h1, -⟩ | ⟨h1, h2⟩
    · exact hP1 k c h1
    · exact (hP i c h1).kept (hk c.1 (hP i c h1).lt (bl_kept hP hD isC hC h1 h2))
  · rcases key i x hx with ⟨k, h1, h2⟩ | ⟨h1, h2⟩
    · rcases key j y hy with ⟨k', h3, h4⟩ | ⟨h3, h4⟩
      · have e := hD1.1 k k' x y h1 h3 exy
        rw [e] at h2
        exact Option.some.inj (h2.symm.trans h4)
      · exact absurd (by rw [← exy]; exact hD1.2 k x h1) (bl_kept hP hD isC hC h3 h4)
    · rcases key j y hy with ⟨k', h3, h4⟩ | ⟨h3, h4⟩
      · exact absurd (by rw [exy]; exact hD1.2 k' y h3) (bl_kept hP hD isC hC h1 h2)
      · exact hD.1 i j x y h1 h3 exy
  · rcases key i c hi with ⟨k, h1, -⟩ | ⟨h1, -⟩
    · exact bl_A (bl_mem (T := T) isC hC) _ (hD1.2 k c h1)
    · exact Or.inl ⟨i, c.2, h1⟩
/-- a cell that came back and has no place among the object's own: apart from all of them -/
theorem bl_out (hP : va_P D cl (F ++ T) H) (hD : va_D B (F ++ T)) (isC : List Nat) (hC : isC.map (fun i => F[i]?) = wc.map some) (hD1 : va_D (va_A wc H.size) w1) (sel : List (Option Nat)) (pos : List Nat) (hs : sel.zipIdx.map (fun p => match p.1 with | some k => w1[k]? | none => F[p.2]?) = F'.map some) (hl : sel.length = F.length ∨ T = []) (hok : bl_ok sel pos isC = true) {k : Nat} {q : Nat × va_E} (hq : w1[k]? = some q) (hp : pos[k]? = none) : ∀ c ∈ F' ++ T, c.1 ≠ q.1 := by
  intro c hc e
  obtain ⟨i, hi⟩ := List.getElem?_of_mem hc
  rcases bl_key (T := T) isC hC sel pos hs hl hok i c hi with ⟨k', h1, h2⟩ | ⟨h1, h2⟩
  · have e2 := hD1.1 k' k c q h1 hq e
    rw [e2, hp] at h2
    cases h2
  · exact absurd (by rw [e]; exact hD1.2 k q hq) (bl_kept hP hD isC hC h1 h2)
end
/-- cells that stand and that nobody changes any more: apart from the object's own, and from others' -/
noncomputable def FzX (dC : Nat → ClassId) (dI : Nat → Nat → Nat) (ws X : va_W) (Y : Nat → Prop) (H : Heap) : Prop := va_P (dC, dI) vwCl ws H ∧ ∀ q ∈ ws, (∀ c ∈ X, c.1 ≠ q.1) ∧ ¬ Y q.1
noncomputable def HsX (dC : Nat → ClassId) (dI : Nat → Nat → Nat) (n : Nat) (hx ha : Nat → Nat) (hk hv hc : Nat → Int32) (X : va_W) (Y : Nat → Prop) (H : Heap) : Prop := ∀ i, i < n → hpK (hx i) ∧ FzX dC dI [hpE hx hk hv hc ha i] X Y H
section
variable {dC : Nat → ClassId} {dI : Nat → Nat → Nat} {ws X X' wc : va_W} {Y : Nat → Prop}
theorem FzX.out {H : Heap} (h : FzX dC dI ws X Y H) (hwc : ∀ c ∈ wc, c ∈ X) {k : Nat} {q : Nat × va_E} (hq : ws[k]? = some q) : ¬ va_A wc H.size q.1 := by
  intro hA
  rcases hA with ⟨k2, e, hk⟩ | hA
  · exact (h.2 q (List.mem_of_getElem? hq)).1 _ (hwc _ (List.mem_of_getElem? hk)) rfl
  · have := (h.1 k q hq).lt
    omega
theorem FzX.at {U : State} {tys : List (ClassId × FieldType)} (h : FzX dC dI ws X Y U.heap) (hK : va_K (dC, dI) vwCl tys U) (hwc : ∀ c ∈ wc, c ∈ X) : Fz dC dI ws tys (va_A wc U.heap.size) U := ⟨h.1, hK, fun _ _ hq => ⟨h.out hwc hq, (h.1 _ _ hq).lt⟩⟩
theorem FzX.atF {U : State} {tys : List (ClassId × FieldType)} (h : FzX dC dI ws X Y U.heap) (hK : va_K (dC, dI) vwCl tys U) : Fz dC dI ws tys (fun _ => False) U := ⟨h.1, hK, fun _ _ hq => ⟨fun z => z, (h.1 _ _ hq).lt⟩⟩
theorem FzX.kept {H H1 : Heap} (h : FzX dC dI ws X Y H) (hk : ∀ q : Nat, q < H.size → ¬ va_A wc H.size q → H1[q]? = H[q]?) (hwc : ∀ c ∈ wc, c ∈ X) (hX : ∀ c ∈ X', va_A X H.size c.1) : FzX dC dI ws X' Y H1 := by
  refine ⟨h.1.kept (fun k q hq => hk q.1 (h.1 k q hq).lt (h.out hwc hq)), fun q hq => ⟨fun c hc e => ?_, (h.2 q hq).2⟩⟩
  obtain ⟨k, hk'⟩ := List.getElem?_of_mem hq
  exact h.out (wc := X) (fun _ z => z) hk' (by rw [← e]; exact hX c hc)
theorem HsX.at {n : Nat} {hx ha : Nat → Nat} {hk hv hc : Nat → Int32} {U : State} (h : HsX dC dI n hx ha hk hv hc X Y U.heap) (hK : va_K (dC, dI) vwCl [] U) (hwc : ∀ c ∈ wc, c ∈ X) : Hs dC dI n hx ha hk hv hc (va_A wc U.heap.size) U := fun i hi => ⟨(h i hi).1, (h i hi).2.at hK hwc⟩
theorem HsX.atF {n : Nat} {hx ha : Nat → Nat} {hk hv hc : Nat → Int32} {U : State} (h : HsX dC dI n hx ha hk hv hc X Y U.heap) (hK : va_K (dC, dI) vwCl [] U) : Hs dC dI n hx ha hk hv hc (fun _ => False) U := fun i hi => ⟨(h i hi).1, (h i hi).2.atF hK⟩
theorem HsX.kept {n : Nat} {hx ha : Nat → Nat} {hk' hv hc : Nat → Int32} {H H1 : Heap} (h : HsX dC dI n hx ha hk' hv hc X Y H) (hk : ∀ q : Nat, q < H.size → ¬ va_A wc H.size q → H1[q]? = H[q]?) (hwc : ∀ c ∈ wc, c ∈ X) (hX : ∀ c ∈ X', va_A X H.size c.1) : HsX dC dI n hx ha hk' hv hc X' Y H1 := fun i hi => ⟨(h i hi).1, (h i hi).2.kept hk hwc hX⟩
end
theorem D_mem {A : Nat → Prop} {ws : va_W} (h : va_D A ws) : ∀ c ∈ ws, A c.1 := fun c hc => by
  obtain ⟨k, hk⟩ := List.getElem?_of_mem hc
  exact h.2 k c hk
theorem notY {wc X : va_W} {Y : Nat → Prop} {sz a : Nat} (h : va_A wc sz a) (hwc : ∀ c ∈ wc, c ∈ X) (hY1 : ∀ c ∈ X, ¬ Y c.1) (hY2 : ∀ q, sz ≤ q → ¬ Y q) : ¬ Y a := by
  rcases h with ⟨k, e, hk⟩ | h
  · exact hY1 _ (hwc _ (List.mem_of_getElem? hk))
  · exact hY2 a h
/-- cells that came back and have no place among the object's own stand from now on -/
theorem bl_fz {dC : Nat → ClassId} {dI : Nat → Nat → Nat} {Y : Nat → Prop} {B : Nat → Prop} {F F' T wc w1 ws : va_W} {H H1 : Heap} (hP : va_P (dC, dI) vwCl (F ++ T) H) (hD : va_D B (F ++ T)) (isC : List Nat) (hC : isC.map (fun i => F[i]?) = wc.map some) (hP1 : va_P (dC, dI) vwCl w1 H1) (hD1 : va_D (va_A wc H.size) w1) (sel : List (Option Nat)) (pos : List Nat) (hs : sel.zipIdx.map (fun p => match p.1 with | some k => w1[k]? | none => F[p.2]?) = F'.map some) (hl : sel.length = F.length ∨ T = []) (hok : bl_ok sel pos isC = true) (hY1 : ∀ c ∈ F ++ T, ¬ Y c.1) (hY2 : ∀ q, H.size ≤ q → ¬ Y q) (is : List Nat) (hi : is.map (fun i => w1[i]?) = ws.map some) (hp : is.all (fun i => decide (pos[i]? = none)) = true) : FzX dC dI ws (F' ++ T) Y H1 := by
  refine ⟨fun k q hq => ?_, fun q hq => ?_⟩
  · obtain ⟨i, -, h2⟩ := va_in_of is hi hq
    exact hP1 i q h2
  · obtain ⟨k, hk⟩ := List.getElem?_of_mem hq
    obtain ⟨i, h1, h2⟩ := va_in_of is hi hk
    have h3 := List.all_eq_true.mp hp i (List.mem_of_getElem? h1)
    simp only [decide_eq_true_eq] at h3
    exact ⟨bl_out hP hD isC hC hD1 sel pos hs hl hok h2 h3, notY (hD1.2 i q h2) (bl_mem isC hC) hY1 hY2⟩
theorem hs_add {dC : Nat → ClassId} {dI : Nat → Nat → Nat} {n : Nat} {yi ya : Nat → Nat} {yk yv yc : Nat → Int32} {X : va_W} {Y : Nat → Prop} {H : Heap} {ci qn : Nat} {a b c : Int32} (h : HsX dC dI n yi ya yk yv yc X Y H) (hci : hpK ci) (hq : FzX dC dI [(qn, .inr (ci, [.int a, .int (nI n), .int b, .int c]))] X Y H) : HsX dC dI (n + 1) (fun k => if k = n then ci else yi k) (fun k => if k = n then qn else ya k) (fun k => if k = n then a else yk k) (fun k => if k = n then b else yv k) (fun k => if k = n then c else yc k) X Y H := by
  intro i hi
  by_cases e : i = n
  · subst e
    have e1 : hpE (fun k => if k = i then ci else yi k) (fun k => if k = i then a else yk k) (fun k => if k = i then b else yv k) (fun k => if k = i then c else yc k) (fun k => if k = i then qn else ya k) i = (qn, .inr (ci, [.int a, .int (nI i), .int b, .int c])) := by simp [hpE]
    rw [e1]
    exact ⟨by simpa using hci, hq⟩
  · have h9 := h i (by omega)
    have e1 : hpE (fun k => if k = n then ci else yi k) (fun k => if k = n then a else yk k) (fun k => if k = n then b else yv k) (fun k => if k = n then c else yc k) (fun k => if k = n then qn else ya k) i = hpE yi yk yv yc ya i := by simp [hpE, e]
    rw [e1]
    exact ⟨by simpa [e] using h9.1, h9.2⟩
theorem up_hs {f : Nat → Option Nat} {ya : Nat → Nat} {n qn : Nat} (h : ∀ k0, k0 < n → f k0 = some (ya k0)) : ∀ k0, k0 < n + 1 → va_up f n (some qn) k0 = some (if k0 = n then qn else ya k0) := by
  intro k hk
  by_cases e : k = n
  · simp [va_up, e]
  · simp only [va_up, if_neg e]; exact h k (by omega)
theorem up_hn {f : Nat → Option Nat} {n qn : Nat} (h : ∀ k0, n ≤ k0 → k0 < 8 → f k0 = none) : ∀ k0, n + 1 ≤ k0 → k0 < 8 → va_up f n (some qn) k0 = none := by
  intro k hk h8
  simp only [va_up, if_neg (show ¬ k = n by omega)]
  exact h k (by omega) h8
theorem up_yk {f : Nat → Int32} {n M j : Nat} (h : ∀ k0, k0 < n → ∃ v0 : Nat, v0 < M ∧ f k0 = nI v0) (hj : j < M) : ∀ k0, k0 < n + 1 → ∃ v0 : Nat, v0 < M ∧ (if k0 = n then nI j else f k0) = nI v0 := by
  intro k hk
  by_cases e : k = n
  · exact ⟨j, hj, if_pos e⟩
  · obtain ⟨v, hv, e2⟩ := h k (by omega)
    exact ⟨v, hv, by rw [if_neg e]; exact e2⟩
theorem up_yv {f : Nat → Int32} {n j : Nat} (h : ∀ k0, k0 < n → ∃ v0 : Nat, v0 ≤ 9 ∧ f k0 = nI v0) (hj : j ≤ 9) : ∀ k0, k0 < n + 1 → ∃ v0 : Nat, v0 ≤ 9 ∧ (if k0 = n then nI j else f k0) = nI v0 := by
  intro k hk
  by_cases e : k = n
  · exact ⟨j, hj, if_pos e⟩
  · obtain ⟨v, hv, e2⟩ := h k (by omega)
    exact ⟨v, hv, by rw [if_neg e]; exact e2⟩
end mg19a
section mg19a

noncomputable abbrev VS := (Nat) × (Nat) × (Nat) × (Int32) × (Int32) × (Nat → Int32) × (Nat → Int32) × (Nat → Int32) × (Nat) × (Nat) × (Nat → Nat) × (List pCla) × (Nat)
theorem u_eq {ik : Int32} {a b k : VS} {l : List Nat} (h : b = a) : (ik, a, k, l) = (ik, b, k, l) := by rw [h]
theorem hp_lt {r s : Int32} (h : r = s) (hn : r < 0) : s < 0 := h ▸ hn
theorem hp_ge {r s : Int32} (h : r = s) (hn : ¬ r < 0) : ¬ s < 0 := h ▸ hn
/-- what heap makes of what is visible -/
noncomputable def hpF (vs : VS) (x y z : Int32) : VS := if hpR (vs.1) (vs.2.2.2.2.2.2.2.1) x y z < 0 then vs else (vs.1 + 1, vs.2.1, vs.2.2.1, vs.2.2.2.1, vs.2.2.2.2.1, fun k => if k = vs.1 then x else vs.2.2.2.2.2.1 k, fun k => if k = vs.1 then y else vs.2.2.2.2.2.2.1 k, fun k => if k = vs.1 then z else vs.2.2.2.2.2.2.2.1 k, vs.2.2.2.2.2.2.2.2.1, vs.2.2.2.2.2.2.2.2.2.1, vs.2.2.2.2.2.2.2.2.2.2.1, vs.2.2.2.2.2.2.2.2.2.2.2.1, vs.2.2.2.2.2.2.2.2.2.2.2.2)
theorem hpF_no {vs : VS} {x y z : Int32} (h : hpR (vs.1) (vs.2.2.2.2.2.2.2.1) x y z < 0) : hpF vs x y z = vs := if_pos h
theorem hpF_yes {vs : VS} {x y z : Int32} (h : ¬ hpR (vs.1) (vs.2.2.2.2.2.2.2.1) x y z < 0) : hpF vs x y z = (vs.1 + 1, vs.2.1, vs.2.2.1, vs.2.2.2.1, vs.2.2.2.2.1, fun k => if k = vs.1 then x else vs.2.2.2.2.2.1 k, fun k => if k = vs.1 then y else vs.2.2.2.2.2.2.1 k, fun k => if k = vs.1 then z else vs.2.2.2.2.2.2.2.1 k, vs.2.2.2.2.2.2.2.2.1, vs.2.2.2.2.2.2.2.2.2.1, vs.2.2.2.2.2.2.2.2.2.2.1, vs.2.2.2.2.2.2.2.2.2.2.2.1, vs.2.2.2.2.2.2.2.2.2.2.2.2) := if_neg h
/-- what feed and hill make of what is visible -/
noncomputable def fdF (vs : VS) (x : Int32) : VS := if fdR (vs.2.2.2.2.2.2.2.2.2.1) x < 0 then vs else (vs.1, vs.2.1, vs.2.2.1, vs.2.2.2.1, vs.2.2.2.2.1, vs.2.2.2.2.2.1, vs.2.2.2.2.2.2.1, vs.2.2.2.2.2.2.2.1, vs.2.2.2.2.2.2.2.2.1, vs.2.2.2.2.2.2.2.2.2.1 + 1, fun k => if k = vs.2.2.2.2.2.2.2.2.2.1 then x.toNatClampNeg else vs.2.2.2.2.2.2.2.2.2.2.1 k, vs.2.2.2.2.2.2.2.2.2.2.2.1, vs.2.2.2.2.2.2.2.2.2.2.2.2)
theorem fdF_no {vs : VS} {x : Int32} (h : fdR (vs.2.2.2.2.2.2.2.2.2.1) x < 0) : fdF vs x = vs := if_pos h
theorem fdF_yes {vs : VS} {x : Int32} (h : ¬ fdR (vs.2.2.2.2.2.2.2.2.2.1) x < 0) : fdF vs x = (vs.1, vs.2.1, vs.2.2.1, vs.2.2.2.1, vs.2.2.2.2.1, vs.2.2.2.2.2.1, vs.2.2.2.2.2.2.1, vs.2.2.2.2.2.2.2.1, vs.2.2.2.2.2.2.2.2.1, vs.2.2.2.2.2.2.2.2.2.1 + 1, fun k => if k = vs.2.2.2.2.2.2.2.2.2.1 then x.toNatClampNeg else vs.2.2.2.2.2.2.2.2.2.2.1 k, vs.2.2.2.2.2.2.2.2.2.2.2.1, vs.2.2.2.2.2.2.2.2.2.2.2.2) := if_neg h
noncomputable def hlR (nh ts : Nat) (tc : Nat → Nat) : Int32 := if nh = 5 then -4 else match pHl tc ts with
  | (none, q) => -10 - nI q
  | (some _, _) => nI nh
noncomputable def hlF (vs : VS) : VS := if vs.2.2.2.2.2.2.2.2.1 = 5 then vs else match pHl (vs.2.2.2.2.2.2.2.2.2.2.1) (vs.2.2.2.2.2.2.2.2.2.1) with
  | (none, _) => (vs.1, vs.2.1, vs.2.2.1, vs.2.2.2.1, vs.2.2.2.2.1, vs.2.2.2.2.2.1, vs.2.2.2.2.2.2.1, vs.2.2.2.2.2.2.2.1, vs.2.2.2.2.2.2.2.2.1, 0, fun _ => 0, vs.2.2.2.2.2.2.2.2.2.2.2.1, vs.2.2.2.2.2.2.2.2.2.2.2.2)
  | (some C, _) => (vs.1, vs.2.1, vs.2.2.1, vs.2.2.2.1, vs.2.2.2.2.1, vs.2.2.2.2.2.1, vs.2.2.2.2.2.2.1, vs.2.2.2.2.2.2.2.1, vs.2.2.2.2.2.2.2.2.1 + 1, 0, fun _ => 0, C, vs.2.2.2.2.2.2.2.2.2.2.2.2)
theorem hlR_5 {nh ts : Nat} {tc : Nat → Nat} (h : nh = 5) : -4 = hlR nh ts tc := by rw [hlR, if_pos h]
theorem hlR_b {nh ts q : Nat} {tc : Nat → Nat} (h : ¬ nh = 5) (e : pHl tc ts = (none, q)) : -10 - nI q = hlR nh ts tc := by rw [hlR, if_neg h, e]
theorem hlR_g {nh ts q : Nat} {tc : Nat → Nat} {C : List pCla} (h : ¬ nh = 5) (e : pHl tc ts = (some C, q)) : nI nh = hlR nh ts tc := by rw [hlR, if_neg h, e]
theorem hlF_5 {vs : VS} (h : vs.2.2.2.2.2.2.2.2.1 = 5) : hlF vs = vs := by rw [hlF, if_pos h]
theorem hlF_b {vs : VS} {q : Nat} (h : ¬ vs.2.2.2.2.2.2.2.2.1 = 5) (e : pHl (vs.2.2.2.2.2.2.2.2.2.2.1) (vs.2.2.2.2.2.2.2.2.2.1) = (none, q)) : hlF vs = (vs.1, vs.2.1, vs.2.2.1, vs.2.2.2.1, vs.2.2.2.2.1, vs.2.2.2.2.2.1, vs.2.2.2.2.2.2.1, vs.2.2.2.2.2.2.2.1, vs.2.2.2.2.2.2.2.2.1, 0, fun _ => 0, vs.2.2.2.2.2.2.2.2.2.2.2.1, vs.2.2.2.2.2.2.2.2.2.2.2.2) := by rw [hlF, if_neg h, e]
theorem hlF_g {vs : VS} {q : Nat} {C : List pCla} (h : ¬ vs.2.2.2.2.2.2.2.2.1 = 5) (e : pHl (vs.2.2.2.2.2.2.2.2.2.2.1) (vs.2.2.2.2.2.2.2.2.2.1) = (some C, q)) : hlF vs = (vs.1, vs.2.1, vs.2.2.1, vs.2.2.2.1, vs.2.2.2.2.1, vs.2.2.2.2.2.1, vs.2.2.2.2.2.2.1, vs.2.2.2.2.2.2.2.1, vs.2.2.2.2.2.2.2.2.1 + 1, 0, fun _ => 0, C, vs.2.2.2.2.2.2.2.2.2.2.2.2) := by rw [hlF, if_neg h, e]
theorem TX_nil {f : Nat → Int32} : TX f 0 (fun _ => 0) := ⟨fun p hp => absurd hp (Nat.not_lt_zero p), fun _ _ => rfl, fun _ => (show (0 : Nat) < 128 by decide)⟩
theorem TX_of {f g : Nat → Int32} {E : Nat} {ss : Nat → Nat} (h : TX f E ss) (he : ∀ p, p < E → g p = f p) : TX g E ss := ⟨fun p hp => (he p hp).trans (h.1 p hp), h.2⟩
theorem cl_127 {x : Int32} (h1 : ¬ x < 0) (h2 : ¬ 127 < x) : x = nI x.toNatClampNeg ∧ x.toNatClampNeg < 128 := by
  obtain ⟨j, hj, rfl⟩ := nI_of2 (n := 127) (M := 127) (x := x) rfl h1 (Int32.not_lt.mp h2)
  rw [nI_clamp (by omega)]
  exact ⟨rfl, by omega⟩
theorem ss_add {E : Nat} {ss : Nat → Nat} {x : Int32} (h : (∀ p, E ≤ p → ss p = 0) ∧ ∀ p, ss p < 128) (h1 : ¬ x < 0) (h2 : ¬ 127 < x) : (∀ p, E + 1 ≤ p → (fun k => if k = E then x.toNatClampNeg else ss k) p = 0) ∧ ∀ p, (fun k => if k = E then x.toNatClampNeg else ss k) p < 128 := by
  refine ⟨fun p hp => ?_, fun p => ?_⟩
  · show (if p = E then x.toNatClampNeg else ss p) = 0
    rw [if_neg (by omega)]; exact h.1 p (by omega)
  · show (if p = E then x.toNatClampNeg else ss p) < 128
    split
    · exact (cl_127 h1 h2).2
    · exact h.2 p
theorem TX_add {f : Nat → Int32} {E : Nat} {ss : Nat → Nat} {x : Int32} (h : TX f E ss) (h1 : ¬ x < 0) (h2 : ¬ 127 < x) : TX (upd f E x) (E + 1) (fun k => if k = E then x.toNatClampNeg else ss k) := by
  refine ⟨fun p hp => ?_, ss_add h.2 h1 h2⟩
  by_cases q : p = E
  · subst q
    rw [pk_us]
    show x = nI (if p = p then x.toNatClampNeg else ss p)
    rw [if_pos rfl]; exact (cl_127 h1 h2).1
  · rw [pk_un q]
    show f p = nI (if p = E then x.toNatClampNeg else ss p)
    rw [if_neg q]; exact h.1 p (by omega)
theorem TP_nil {f : Nat → Int32} : TP f 0 (fun _ => 0) := ⟨fun p hp => absurd hp (Nat.not_lt_zero p), fun _ _ => rfl, fun _ => (show (0 : Nat) < 128 by decide)⟩
theorem TP_add {f : Nat → Int32} {E : Nat} {ss : Nat → Nat} {x v : Int32} (h : TP f E ss) (h1 : ¬ x < 0) (h2 : ¬ 127 < x) : TP (upd (upd f (91 + E) x) 4 v) (E + 1) (fun k => if k = E then x.toNatClampNeg else ss k) := by
  refine ⟨fun p hp => ?_, ss_add h.2 h1 h2⟩
  rw [pk_un (by omega)]
  by_cases q : p = E
  · subst q
    rw [pk_us]
    show x = nI (if p = p then x.toNatClampNeg else ss p)
    rw [if_pos rfl]; exact (cl_127 h1 h2).1
  · rw [pk_un (by omega)]
    show f (91 + p) = nI (if p = E then x.toNatClampNeg else ss p)
    rw [if_neg q]; exact h.1 p (by omega)
noncomputable def okS (ts nh n wz bz : Nat) (fHs : Nat → Option Nat) (ya : Nat → Nat) (yk yv fWk fBk : Nat → Int32) (yi : Nat → Nat) (fTp : Nat → Int32) (tc : Nat → Nat) (ee : Nat) (mi : Int32) (yc : Nat → Int32) : Prop := ts ≤ 100 ∧ nh ≤ 5 ∧ n ≤ 8 ∧ wz ≤ 6 ∧ bz ≤ 12 ∧ (∀ k0, k0 < n → fHs k0 = some (ya k0)) ∧ (∀ k0, n ≤ k0 → k0 < 8 → fHs k0 = none) ∧ (∀ k0, k0 < n → ∃ v0 : Nat, v0 < 7 ∧ yk k0 = nI v0) ∧ (∀ k0, k0 < n → ∃ v0 : Nat, v0 ≤ 9 ∧ yv k0 = nI v0) ∧ (∀ k0, k0 < 6 → ∃ w0 : Nat, w0 < 8 ∧ fWk k0 = nI w0) ∧ (∀ k0, k0 < 12 → ∃ w0 : Nat, w0 < 8 ∧ fBk k0 = nI w0) ∧ (∀ k0, k0 < n → hpT (yi k0) (yk k0)) ∧ TX fTp ts tc ∧ ee < 2 ^ 36 ∧ mb mi ∧ ∀ k0, k0 < n → ∃ v0 : Nat, v0 < 36 ∧ yc k0 = nI v0
noncomputable def okH (cl : Nat) (fbE fbC : Nat → Int32) (sg : Int32) (fbW fbA : Nat → Int32) (hC : List pCla) : Prop := cl ≤ 10 ∧ (∀ k0, k0 < 10 → ∃ e0 : Nat, e0 ≤ 100 ∧ fbE k0 = nI e0) ∧ (∀ k0, k0 < 100 → okC (fbC k0)) ∧ HC cl sg fbW fbA fbE fbC hC ∧ WfC hC
noncomputable def okLB (ad : Nat → Nat) (bS bo : Nat) (T : List (ClassId × FieldType)) (LB : va_W) (tl : List Nat) : Prop := (∃ mdc : Int32, LB = [(zo1iri bo mdc bS 0)] ∧ tl = []) ∨ ∃ (mdc : Int32) (aEl : Nat) (cEl : ClassId) (sz_ : Nat) (fEl : Nat → Option Nat), LB = [(zo1iri bo mdc aEl (nI sz_)), (zaR aEl cEl 10 fEl)] ∧ (cEl, FieldType.object "java/lang/Object") ∈ T ∧ sz_ ≤ 10 ∧ okL ad fEl sz_ tl
set_option maxHeartbeats 4000000 in
set_option maxRecDepth 100000 in
/-- what holds of the class's object between two calls -/
noncomputable def XI (dC : Nat → ClassId) (dI : Nat → Nat → Nat) (ad : Nat → Nat) (bS : Nat) (Y : Nat → Prop) (ik : Int32) (vs kvs : VS) (tl : List Nat) (T : List (ClassId × FieldType)) (h0 : Nat) (X : va_W) (H : Heap) : Prop := ∀ M9 : Prop, (∀ (sc : Nat) (kp : Nat) (bl : Nat) (go : Nat) (ch : Nat) (bo : Nat) (aTp : Nat) (ts : Nat) (aHl : Nat) (nh : Nat) (ee : Nat) (mi : Int32) (sn : Int32) (aHs : Nat) (n : Nat) (aWk : Nat) (wz : Nat) (aBk : Nat) (bz : Nat) (aFc : Nat) (cTp : ClassId) (fTp : Nat → Int32) (cHs : ClassId) (fHs : Nat → Option Nat) (cWk : ClassId) (fWk : Nat → Int32) (cBk : ClassId) (fBk : Nat → Int32) (cFc : ClassId) (fFc : Nat → Int32) (kTp : Nat) (kts : Nat) (kHl : Nat) (knh : Nat) (kee : Nat) (kmi : Int32) (ksn : Int32) (kHs : Nat) (kn : Nat) (kWk : Nat) (kwz : Nat) (kBk : Nat) (kbz : Nat) (kFc : Nat) (kcTp : ClassId) (kfTp : Nat → Int32) (kcHs : ClassId) (kfHs : Nat → Option Nat) (kcWk : ClassId) (kfWk : Nat → Int32) (kcBk : ClassId) (kfBk : Nat → Int32) (kcFc : ClassId) (kfFc : Nat → Int32) (esg : Int32) (ecl : Nat) (eW : Nat) (eA : Nat) (eE : Nat) (eC : Nat) (cdd : Int32) (etv : Value) (szz : Int32) (att : Int32) (em : Nat) (ceW : ClassId) (feW : Nat → Int32) (ceA : ClassId) (feA : Nat → Int32) (ceE : ClassId) (feE : Nat → Int32) (ceC : ClassId) (feC : Nat → Int32) (gR : Nat) (gO : Nat) (lk : Nat) (gS : Nat) (cR : ClassId) (fR : Nat → Int32) (cO : ClassId) (fO : Nat → Int32) (i0 : Nat) (scl : Int32) (ft : Int64) (fr : Int32) (dr : Nat) (tO : Nat) (hO : Nat) (cD : ClassId) (fD : Nat → Int32) (cTO : ClassId) (rt : Nat → Nat) (cT : ClassId) (ft0 : Nat → Int64) (ft1 : Nat → Int64) (ft2 : Nat → Int64) (cHO : ClassId) (rh : Nat → Nat) (cH : ClassId) (g0 : Nat → Int32) (g1 : Nat → Int32) (g2 : Nat → Int32) (g3 : Nat → Int32) (g4 : Nat → Int32) (g5 : Nat → Int32) (g6 : Nat → Int32) (g7 : Nat → Int32) (sg : Int32) (cl : Nat) (bW : Nat) (bA : Nat) (bE : Nat) (bC : Nat) (hcd : Int32) (tpv : Value) (hsz : Int32) (hat : Int32) (nmb : Int32) (cbW : ClassId) (fbW : Nat → Int32) (cbA : ClassId) (fbA : Nat → Int32) (cbE : ClassId) (fbE : Nat → Int32) (cbC : ClassId) (fbC : Nat → Int32) (ksg : Int32) (kcl : Nat) (kbW : Nat) (kbA : Nat) (kbE : Nat) (kbC : Nat) (khcd : Int32) (ktpv : Value) (khsz : Int32) (khat : Int32) (knmb : Int32) (kcbW : ClassId) (kfbW : Nat → Int32) (kcbA : ClassId) (kfbA : Nat → Int32) (kcbE : ClassId) (kfbE : Nat → Int32) (kcbC : ClassId) (kfbC : Nat → Int32) (yi : Nat → Nat) (ya : Nat → Nat) (yk : Nat → Int32) (yv : Nat → Int32) (yc : Nat → Int32) (kyi : Nat → Nat) (kya : Nat → Nat) (kyk : Nat → Int32) (kyv : Nat → Int32) (kyc : Nat → Int32) (tc : Nat → Nat) (ktc : Nat → Nat) (hC : List pCla) (khC : List pCla) (LB : va_W), X = [(zo13rrirrrr h0 sc kp ik bl go ch bo), (zo10ririliiriririr sc aTp (nI ts) aHl (nI nh) (lN ee) mi sn aHs (nI n) aWk (nI wz) aBk (nI bz) aFc), (zaI aTp cTp 100 fTp), (zaR aHs cHs 8 fHs), (zaI aWk cWk 6 fWk), (zaI aBk cBk 12 fBk), (zaI aFc cFc 6 fFc), (zo10ririliiriririr kp kTp (nI kts) kHl (nI knh) (lN kee) kmi ksn kHs (nI kn) kWk (nI kwz) kBk (nI kbz) kFc), (zaI kTp kcTp 100 kfTp), (zaR kHs kcHs 8 kfHs), (zaI kWk kcWk 6 kfWk), (zaI kBk kcBk 12 kfBk), (zaI kFc kcFc 6 kfFc), (zo7iirrrriviii bl esg (nI ecl) eW eA eE eC cdd etv szz att (nI em)), (zaI eW ceW 10 feW), (zaI eA ceA 10 feA), (zaI eE ceE 10 feE), (zaI eC ceC 100 feC), (zo4rrir go gR gO (nI lk) gS), (zaI gR cR 8 fR), (zaI gO cO 8 fO), (zo5iiii gS 0 (nI i0) 0 scl), (zo2lirrr ch ft fr dr tO hO), (zaI dr cD 36 fD), (zaR tO cTO 3 (fun i => if i < 3 then some (rt i) else none)), (zaL (rt 0) cT 36 ft0), (zaL (rt 1) cT 36 ft1), (zaL (rt 2) cT 36 ft2), (zaR hO cHO 8 (fun i => if i < 8 then some (rh i) else none)), (zaI (rh 0) cH 36 g0), (zaI (rh 1) cH 36 g1), (zaI (rh 2) cH 36 g2), (zaI (rh 3) cH 36 g3), (zaI (rh 4) cH 36 g4), (zaI (rh 5) cH 36 g5), (zaI (rh 6) cH 36 g6), (zaI (rh 7) cH 36 g7)] ++ LB → okLB ad bS bo T LB tl → va_P (dC, dI) vwCl X H → va_D (fun _ => True) X → (∀ p ∈ ([(cTp, .int), (cHs, .object "MistHeaps$Heap"), (cWk, .int), (cBk, .int), (cFc, .int), (kcTp, .int), (kcHs, .object "MistHeaps$Heap"), (kcWk, .int), (kcBk, .int), (kcFc, .int), (ceW, .int), (ceA, .int), (ceE, .int), (ceC, .int), (cR, .int), (cO, .int), (cD, .int), (cTO, .array .long), (cT, .long), (cT, .long), (cT, .long), (cHO, .array .int), (cH, .int), (cH, .int), (cH, .int), (cH, .int), (cH, .int), (cH, .int), (cH, .int), (cH, .int)] : List (ClassId × FieldType)), p ∈ T) → (∀ p ∈ ([(cbW, .int), (cbA, .int), (cbE, .int), (cbC, .int)] : List (ClassId × FieldType)), p ∈ T) → (∀ p ∈ ([(kcbW, .int), (kcbA, .int), (kcbE, .int), (kcbC, .int)] : List (ClassId × FieldType)), p ∈ T) → okS ts nh n wz bz fHs ya yk yv fWk fBk yi fTp tc ee mi yc → okS kts knh kn kwz kbz kfHs kya kyk kyv kfWk kfBk kyi kfTp ktc kee kmi kyc → lk ≤ 8 → okH cl fbE fbC sg fbW fbA hC → okH kcl kfbE kfbC ksg kfbW kfbA khC → (ecl ≤ 10 ∧ em ≤ 99 ∧ (∀ k0, k0 < 10 → ∃ e0 : Nat, e0 ≤ 100 ∧ feE k0 = nI e0) ∧ ∀ k0, k0 < 100 → okC (feC k0)) → FzX dC dI [(zo7iirrrriviii aHl sg (nI cl) bW bA bE bC hcd tpv hsz hat nmb), (zaI bW cbW 10 fbW), (zaI bA cbA 10 fbA), (zaI bE cbE 10 fbE), (zaI bC cbC 100 fbC)] X Y H → FzX dC dI [(zo7iirrrriviii kHl ksg (nI kcl) kbW kbA kbE kbC khcd ktpv khsz khat knmb), (zaI kbW kcbW 10 kfbW), (zaI kbA kcbA 10 kfbA), (zaI kbE kcbE 10 kfbE), (zaI kbC kcbC 100 kfbC)] X Y H → HsX dC dI n yi ya yk yv yc X Y H → HsX dC dI kn kyi kya kyk kyv kyc X Y H → (n, wz, bz, mi, sn, yk, yv, yc, nh, ts, tc, hC, ee) = vs → (kn, kwz, kbz, kmi, ksn, kyk, kyv, kyc, knh, kts, ktc, khC, kee) = kvs → M9) → M9
noncomputable def GA (gd : Nat → Nat) (kA : Nat) (ad : Nat → Nat) (cB bS : Nat) (sK sV : Nat → Nat) (A : Nat → Prop) (U : State) : Prop := Gl gd A U ∧ Gw A U ∧ Gn kA A U ∧ Gi ad cB bS A U ∧ Gb A U ∧ Gc bS A U ∧ Gs sK sV A U
theorem GA.same {gd : Nat → Nat} {kA : Nat} {ad : Nat → Nat} {cB bS : Nat} {sK sV : Nat → Nat} {A : Nat → Prop} {u U : State} (h : GA gd kA ad cB bS sK sV A u) (hvm : u.vm = U.vm) (hh : U.heap = u.heap) : GA gd kA ad cB bS sK sV A U := ⟨h.1.same hvm hh, h.2.1.same hvm hh, h.2.2.1.same hvm hh, h.2.2.2.1.same hvm hh, h.2.2.2.2.1.same hvm hh, h.2.2.2.2.2.1.same hvm hh, h.2.2.2.2.2.2.same hvm hh⟩
theorem GA.mv {gd : Nat → Nat} {kA : Nat} {ad : Nat → Nat} {cB bS : Nat} {sK sV : Nat → Nat} {A : Nat → Prop} {U : State} (g : _) (mk : _) (a : _) (h : GA gd kA ad cB bS sK sV A U) : GA gd kA ad cB bS sK sV A (U.calling g mk a) := h.same rfl rfl
theorem GA.call {gd : Nat → Nat} {kA : Nat} {ad : Nat → Nat} {cB bS : Nat} {sK sV : Nat → Nat} {A B : Nat → Prop} {s U : State} {H : Heap} {locs : List Loc} (h : GA gd kA ad cB bS sK sV A s) (hS : va_S A s.heap H locs) (hU : U.heap = H) (hW : s.WarmedH U.vm) (hB : ∀ q, B q → A q) : GA gd kA ad cB bS sK sV B U := ⟨h.1.call hS hU hW hB, h.2.1.call hS hU hW hB, h.2.2.1.call hS hU hW hB, h.2.2.2.1.call hS hU hW hB, h.2.2.2.2.1.call hS hU hW hB, h.2.2.2.2.2.1.call hS hU hW hB, h.2.2.2.2.2.2.call hS hU hW hB⟩
theorem GA.narrow {gd : Nat → Nat} {kA : Nat} {ad : Nat → Nat} {cB bS : Nat} {sK sV : Nat → Nat} {A B : Nat → Prop} {s : State} (h : GA gd kA ad cB bS sK sV A s) (hB : ∀ q, B q → A q) : GA gd kA ad cB bS sK sV B s := h.call va_S.rf rfl (State.WarmedH.refl s) hB
end mg19a
section mg19a

set_option maxHeartbeats 4000000 in
set_option maxRecDepth 100000 in
theorem w_told (l : Launch) (dC : Nat → ClassId) (dI : Nat → Nat → Nat) (gd : Nat → Nat) (kA : Nat) (ad : Nat → Nat) (cB bS : Nat) (sK sV : Nat → Nat) (Y : Nat → Prop) (ik : Int32) (vs kvs : VS) (tl : List Nat) (T : List (ClassId × FieldType)) (h0 : Nat) (X : va_W) (x : Int32) (sz : Nat) : Met l yX11_told wsX11_told ({ frames := 1, cells := 0, slots := 0, locals := 21 } : Room) (va_Pc [.ref h0, .int x] (fun U => U.heap.size = sz ∧ XI dC dI ad bS Y ik vs kvs tl T h0 X U.heap ∧ va_K (dC, dI) vwCl T U ∧ (∀ c ∈ X, ¬ Y c.1) ∧ (∀ q, sz ≤ q → ¬ Y q) ∧ GA gd kA ad cB bS sK sV (va_A X sz) U)) (va_Qi (fun (r : Int32) (u : Int32 × VS × VS × List Nat) => r = tdR (vs.2.2.2.1) (vs.2.2.2.2.1) (sgC (vs.2.2.2.2.2.2.2.2.2.2.2.1)) (vs.2.2.2.2.2.2.2.2.2.2.2.2) x ∧ u = (ik, vs, kvs, tl)) (fun (u : Int32 × VS × VS × List Nat) (t : State) => ∃ (X1 : va_W) (T1 : List (ClassId × FieldType)), XI dC dI ad bS Y u.1 u.2.1 u.2.2.1 u.2.2.2 T1 h0 X1 t.heap ∧ va_D (va_A X sz) X1 ∧ ∀ p ∈ T1, p ∈ T ∨ va_K (dC, dI) vwCl [p] t) (va_A X sz)) 0 0 (va_A X sz) := by
  refine met_wrap (fun args s hPc => ?_)
  obtain ⟨rfl, rfl, hXI, hK, hY1, hY2, hGA⟩ := hPc
  have hXI0 := hXI
  refine hXI _ (fun sc kp bl go ch bo aTp ts aHl nh ee mi sn aHs n aWk wz aBk bz aFc cTp fTp cHs fHs cWk fWk cBk fBk cFc fFc kTp kts kHl knh kee kmi ksn kHs kn kWk kwz kBk kbz kFc kcTp kfTp kcHs kfHs kcWk kfWk kcBk kfBk kcFc kfFc esg ecl eW eA eE eC cdd etv szz att em ceW feW ceA feA ceE feE ceC feC gR gO lk gS cR fR cO fO i0 scl ft fr dr tO hO cD fD cTO rt cT ft0 ft1 ft2 cHO rh cH g0 g1 g2 g3 g4 g5 g6 g7 sg cl bW bA bE bC hcd tpv hsz hat nmb cbW fbW cbA fbA cbE fbE cbC fbC ksg kcl kbW kbA kbE kbC khcd ktpv khsz khat knmb kcbW kfbW kcbA kfbA kcbE kfbE kcbC kfbC yi ya yk yv yc kyi kya kyk kyv kyc tc ktc hC khC LB hX hLB hP hD hTF hTH hTK hq1 hq2 hlk hq3 hq4 hq5 hZ hZk hHs hHk hvs hkv => ?_)
  subst hvs
  subst hkv
  obtain ⟨oTs, oNh, oN, oWz, oBz, oHs, oHn, oYk, oYv, oWk, oBk, oYt, oTx, oEe, oMi, oYc⟩ := hq1
  obtain ⟨koTs, koNh, koN, koWz, koBz, koHs, koHn, koYk, koYv, koWk, koBk, koYt, koTx, koEe, koMi, koYc⟩ := hq2
  obtain ⟨zcl, zE, zC, zH⟩ := hq3
  obtain ⟨kzcl, kzE, kzC, kzH⟩ := hq4
  obtain ⟨hcl, hem, zeE, zeC⟩ := hq5
  subst hX
  have hwc := bl_mem (G := [(zo13rrirrrr h0 sc kp ik bl go ch bo), (zo10ririliiriririr sc aTp (nI ts) aHl (nI nh) (lN ee) mi sn aHs (nI n) aWk (nI wz) aBk (nI bz) aFc), (zaI aTp cTp 100 fTp), (zaR aHs cHs 8 fHs), (zaI aWk cWk 6 fWk), (zaI aBk cBk 12 fBk), (zaI aFc cFc 6 fFc), (zo10ririliiriririr kp kTp (nI kts) kHl (nI knh) (lN kee) kmi ksn kHs (nI kn) kWk (nI kwz) kBk (nI kbz) kFc), (zaI kTp kcTp 100 kfTp), (zaR kHs kcHs 8 kfHs), (zaI kWk kcWk 6 kfWk), (zaI kBk kcBk 12 kfBk), (zaI kFc kcFc 6 kfFc), (zo7iirrrriviii bl esg (nI ecl) eW eA eE eC cdd etv szz att (nI em)), (zaI eW ceW 10 feW), (zaI eA ceA 10 feA), (zaI eE ceE 10 feE), (zaI eC ceC 100 feC), (zo4rrir go gR gO (nI lk) gS), (zaI gR cR 8 fR), (zaI gO cO 8 fO), (zo5iiii gS 0 (nI i0) 0 scl), (zo2lirrr ch ft fr dr tO hO), (zaI dr cD 36 fD), (zaR tO cTO 3 (fun i => if i < 3 then some (rt i) else none)), (zaL (rt 0) cT 36 ft0), (zaL (rt 1) cT 36 ft1), (zaL (rt 2) cT 36 ft2), (zaR hO cHO 8 (fun i => if i < 8 then some (rh i) else none)), (zaI (rh 0) cH 36 g0), (zaI (rh 1) cH 36 g1), (zaI (rh 2) cH 36 g2), (zaI (rh 3) cH 36 g3), (zaI (rh 4) cH 36 g4), (zaI (rh 5) cH 36 g5), (zaI (rh 6) cH 36 g6), (zaI (rh 7) cH 36 g7)]) (F := [(zo13rrirrrr h0 sc kp ik bl go ch bo), (zo10ririliiriririr sc aTp (nI ts) aHl (nI nh) (lN ee) mi sn aHs (nI n) aWk (nI wz) aBk (nI bz) aFc)]) (T := LB) [0, 1] rfl
  have hPc := bl_sub (F := [(zo13rrirrrr h0 sc kp ik bl go ch bo), (zo10ririliiriririr sc aTp (nI ts) aHl (nI nh) (lN ee) mi sn aHs (nI n) aWk (nI wz) aBk (nI bz) aFc)]) hP [0, 1] rfl
  refine ⟨_, _, _, c_xTold l dC dI h0 sc kp bl go ch bo aTp aHl aHs aWk aBk aFc bW bA bE bC ts nh n wz bz cl mi sn sg hcd hsz hat nmb ik x cbW cbA cbE cbC fbW fbA fbE fbC tpv ee hC oEe zH.1.2.1, ⟨rfl, hPc, (K_mem hK hTF).sub [] rfl, hZ.atF (K_mem hK hTH)⟩, fun o t hQ => ?_, fun q hq => hq.elim⟩
  obtain ⟨r, rfl, hpost, hh⟩ := hQ
  refine ⟨⟨r, (ik, (n, wz, bz, mi, sn, yk, yv, yc, nh, ts, tc, hC, ee), (kn, kwz, kbz, kmi, ksn, kyk, kyv, kyc, knh, kts, ktc, khC, kee), tl), rfl, ⟨hpost, rfl⟩, _, T, by rw [hh]; exact hXI0, ⟨hD.1, fun k q hq => Or.inl ⟨k, q.2, hq⟩⟩, fun p hp => Or.inl hp⟩, by rw [hh]; exact Nat.le_refl _, fun q _ _ => by rw [hh]⟩
end mg19a
section mg19a

set_option maxHeartbeats 4000000 in
set_option maxRecDepth 100000 in
theorem w_feed (l : Launch) (dC : Nat → ClassId) (dI : Nat → Nat → Nat) (gd : Nat → Nat) (kA : Nat) (ad : Nat → Nat) (cB bS : Nat) (sK sV : Nat → Nat) (Y : Nat → Prop) (ik : Int32) (vs kvs : VS) (tl : List Nat) (T : List (ClassId × FieldType)) (h0 : Nat) (X : va_W) (x : Int32) (sz : Nat) : Met l yX11_feed wsX11_feed ({ frames := 0, cells := 0, slots := 0, locals := 0 } : Room) (va_Pc [.ref h0, .int x] (fun U => U.heap.size = sz ∧ XI dC dI ad bS Y ik vs kvs tl T h0 X U.heap ∧ va_K (dC, dI) vwCl T U ∧ (∀ c ∈ X, ¬ Y c.1) ∧ (∀ q, sz ≤ q → ¬ Y q) ∧ GA gd kA ad cB bS sK sV (va_A X sz) U)) (va_Qi (fun (r : Int32) (u : Int32 × VS × VS × List Nat) => r = fdR (vs.2.2.2.2.2.2.2.2.2.1) x ∧ u = (ik, fdF vs x, kvs, tl)) (fun (u : Int32 × VS × VS × List Nat) (t : State) => ∃ (X1 : va_W) (T1 : List (ClassId × FieldType)), XI dC dI ad bS Y u.1 u.2.1 u.2.2.1 u.2.2.2 T1 h0 X1 t.heap ∧ va_D (va_A X sz) X1 ∧ ∀ p ∈ T1, p ∈ T ∨ va_K (dC, dI) vwCl [p] t) (va_A X sz)) 0 0 (va_A X sz) := by
  refine met_wrap (fun args s hPc => ?_)
  obtain ⟨rfl, rfl, hXI, hK, hY1, hY2, hGA⟩ := hPc
  have hXI0 := hXI
  refine hXI _ (fun sc kp bl go ch bo aTp ts aHl nh ee mi sn aHs n aWk wz aBk bz aFc cTp fTp cHs fHs cWk fWk cBk fBk cFc fFc kTp kts kHl knh kee kmi ksn kHs kn kWk kwz kBk kbz kFc kcTp kfTp kcHs kfHs kcWk kfWk kcBk kfBk kcFc kfFc esg ecl eW eA eE eC cdd etv szz att em ceW feW ceA feA ceE feE ceC feC gR gO lk gS cR fR cO fO i0 scl ft fr dr tO hO cD fD cTO rt cT ft0 ft1 ft2 cHO rh cH g0 g1 g2 g3 g4 g5 g6 g7 sg cl bW bA bE bC hcd tpv hsz hat nmb cbW fbW cbA fbA cbE fbE cbC fbC ksg kcl kbW kbA kbE kbC khcd ktpv khsz khat knmb kcbW kfbW kcbA kfbA kcbE kfbE kcbC kfbC yi ya yk yv yc kyi kya kyk kyv kyc tc ktc hC khC LB hX hLB hP hD hTF hTH hTK hq1 hq2 hlk hq3 hq4 hq5 hZ hZk hHs hHk hvs hkv => ?_)
  subst hvs
  subst hkv
  obtain ⟨oTs, oNh, oN, oWz, oBz, oHs, oHn, oYk, oYv, oWk, oBk, oYt, oTx, oEe, oMi, oYc⟩ := hq1
  obtain ⟨koTs, koNh, koN, koWz, koBz, koHs, koHn, koYk, koYv, koWk, koBk, koYt, koTx, koEe, koMi, koYc⟩ := hq2
  obtain ⟨zcl, zE, zC, zH⟩ := hq3
  obtain ⟨kzcl, kzE, kzC, kzH⟩ := hq4
  obtain ⟨hcl, hem, zeE, zeC⟩ := hq5
  subst hX
  have hwc := bl_mem (G := [(zo13rrirrrr h0 sc kp ik bl go ch bo), (zo10ririliiriririr sc aTp (nI ts) aHl (nI nh) (lN ee) mi sn aHs (nI n) aWk (nI wz) aBk (nI bz) aFc), (zaI aTp cTp 100 fTp), (zaR aHs cHs 8 fHs), (zaI aWk cWk 6 fWk), (zaI aBk cBk 12 fBk), (zaI aFc cFc 6 fFc), (zo10ririliiriririr kp kTp (nI kts) kHl (nI knh) (lN kee) kmi ksn kHs (nI kn) kWk (nI kwz) kBk (nI kbz) kFc), (zaI kTp kcTp 100 kfTp), (zaR kHs kcHs 8 kfHs), (zaI kWk kcWk 6 kfWk), (zaI kBk kcBk 12 kfBk), (zaI kFc kcFc 6 kfFc), (zo7iirrrriviii bl esg (nI ecl) eW eA eE eC cdd etv szz att (nI em)), (zaI eW ceW 10 feW), (zaI eA ceA 10 feA), (zaI eE ceE 10 feE), (zaI eC ceC 100 feC), (zo4rrir go gR gO (nI lk) gS), (zaI gR cR 8 fR), (zaI gO cO 8 fO), (zo5iiii gS 0 (nI i0) 0 scl), (zo2lirrr ch ft fr dr tO hO), (zaI dr cD 36 fD), (zaR tO cTO 3 (fun i => if i < 3 then some (rt i) else none)), (zaL (rt 0) cT 36 ft0), (zaL (rt 1) cT 36 ft1), (zaL (rt 2) cT 36 ft2), (zaR hO cHO 8 (fun i => if i < 8 then some (rh i) else none)), (zaI (rh 0) cH 36 g0), (zaI (rh 1) cH 36 g1), (zaI (rh 2) cH 36 g2), (zaI (rh 3) cH 36 g3), (zaI (rh 4) cH 36 g4), (zaI (rh 5) cH 36 g5), (zaI (rh 6) cH 36 g6), (zaI (rh 7) cH 36 g7)]) (F := [(zo13rrirrrr h0 sc kp ik bl go ch bo), (zo10ririliiriririr sc aTp (nI ts) aHl (nI nh) (lN ee) mi sn aHs (nI n) aWk (nI wz) aBk (nI bz) aFc), (zaI aTp cTp 100 fTp)]) (T := LB) [0, 1, 2] rfl
  have hPc := bl_sub (F := [(zo13rrirrrr h0 sc kp ik bl go ch bo), (zo10ririliiriririr sc aTp (nI ts) aHl (nI nh) (lN ee) mi sn aHs (nI n) aWk (nI wz) aBk (nI bz) aFc), (zaI aTp cTp 100 fTp)]) hP [0, 1, 2] rfl
  refine ⟨_, _, _, c_xFeed l dC dI h0 sc kp bl go ch bo aTp aHl aHs aWk aBk aFc ts nh n wz bz mi sn ik x (lN ee) cTp fTp s.heap.size oTs, ⟨rfl, rfl, hPc, (K_mem hK hTF).sub [0] rfl, bl_Dsub hD [0, 1, 2] (by decide) rfl⟩, fun o t hQ => ?_, fun q hq => bl_A hwc q hq⟩
  obtain ⟨⟨r, u9, rfl, hpost, hB⟩, hz, hkp⟩ := hQ
  obtain ⟨ts9, fTp9⟩ := u9
  try dsimp only at hpost hB
  obtain ⟨hP1, hK1, hD1⟩ := hB
  obtain ⟨hr9, hpost⟩ := hpost
  rcases hpost with ⟨hlt, e1, e2⟩ | ⟨hge, h100, hx0, hx1, e1, e2⟩
  · skip
    obtain rfl := e1.symm
    obtain rfl := e2.symm
    have hJ := bl_gen (F' := [(zo13rrirrrr h0 sc kp ik bl go ch bo), (zo10ririliiriririr sc aTp (nI ts) aHl (nI nh) (lN ee) mi sn aHs (nI n) aWk (nI wz) aBk (nI bz) aFc), (zaI aTp cTp 100 fTp), (zaR aHs cHs 8 fHs), (zaI aWk cWk 6 fWk), (zaI aBk cBk 12 fBk), (zaI aFc cFc 6 fFc), (zo10ririliiriririr kp kTp (nI kts) kHl (nI knh) (lN kee) kmi ksn kHs (nI kn) kWk (nI kwz) kBk (nI kbz) kFc), (zaI kTp kcTp 100 kfTp), (zaR kHs kcHs 8 kfHs), (zaI kWk kcWk 6 kfWk), (zaI kBk kcBk 12 kfBk), (zaI kFc kcFc 6 kfFc), (zo7iirrrriviii bl esg (nI ecl) eW eA eE eC cdd etv szz att (nI em)), (zaI eW ceW 10 feW), (zaI eA ceA 10 feA), (zaI eE ceE 10 feE), (zaI eC ceC 100 feC), (zo4rrir go gR gO (nI lk) gS), (zaI gR cR 8 fR), (zaI gO cO 8 fO), (zo5iiii gS 0 (nI i0) 0 scl), (zo2lirrr ch ft fr dr tO hO), (zaI dr cD 36 fD), (zaR tO cTO 3 (fun i => if i < 3 then some (rt i) else none)), (zaL (rt 0) cT 36 ft0), (zaL (rt 1) cT 36 ft1), (zaL (rt 2) cT 36 ft2), (zaR hO cHO 8 (fun i => if i < 8 then some (rh i) else none)), (zaI (rh 0) cH 36 g0), (zaI (rh 1) cH 36 g1), (zaI (rh 2) cH 36 g2), (zaI (rh 3) cH 36 g3), (zaI (rh 4) cH 36 g4), (zaI (rh 5) cH 36 g5), (zaI (rh 6) cH 36 g6), (zaI (rh 7) cH 36 g7)]) hP hD [0, 1, 2] rfl hkp hP1 hD1 [some 0, some 1, some 2, none, none, none, none, none, none, none, none, none, none, none, none, none, none, none, none, none, none, none, none, none, none, none, none, none, none, none, none, none, none, none, none, none, none] [0, 1, 2] rfl (Or.inl rfl) rfl
    have hX := D_mem hJ.2
    exact ⟨⟨r, (ik, (n, wz, bz, mi, sn, yk, yv, yc, nh, ts, tc, hC, ee), (kn, kwz, kbz, kmi, ksn, kyk, kyv, kyc, knh, kts, ktc, khC, kee), tl), rfl, ⟨hr9, u_eq (fdF_no (hp_lt hr9 hlt))⟩, _, T, (fun M9 k9 => k9 sc kp bl go ch bo aTp ts aHl nh ee mi sn aHs n aWk wz aBk bz aFc cTp fTp cHs fHs cWk fWk cBk fBk cFc fFc kTp kts kHl knh kee kmi ksn kHs kn kWk kwz kBk kbz kFc kcTp kfTp kcHs kfHs kcWk kfWk kcBk kfBk kcFc kfFc esg ecl eW eA eE eC cdd etv szz att em ceW feW ceA feA ceE feE ceC feC gR gO lk gS cR fR cO fO i0 scl ft fr dr tO hO cD fD cTO rt cT ft0 ft1 ft2 cHO rh cH g0 g1 g2 g3 g4 g5 g6 g7 sg cl bW bA bE bC hcd tpv hsz hat nmb cbW fbW cbA fbA cbE fbE cbC fbC ksg kcl kbW kbA kbE kbC khcd ktpv khsz khat knmb kcbW kfbW kcbA kfbA kcbE kfbE kcbC kfbC yi ya yk yv yc kyi kya kyk kyv kyc tc ktc hC khC LB rfl (hLB) hJ.1 ⟨hJ.2.1, fun _ _ _ => trivial⟩ (hTF) (hTH) (hTK) ⟨oTs, oNh, oN, oWz, oBz, oHs, oHn, oYk, oYv, oWk, oBk, oYt, oTx, oEe, oMi, oYc⟩ ⟨koTs, koNh, koN, koWz, koBz, koHs, koHn, koYk, koYv, koWk, koBk, koYt, koTx, koEe, koMi, koYc⟩ (hlk) ⟨zcl, zE, zC, zH⟩ ⟨kzcl, kzE, kzC, kzH⟩ ⟨hcl, hem, zeE, zeC⟩ (hZ.kept hkp hwc hX) (hZk.kept hkp hwc hX) (hHs.kept hkp hwc hX) (hHk.kept hkp hwc hX) rfl rfl), hJ.2, fun p hp => Or.inl hp⟩, hz, fun q h1 h2 => hkp q h1 (fun h => h2 (bl_A hwc _ h))⟩
  · skip
    subst e1
    subst e2
    have hJ := bl_gen (F' := [(zo13rrirrrr h0 sc kp ik bl go ch bo), (zo10ririliiriririr sc aTp (nI (ts + 1)) aHl (nI nh) (lN ee) mi sn aHs (nI n) aWk (nI wz) aBk (nI bz) aFc), (zaI aTp cTp 100 (upd fTp ts x)), (zaR aHs cHs 8 fHs), (zaI aWk cWk 6 fWk), (zaI aBk cBk 12 fBk), (zaI aFc cFc 6 fFc), (zo10ririliiriririr kp kTp (nI kts) kHl (nI knh) (lN kee) kmi ksn kHs (nI kn) kWk (nI kwz) kBk (nI kbz) kFc), (zaI kTp kcTp 100 kfTp), (zaR kHs kcHs 8 kfHs), (zaI kWk kcWk 6 kfWk), (zaI kBk kcBk 12 kfBk), (zaI kFc kcFc 6 kfFc), (zo7iirrrriviii bl esg (nI ecl) eW eA eE eC cdd etv szz att (nI em)), (zaI eW ceW 10 feW), (zaI eA ceA 10 feA), (zaI eE ceE 10 feE), (zaI eC ceC 100 feC), (zo4rrir go gR gO (nI lk) gS), (zaI gR cR 8 fR), (zaI gO cO 8 fO), (zo5iiii gS 0 (nI i0) 0 scl), (zo2lirrr ch ft fr dr tO hO), (zaI dr cD 36 fD), (zaR tO cTO 3 (fun i => if i < 3 then some (rt i) else none)), (zaL (rt 0) cT 36 ft0), (zaL (rt 1) cT 36 ft1), (zaL (rt 2) cT 36 ft2), (zaR hO cHO 8 (fun i => if i < 8 then some (rh i) else none)), (zaI (rh 0) cH 36 g0), (zaI (rh 1) cH 36 g1), (zaI (rh 2) cH 36 g2), (zaI (rh 3) cH 36 g3), (zaI (rh 4) cH 36 g4), (zaI (rh 5) cH 36 g5), (zaI (rh 6) cH 36 g6), (zaI (rh 7) cH 36 g7)]) hP hD [0, 1, 2] rfl hkp hP1 hD1 [some 0, some 1, some 2, none, none, none, none, none, none, none, none, none, none, none, none, none, none, none, none, none, none, none, none, none, none, none, none, none, none, none, none, none, none, none, none, none, none] [0, 1, 2] rfl (Or.inl rfl) rfl
    have hX := D_mem hJ.2
    exact ⟨⟨r, (ik, (n, wz, bz, mi, sn, yk, yv, yc, nh, ts + 1, (fun k => if k = ts then x.toNatClampNeg else tc k), hC, ee), (kn, kwz, kbz, kmi, ksn, kyk, kyv, kyc, knh, kts, ktc, khC, kee), tl), rfl, ⟨hr9, u_eq (fdF_yes (hp_ge hr9 hge))⟩, _, T, (fun M9 k9 => k9 sc kp bl go ch bo aTp (ts + 1) aHl nh ee mi sn aHs n aWk wz aBk bz aFc cTp (upd fTp ts x) cHs fHs cWk fWk cBk fBk cFc fFc kTp kts kHl knh kee kmi ksn kHs kn kWk kwz kBk kbz kFc kcTp kfTp kcHs kfHs kcWk kfWk kcBk kfBk kcFc kfFc esg ecl eW eA eE eC cdd etv szz att em ceW feW ceA feA ceE feE ceC feC gR gO lk gS cR fR cO fO i0 scl ft fr dr tO hO cD fD cTO rt cT ft0 ft1 ft2 cHO rh cH g0 g1 g2 g3 g4 g5 g6 g7 sg cl bW bA bE bC hcd tpv hsz hat nmb cbW fbW cbA fbA cbE fbE cbC fbC ksg kcl kbW kbA kbE kbC khcd ktpv khsz khat knmb kcbW kfbW kcbA kfbA kcbE kfbE kcbC kfbC yi ya yk yv yc kyi kya kyk kyv kyc ((fun k => if k = ts then x.toNatClampNeg else tc k)) ktc hC khC LB rfl (hLB) hJ.1 ⟨hJ.2.1, fun _ _ _ => trivial⟩ (hTF) (hTH) (hTK) ⟨by omega, oNh, oN, oWz, oBz, oHs, oHn, oYk, oYv, oWk, oBk, oYt, TX_add oTx hx0 hx1, oEe, oMi, oYc⟩ ⟨koTs, koNh, koN, koWz, koBz, koHs, koHn, koYk, koYv, koWk, koBk, koYt, koTx, koEe, koMi, koYc⟩ (hlk) ⟨zcl, zE, zC, zH⟩ ⟨kzcl, kzE, kzC, kzH⟩ ⟨hcl, hem, zeE, zeC⟩ (hZ.kept hkp hwc hX) (hZk.kept hkp hwc hX) (hHs.kept hkp hwc hX) (hHk.kept hkp hwc hX) rfl rfl), hJ.2, fun p hp => Or.inl hp⟩, hz, fun q h1 h2 => hkp q h1 (fun h => h2 (bl_A hwc _ h))⟩
end mg19a
section mg19a

set_option maxHeartbeats 4000000 in
set_option maxRecDepth 100000 in
theorem w_line (l : Launch) (dC : Nat → ClassId) (dI : Nat → Nat → Nat) (gd : Nat → Nat) (kA : Nat) (ad : Nat → Nat) (cB bS : Nat) (sK sV : Nat → Nat) (Y : Nat → Prop) (ik : Int32) (vs kvs : VS) (tl : List Nat) (T : List (ClassId × FieldType)) (h0 : Nat) (X : va_W) (x : Int32) (y : Int32) (sz : Nat) : Met l yX11_line wsX11_line ({ frames := 2, cells := 0, slots := 0, locals := 41 } : Room) (va_Pc [.ref h0, .int x, .int y] (fun U => U.heap.size = sz ∧ XI dC dI ad bS Y ik vs kvs tl T h0 X U.heap ∧ va_K (dC, dI) vwCl T U ∧ (∀ c ∈ X, ¬ Y c.1) ∧ (∀ q, sz ≤ q → ¬ Y q) ∧ GA gd kA ad cB bS sK sV (va_A X sz) U)) (va_Qi (fun (r : Int32) (u : Int32 × VS × VS × List Nat) => r = lnR (vs.1) (vs.2.2.2.2.2.2.2.1) (sgC (vs.2.2.2.2.2.2.2.2.2.2.2.1)) (vs.2.2.2.1) x y ∧ u = (ik, vs, kvs, tl)) (fun (u : Int32 × VS × VS × List Nat) (t : State) => ∃ (X1 : va_W) (T1 : List (ClassId × FieldType)), XI dC dI ad bS Y u.1 u.2.1 u.2.2.1 u.2.2.2 T1 h0 X1 t.heap ∧ va_D (va_A X sz) X1 ∧ ∀ p ∈ T1, p ∈ T ∨ va_K (dC, dI) vwCl [p] t) (va_A X sz)) 0 0 (va_A X sz) := by
  refine met_wrap (fun args s hPc => ?_)
  obtain ⟨rfl, rfl, hXI, hK, hY1, hY2, hGA⟩ := hPc
  have hXI0 := hXI
  refine hXI _ (fun sc kp bl go ch bo aTp ts aHl nh ee mi sn aHs n aWk wz aBk bz aFc cTp fTp cHs fHs cWk fWk cBk fBk cFc fFc kTp kts kHl knh kee kmi ksn kHs kn kWk kwz kBk kbz kFc kcTp kfTp kcHs kfHs kcWk kfWk kcBk kfBk kcFc kfFc esg ecl eW eA eE eC cdd etv szz att em ceW feW ceA feA ceE feE ceC feC gR gO lk gS cR fR cO fO i0 scl ft fr dr tO hO cD fD cTO rt cT ft0 ft1 ft2 cHO rh cH g0 g1 g2 g3 g4 g5 g6 g7 sg cl bW bA bE bC hcd tpv hsz hat nmb cbW fbW cbA fbA cbE fbE cbC fbC ksg kcl kbW kbA kbE kbC khcd ktpv khsz khat knmb kcbW kfbW kcbA kfbA kcbE kfbE kcbC kfbC yi ya yk yv yc kyi kya kyk kyv kyc tc ktc hC khC LB hX hLB hP hD hTF hTH hTK hq1 hq2 hlk hq3 hq4 hq5 hZ hZk hHs hHk hvs hkv => ?_)
  subst hvs
  subst hkv
  obtain ⟨oTs, oNh, oN, oWz, oBz, oHs, oHn, oYk, oYv, oWk, oBk, oYt, oTx, oEe, oMi, oYc⟩ := hq1
  obtain ⟨koTs, koNh, koN, koWz, koBz, koHs, koHn, koYk, koYv, koWk, koBk, koYt, koTx, koEe, koMi, koYc⟩ := hq2
  obtain ⟨zcl, zE, zC, zH⟩ := hq3
  obtain ⟨kzcl, kzE, kzC, kzH⟩ := hq4
  obtain ⟨hcl, hem, zeE, zeC⟩ := hq5
  subst hX
  have hwc := bl_mem (G := [(zo13rrirrrr h0 sc kp ik bl go ch bo), (zo10ririliiriririr sc aTp (nI ts) aHl (nI nh) (lN ee) mi sn aHs (nI n) aWk (nI wz) aBk (nI bz) aFc), (zaI aTp cTp 100 fTp), (zaR aHs cHs 8 fHs), (zaI aWk cWk 6 fWk), (zaI aBk cBk 12 fBk), (zaI aFc cFc 6 fFc), (zo10ririliiriririr kp kTp (nI kts) kHl (nI knh) (lN kee) kmi ksn kHs (nI kn) kWk (nI kwz) kBk (nI kbz) kFc), (zaI kTp kcTp 100 kfTp), (zaR kHs kcHs 8 kfHs), (zaI kWk kcWk 6 kfWk), (zaI kBk kcBk 12 kfBk), (zaI kFc kcFc 6 kfFc), (zo7iirrrriviii bl esg (nI ecl) eW eA eE eC cdd etv szz att (nI em)), (zaI eW ceW 10 feW), (zaI eA ceA 10 feA), (zaI eE ceE 10 feE), (zaI eC ceC 100 feC), (zo4rrir go gR gO (nI lk) gS), (zaI gR cR 8 fR), (zaI gO cO 8 fO), (zo5iiii gS 0 (nI i0) 0 scl), (zo2lirrr ch ft fr dr tO hO), (zaI dr cD 36 fD), (zaR tO cTO 3 (fun i => if i < 3 then some (rt i) else none)), (zaL (rt 0) cT 36 ft0), (zaL (rt 1) cT 36 ft1), (zaL (rt 2) cT 36 ft2), (zaR hO cHO 8 (fun i => if i < 8 then some (rh i) else none)), (zaI (rh 0) cH 36 g0), (zaI (rh 1) cH 36 g1), (zaI (rh 2) cH 36 g2), (zaI (rh 3) cH 36 g3), (zaI (rh 4) cH 36 g4), (zaI (rh 5) cH 36 g5), (zaI (rh 6) cH 36 g6), (zaI (rh 7) cH 36 g7)]) (F := [(zo13rrirrrr h0 sc kp ik bl go ch bo), (zo10ririliiriririr sc aTp (nI ts) aHl (nI nh) (lN ee) mi sn aHs (nI n) aWk (nI wz) aBk (nI bz) aFc), (zaR aHs cHs 8 fHs)]) (T := LB) [0, 1, 3] rfl
  have hPc := bl_sub (F := [(zo13rrirrrr h0 sc kp ik bl go ch bo), (zo10ririliiriririr sc aTp (nI ts) aHl (nI nh) (lN ee) mi sn aHs (nI n) aWk (nI wz) aBk (nI bz) aFc), (zaR aHs cHs 8 fHs)]) hP [0, 1, 3] rfl
  refine ⟨_, _, _, c_xLine l dC dI h0 sc kp bl go ch bo aTp aHl aHs aWk aBk aFc bW bA bE bC ts nh n wz bz cl mi sn sg hcd hsz hat nmb ik x y (lN ee) cHs cbW cbA cbE cbC fbW fbA fbE fbC yk yv yc fHs yi ya tpv hC oHs oN zH.1.2.1 zH.2 oMi, ⟨rfl, hPc, (K_mem hK hTF).sub [1] rfl, hZ.atF (K_mem hK hTH), hHs.atF (K_mem hK (fun _ q => absurd q List.not_mem_nil))⟩, fun o t hQ => ?_, fun q hq => hq.elim⟩
  obtain ⟨r, rfl, hpost, hh⟩ := hQ
  refine ⟨⟨r, (ik, (n, wz, bz, mi, sn, yk, yv, yc, nh, ts, tc, hC, ee), (kn, kwz, kbz, kmi, ksn, kyk, kyv, kyc, knh, kts, ktc, khC, kee), tl), rfl, ⟨hpost, rfl⟩, _, T, by rw [hh]; exact hXI0, ⟨hD.1, fun k q hq => Or.inl ⟨k, q.2, hq⟩⟩, fun p hp => Or.inl hp⟩, by rw [hh]; exact Nat.le_refl _, fun q _ _ => by rw [hh]⟩

set_option maxHeartbeats 4000000 in
set_option maxRecDepth 100000 in
theorem w_next (l : Launch) (dC : Nat → ClassId) (dI : Nat → Nat → Nat) (gd : Nat → Nat) (kA : Nat) (ad : Nat → Nat) (cB bS : Nat) (sK sV : Nat → Nat) (Y : Nat → Prop) (ik : Int32) (vs kvs : VS) (tl : List Nat) (T : List (ClassId × FieldType)) (h0 : Nat) (X : va_W) (x : Int32) (y : Int32) (z : Int32) (sz : Nat) : Met l yX11_next wsX11_next ({ frames := 1, cells := 0, slots := 0, locals := 21 } : Room) (va_Pc [.ref h0, .int x, .int y, .int z] (fun U => U.heap.size = sz ∧ XI dC dI ad bS Y ik vs kvs tl T h0 X U.heap ∧ va_K (dC, dI) vwCl T U ∧ (∀ c ∈ X, ¬ Y c.1) ∧ (∀ q, sz ≤ q → ¬ Y q) ∧ GA gd kA ad cB bS sK sV (va_A X sz) U)) (va_Qi (fun (r : Int32) (u : Int32 × VS × VS × List Nat) => r = nxR (vs.1) (vs.2.2.2.2.2.2.2.1) x y z ∧ u = (ik, vs, kvs, tl)) (fun (u : Int32 × VS × VS × List Nat) (t : State) => ∃ (X1 : va_W) (T1 : List (ClassId × FieldType)), XI dC dI ad bS Y u.1 u.2.1 u.2.2.1 u.2.2.2 T1 h0 X1 t.heap ∧ va_D (va_A X sz) X1 ∧ ∀ p ∈ T1, p ∈ T ∨ va_K (dC, dI) vwCl [p] t) (va_A X sz)) 0 0 (va_A X sz) := by
  refine met_wrap (fun args s hPc => ?_)
  obtain ⟨rfl, rfl, hXI, hK, hY1, hY2, hGA⟩ := hPc
  have hXI0 := hXI
  refine hXI _ (fun sc kp bl go ch bo aTp ts aHl nh ee mi sn aHs n aWk wz aBk bz aFc cTp fTp cHs fHs cWk fWk cBk fBk cFc fFc kTp kts kHl knh kee kmi ksn kHs kn kWk kwz kBk kbz kFc kcTp kfTp kcHs kfHs kcWk kfWk kcBk kfBk kcFc kfFc esg ecl eW eA eE eC cdd etv szz att em ceW feW ceA feA ceE feE ceC feC gR gO lk gS cR fR cO fO i0 scl ft fr dr tO hO cD fD cTO rt cT ft0 ft1 ft2 cHO rh cH g0 g1 g2 g3 g4 g5 g6 g7 sg cl bW bA bE bC hcd tpv hsz hat nmb cbW fbW cbA fbA cbE fbE cbC fbC ksg kcl kbW kbA kbE kbC khcd ktpv khsz khat knmb kcbW kfbW kcbA kfbA kcbE kfbE kcbC kfbC yi ya yk yv yc kyi kya kyk kyv kyc tc ktc hC khC LB hX hLB hP hD hTF hTH hTK hq1 hq2 hlk hq3 hq4 hq5 hZ hZk hHs hHk hvs hkv => ?_)
  subst hvs
  subst hkv
  obtain ⟨oTs, oNh, oN, oWz, oBz, oHs, oHn, oYk, oYv, oWk, oBk, oYt, oTx, oEe, oMi, oYc⟩ := hq1
  obtain ⟨koTs, koNh, koN, koWz, koBz, koHs, koHn, koYk, koYv, koWk, koBk, koYt, koTx, koEe, koMi, koYc⟩ := hq2
  obtain ⟨zcl, zE, zC, zH⟩ := hq3
  obtain ⟨kzcl, kzE, kzC, kzH⟩ := hq4
  obtain ⟨hcl, hem, zeE, zeC⟩ := hq5
  subst hX
  have hwc := bl_mem (G := [(zo13rrirrrr h0 sc kp ik bl go ch bo), (zo10ririliiriririr sc aTp (nI ts) aHl (nI nh) (lN ee) mi sn aHs (nI n) aWk (nI wz) aBk (nI bz) aFc), (zaI aTp cTp 100 fTp), (zaR aHs cHs 8 fHs), (zaI aWk cWk 6 fWk), (zaI aBk cBk 12 fBk), (zaI aFc cFc 6 fFc), (zo10ririliiriririr kp kTp (nI kts) kHl (nI knh) (lN kee) kmi ksn kHs (nI kn) kWk (nI kwz) kBk (nI kbz) kFc), (zaI kTp kcTp 100 kfTp), (zaR kHs kcHs 8 kfHs), (zaI kWk kcWk 6 kfWk), (zaI kBk kcBk 12 kfBk), (zaI kFc kcFc 6 kfFc), (zo7iirrrriviii bl esg (nI ecl) eW eA eE eC cdd etv szz att (nI em)), (zaI eW ceW 10 feW), (zaI eA ceA 10 feA), (zaI eE ceE 10 feE), (zaI eC ceC 100 feC), (zo4rrir go gR gO (nI lk) gS), (zaI gR cR 8 fR), (zaI gO cO 8 fO), (zo5iiii gS 0 (nI i0) 0 scl), (zo2lirrr ch ft fr dr tO hO), (zaI dr cD 36 fD), (zaR tO cTO 3 (fun i => if i < 3 then some (rt i) else none)), (zaL (rt 0) cT 36 ft0), (zaL (rt 1) cT 36 ft1), (zaL (rt 2) cT 36 ft2), (zaR hO cHO 8 (fun i => if i < 8 then some (rh i) else none)), (zaI (rh 0) cH 36 g0), (zaI (rh 1) cH 36 g1), (zaI (rh 2) cH 36 g2), (zaI (rh 3) cH 36 g3), (zaI (rh 4) cH 36 g4), (zaI (rh 5) cH 36 g5), (zaI (rh 6) cH 36 g6), (zaI (rh 7) cH 36 g7)]) (F := [(zo13rrirrrr h0 sc kp ik bl go ch bo), (zo10ririliiriririr sc aTp (nI ts) aHl (nI nh) (lN ee) mi sn aHs (nI n) aWk (nI wz) aBk (nI bz) aFc), (zaR aHs cHs 8 fHs)]) (T := LB) [0, 1, 3] rfl
  have hPc := bl_sub (F := [(zo13rrirrrr h0 sc kp ik bl go ch bo), (zo10ririliiriririr sc aTp (nI ts) aHl (nI nh) (lN ee) mi sn aHs (nI n) aWk (nI wz) aBk (nI bz) aFc), (zaR aHs cHs 8 fHs)]) hP [0, 1, 3] rfl
  refine ⟨_, _, _, c_xNext l dC dI h0 sc kp bl go ch bo aTp aHl aHs aWk aBk aFc ts nh n wz bz mi sn ik x y z (lN ee) cHs yk yv yc fHs yi ya oHs oN, ⟨rfl, hPc, (K_mem hK hTF).sub [1] rfl, hHs.atF (K_mem hK (fun _ q => absurd q List.not_mem_nil))⟩, fun o t hQ => ?_, fun q hq => hq.elim⟩
  obtain ⟨r, rfl, hpost, hh⟩ := hQ
  refine ⟨⟨r, (ik, (n, wz, bz, mi, sn, yk, yv, yc, nh, ts, tc, hC, ee), (kn, kwz, kbz, kmi, ksn, kyk, kyv, kyc, knh, kts, ktc, khC, kee), tl), rfl, ⟨hpost, rfl⟩, _, T, by rw [hh]; exact hXI0, ⟨hD.1, fun k q hq => Or.inl ⟨k, q.2, hq⟩⟩, fun p hp => Or.inl hp⟩, by rw [hh]; exact Nat.le_refl _, fun q _ _ => by rw [hh]⟩

set_option maxHeartbeats 4000000 in
set_option maxRecDepth 100000 in
theorem w_as (l : Launch) (dC : Nat → ClassId) (dI : Nat → Nat → Nat) (gd : Nat → Nat) (kA : Nat) (ad : Nat → Nat) (cB bS : Nat) (sK sV : Nat → Nat) (Y : Nat → Prop) (ik : Int32) (vs kvs : VS) (tl : List Nat) (T : List (ClassId × FieldType)) (h0 : Nat) (X : va_W) (x : Int32) (y : Int32) (sz : Nat) : Met l yX11_as wsX11_as ({ frames := 1, cells := 0, slots := 0, locals := 23 } : Room) (va_Pc [.ref h0, .int x, .int y] (fun U => U.heap.size = sz ∧ XI dC dI ad bS Y ik vs kvs tl T h0 X U.heap ∧ va_K (dC, dI) vwCl T U ∧ (∀ c ∈ X, ¬ Y c.1) ∧ (∀ q, sz ≤ q → ¬ Y q) ∧ GA gd kA ad cB bS sK sV (va_A X sz) U)) (va_Qi (fun (r : Int32) (u : Int32 × VS × VS × List Nat) => r = asR (vs.1) (vs.2.2.2.2.2.1) (vs.2.2.2.2.2.2.1) x y ∧ u = (ik, vs, kvs, tl)) (fun (u : Int32 × VS × VS × List Nat) (t : State) => ∃ (X1 : va_W) (T1 : List (ClassId × FieldType)), XI dC dI ad bS Y u.1 u.2.1 u.2.2.1 u.2.2.2 T1 h0 X1 t.heap ∧ va_D (va_A X sz) X1 ∧ ∀ p ∈ T1, p ∈ T ∨ va_K (dC, dI) vwCl [p] t) (va_A X sz)) 0 0 (va_A X sz) := by
  refine met_wrap (fun args s hPc => ?_)
  obtain ⟨rfl, rfl, hXI, hK, hY1, hY2, hGA⟩ := hPc
  have hXI0 := hXI
  refine hXI _ (fun sc kp bl go ch bo aTp ts aHl nh ee mi sn aHs n aWk wz aBk bz aFc cTp fTp cHs fHs cWk fWk cBk fBk cFc fFc kTp kts kHl knh kee kmi ksn kHs kn kWk kwz kBk kbz kFc kcTp kfTp kcHs kfHs kcWk kfWk kcBk kfBk kcFc kfFc esg ecl eW eA eE eC cdd etv szz att em ceW feW ceA feA ceE feE ceC feC gR gO lk gS cR fR cO fO i0 scl ft fr dr tO hO cD fD cTO rt cT ft0 ft1 ft2 cHO rh cH g0 g1 g2 g3 g4 g5 g6 g7 sg cl bW bA bE bC hcd tpv hsz hat nmb cbW fbW cbA fbA cbE fbE cbC fbC ksg kcl kbW kbA kbE kbC khcd ktpv khsz khat knmb kcbW kfbW kcbA kfbA kcbE kfbE kcbC kfbC yi ya yk yv yc kyi kya kyk kyv kyc tc ktc hC khC LB hX hLB hP hD hTF hTH hTK hq1 hq2 hlk hq3 hq4 hq5 hZ hZk hHs hHk hvs hkv => ?_)
  subst hvs
  subst hkv
  obtain ⟨oTs, oNh, oN, oWz, oBz, oHs, oHn, oYk, oYv, oWk, oBk, oYt, oTx, oEe, oMi, oYc⟩ := hq1
  obtain ⟨koTs, koNh, koN, koWz, koBz, koHs, koHn, koYk, koYv, koWk, koBk, koYt, koTx, koEe, koMi, koYc⟩ := hq2
  obtain ⟨zcl, zE, zC, zH⟩ := hq3
  obtain ⟨kzcl, kzE, kzC, kzH⟩ := hq4
  obtain ⟨hcl, hem, zeE, zeC⟩ := hq5
  subst hX
  have hwc := bl_mem (G := [(zo13rrirrrr h0 sc kp ik bl go ch bo), (zo10ririliiriririr sc aTp (nI ts) aHl (nI nh) (lN ee) mi sn aHs (nI n) aWk (nI wz) aBk (nI bz) aFc), (zaI aTp cTp 100 fTp), (zaR aHs cHs 8 fHs), (zaI aWk cWk 6 fWk), (zaI aBk cBk 12 fBk), (zaI aFc cFc 6 fFc), (zo10ririliiriririr kp kTp (nI kts) kHl (nI knh) (lN kee) kmi ksn kHs (nI kn) kWk (nI kwz) kBk (nI kbz) kFc), (zaI kTp kcTp 100 kfTp), (zaR kHs kcHs 8 kfHs), (zaI kWk kcWk 6 kfWk), (zaI kBk kcBk 12 kfBk), (zaI kFc kcFc 6 kfFc), (zo7iirrrriviii bl esg (nI ecl) eW eA eE eC cdd etv szz att (nI em)), (zaI eW ceW 10 feW), (zaI eA ceA 10 feA), (zaI eE ceE 10 feE), (zaI eC ceC 100 feC), (zo4rrir go gR gO (nI lk) gS), (zaI gR cR 8 fR), (zaI gO cO 8 fO), (zo5iiii gS 0 (nI i0) 0 scl), (zo2lirrr ch ft fr dr tO hO), (zaI dr cD 36 fD), (zaR tO cTO 3 (fun i => if i < 3 then some (rt i) else none)), (zaL (rt 0) cT 36 ft0), (zaL (rt 1) cT 36 ft1), (zaL (rt 2) cT 36 ft2), (zaR hO cHO 8 (fun i => if i < 8 then some (rh i) else none)), (zaI (rh 0) cH 36 g0), (zaI (rh 1) cH 36 g1), (zaI (rh 2) cH 36 g2), (zaI (rh 3) cH 36 g3), (zaI (rh 4) cH 36 g4), (zaI (rh 5) cH 36 g5), (zaI (rh 6) cH 36 g6), (zaI (rh 7) cH 36 g7)]) (F := [(zo13rrirrrr h0 sc kp ik bl go ch bo), (zo10ririliiriririr sc aTp (nI ts) aHl (nI nh) (lN ee) mi sn aHs (nI n) aWk (nI wz) aBk (nI bz) aFc), (zaR aHs cHs 8 fHs)]) (T := LB) [0, 1, 3] rfl
  have hPc := bl_sub (F := [(zo13rrirrrr h0 sc kp ik bl go ch bo), (zo10ririliiriririr sc aTp (nI ts) aHl (nI nh) (lN ee) mi sn aHs (nI n) aWk (nI wz) aBk (nI bz) aFc), (zaR aHs cHs 8 fHs)]) hP [0, 1, 3] rfl
  refine ⟨_, _, _, c_xAs l dC dI kA h0 sc kp bl go ch bo aTp aHl aHs aWk aBk aFc ts nh n wz bz mi sn ik x y (lN ee) cHs yk yv yc fHs yi ya oHs oN oYk, ⟨rfl, hPc, (K_mem hK hTF).sub [1] rfl, hGA.2.2.1.callF va_S.rf rfl (State.WarmedH.refl s), hHs.atF (K_mem hK (fun _ q => absurd q List.not_mem_nil))⟩, fun o t hQ => ?_, fun q hq => hq.elim⟩
  obtain ⟨r, rfl, hpost, hh⟩ := hQ
  refine ⟨⟨r, (ik, (n, wz, bz, mi, sn, yk, yv, yc, nh, ts, tc, hC, ee), (kn, kwz, kbz, kmi, ksn, kyk, kyv, kyc, knh, kts, ktc, khC, kee), tl), rfl, ⟨hpost, rfl⟩, _, T, by rw [hh]; exact hXI0, ⟨hD.1, fun k q hq => Or.inl ⟨k, q.2, hq⟩⟩, fun p hp => Or.inl hp⟩, by rw [hh]; exact Nat.le_refl _, fun q _ _ => by rw [hh]⟩

set_option maxHeartbeats 4000000 in
set_option maxRecDepth 100000 in
theorem w_set (l : Launch) (dC : Nat → ClassId) (dI : Nat → Nat → Nat) (gd : Nat → Nat) (kA : Nat) (ad : Nat → Nat) (cB bS : Nat) (sK sV : Nat → Nat) (Y : Nat → Prop) (ik : Int32) (vs kvs : VS) (tl : List Nat) (T : List (ClassId × FieldType)) (h0 : Nat) (X : va_W) (x : Int32) (y : Int32) (sz : Nat) : Met l yX11_set wsX11_set ({ frames := 2, cells := 0, slots := 0, locals := 42 } : Room) (va_Pc [.ref h0, .int x, .int y] (fun U => U.heap.size = sz ∧ XI dC dI ad bS Y ik vs kvs tl T h0 X U.heap ∧ va_K (dC, dI) vwCl T U ∧ (∀ c ∈ X, ¬ Y c.1) ∧ (∀ q, sz ≤ q → ¬ Y q) ∧ GA gd kA ad cB bS sK sV (va_A X sz) U)) (va_Qi (fun (r : Int32) (u : Int32 × VS × VS × List Nat) => r = stR (vs.2.2.2.1) (vs.2.2.2.2.1) x y ∧ u = (ik, (vs.1, vs.2.1, vs.2.2.1, stM (vs.2.2.2.1) x y, stN (vs.2.2.2.2.1) x y, vs.2.2.2.2.2.1, vs.2.2.2.2.2.2.1, vs.2.2.2.2.2.2.2.1, vs.2.2.2.2.2.2.2.2.1, vs.2.2.2.2.2.2.2.2.2.1, vs.2.2.2.2.2.2.2.2.2.2.1, vs.2.2.2.2.2.2.2.2.2.2.2.1, vs.2.2.2.2.2.2.2.2.2.2.2.2), kvs, tl)) (fun (u : Int32 × VS × VS × List Nat) (t : State) => ∃ (X1 : va_W) (T1 : List (ClassId × FieldType)), XI dC dI ad bS Y u.1 u.2.1 u.2.2.1 u.2.2.2 T1 h0 X1 t.heap ∧ va_D (va_A X sz) X1 ∧ ∀ p ∈ T1, p ∈ T ∨ va_K (dC, dI) vwCl [p] t) (va_A X sz)) 0 0 (va_A X sz) := by
  refine met_wrap (fun args s hPc => ?_)
  obtain ⟨rfl, rfl, hXI, hK, hY1, hY2, hGA⟩ := hPc
  have hXI0 := hXI
  refine hXI _ (fun sc kp bl go ch bo aTp ts aHl nh ee mi sn aHs n aWk wz aBk bz aFc cTp fTp cHs fHs cWk fWk cBk fBk cFc fFc kTp kts kHl knh kee kmi ksn kHs kn kWk kwz kBk kbz kFc kcTp kfTp kcHs kfHs kcWk kfWk kcBk kfBk kcFc kfFc esg ecl eW eA eE eC cdd etv szz att em ceW feW ceA feA ceE feE ceC feC gR gO lk gS cR fR cO fO i0 scl ft fr dr tO hO cD fD cTO rt cT ft0 ft1 ft2 cHO rh cH g0 g1 g2 g3 g4 g5 g6 g7 sg cl bW bA bE bC hcd tpv hsz hat nmb cbW fbW cbA fbA cbE fbE cbC fbC ksg kcl kbW kbA kbE kbC khcd ktpv khsz khat knmb kcbW kfbW kcbA kfbA kcbE kfbE kcbC kfbC yi ya yk yv yc kyi kya kyk kyv kyc tc ktc hC khC LB hX hLB hP hD hTF hTH hTK hq1 hq2 hlk hq3 hq4 hq5 hZ hZk hHs hHk hvs hkv => ?_)
  subst hvs
  subst hkv
  obtain ⟨oTs, oNh, oN, oWz, oBz, oHs, oHn, oYk, oYv, oWk, oBk, oYt, oTx, oEe, oMi, oYc⟩ := hq1
  obtain ⟨koTs, koNh, koN, koWz, koBz, koHs, koHn, koYk, koYv, koWk, koBk, koYt, koTx, koEe, koMi, koYc⟩ := hq2
  obtain ⟨zcl, zE, zC, zH⟩ := hq3
  obtain ⟨kzcl, kzE, kzC, kzH⟩ := hq4
  obtain ⟨hcl, hem, zeE, zeC⟩ := hq5
  subst hX
  have hwc := bl_mem (G := [(zo13rrirrrr h0 sc kp ik bl go ch bo), (zo10ririliiriririr sc aTp (nI ts) aHl (nI nh) (lN ee) mi sn aHs (nI n) aWk (nI wz) aBk (nI bz) aFc), (zaI aTp cTp 100 fTp), (zaR aHs cHs 8 fHs), (zaI aWk cWk 6 fWk), (zaI aBk cBk 12 fBk), (zaI aFc cFc 6 fFc), (zo10ririliiriririr kp kTp (nI kts) kHl (nI knh) (lN kee) kmi ksn kHs (nI kn) kWk (nI kwz) kBk (nI kbz) kFc), (zaI kTp kcTp 100 kfTp), (zaR kHs kcHs 8 kfHs), (zaI kWk kcWk 6 kfWk), (zaI kBk kcBk 12 kfBk), (zaI kFc kcFc 6 kfFc), (zo7iirrrriviii bl esg (nI ecl) eW eA eE eC cdd etv szz att (nI em)), (zaI eW ceW 10 feW), (zaI eA ceA 10 feA), (zaI eE ceE 10 feE), (zaI eC ceC 100 feC), (zo4rrir go gR gO (nI lk) gS), (zaI gR cR 8 fR), (zaI gO cO 8 fO), (zo5iiii gS 0 (nI i0) 0 scl), (zo2lirrr ch ft fr dr tO hO), (zaI dr cD 36 fD), (zaR tO cTO 3 (fun i => if i < 3 then some (rt i) else none)), (zaL (rt 0) cT 36 ft0), (zaL (rt 1) cT 36 ft1), (zaL (rt 2) cT 36 ft2), (zaR hO cHO 8 (fun i => if i < 8 then some (rh i) else none)), (zaI (rh 0) cH 36 g0), (zaI (rh 1) cH 36 g1), (zaI (rh 2) cH 36 g2), (zaI (rh 3) cH 36 g3), (zaI (rh 4) cH 36 g4), (zaI (rh 5) cH 36 g5), (zaI (rh 6) cH 36 g6), (zaI (rh 7) cH 36 g7)]) (F := [(zo13rrirrrr h0 sc kp ik bl go ch bo), (zo10ririliiriririr sc aTp (nI ts) aHl (nI nh) (lN ee) mi sn aHs (nI n) aWk (nI wz) aBk (nI bz) aFc)]) (T := LB) [0, 1] rfl
  have hPc := bl_sub (F := [(zo13rrirrrr h0 sc kp ik bl go ch bo), (zo10ririliiriririr sc aTp (nI ts) aHl (nI nh) (lN ee) mi sn aHs (nI n) aWk (nI wz) aBk (nI bz) aFc)]) hP [0, 1] rfl
  refine ⟨_, _, _, c_xSet l dC dI h0 sc kp bl go ch bo aTp aHl aHs aWk aBk aFc bW bA bE bC ts nh n wz bz cl mi sn sg hcd hsz hat nmb ik x y cbW cbA cbE cbC fbW fbA fbE fbC tpv ee hC s.heap.size oEe zH.1.2.1, ⟨rfl, rfl, hPc, (K_mem hK hTF).sub [] rfl, bl_Dsub hD [0, 1] (by decide) rfl, hZ.at (K_mem hK hTH) hwc⟩, fun o t hQ => ?_, fun q hq => bl_A hwc q hq⟩
  obtain ⟨⟨r, u9, rfl, hpost, hB⟩, hz, hkp⟩ := hQ
  obtain ⟨mi9, sn9⟩ := u9
  try dsimp only at hpost hB
  obtain ⟨hP1, hK1, hD1⟩ := hB
  obtain ⟨h1, h2, h3⟩ := hpost
  have hJ := bl_gen (F' := [(zo13rrirrrr h0 sc kp ik bl go ch bo), (zo10ririliiriririr sc aTp (nI ts) aHl (nI nh) (lN ee) mi9 sn9 aHs (nI n) aWk (nI wz) aBk (nI bz) aFc), (zaI aTp cTp 100 fTp), (zaR aHs cHs 8 fHs), (zaI aWk cWk 6 fWk), (zaI aBk cBk 12 fBk), (zaI aFc cFc 6 fFc), (zo10ririliiriririr kp kTp (nI kts) kHl (nI knh) (lN kee) kmi ksn kHs (nI kn) kWk (nI kwz) kBk (nI kbz) kFc), (zaI kTp kcTp 100 kfTp), (zaR kHs kcHs 8 kfHs), (zaI kWk kcWk 6 kfWk), (zaI kBk kcBk 12 kfBk), (zaI kFc kcFc 6 kfFc), (zo7iirrrriviii bl esg (nI ecl) eW eA eE eC cdd etv szz att (nI em)), (zaI eW ceW 10 feW), (zaI eA ceA 10 feA), (zaI eE ceE 10 feE), (zaI eC ceC 100 feC), (zo4rrir go gR gO (nI lk) gS), (zaI gR cR 8 fR), (zaI gO cO 8 fO), (zo5iiii gS 0 (nI i0) 0 scl), (zo2lirrr ch ft fr dr tO hO), (zaI dr cD 36 fD), (zaR tO cTO 3 (fun i => if i < 3 then some (rt i) else none)), (zaL (rt 0) cT 36 ft0), (zaL (rt 1) cT 36 ft1), (zaL (rt 2) cT 36 ft2), (zaR hO cHO 8 (fun i => if i < 8 then some (rh i) else none)), (zaI (rh 0) cH 36 g0), (zaI (rh 1) cH 36 g1), (zaI (rh 2) cH 36 g2), (zaI (rh 3) cH 36 g3), (zaI (rh 4) cH 36 g4), (zaI (rh 5) cH 36 g5), (zaI (rh 6) cH 36 g6), (zaI (rh 7) cH 36 g7)]) hP hD [0, 1] rfl hkp hP1 hD1 [some 0, some 1, none, none, none, none, none, none, none, none, none, none, none, none, none, none, none, none, none, none, none, none, none, none, none, none, none, none, none, none, none, none, none, none, none, none, none] [0, 1] rfl (Or.inl rfl) rfl
  have hX := D_mem hJ.2
  exact ⟨⟨r, (ik, (n, wz, bz, mi9, sn9, yk, yv, yc, nh, ts, tc, hC, ee), (kn, kwz, kbz, kmi, ksn, kyk, kyv, kyc, knh, kts, ktc, khC, kee), tl), rfl, ⟨h1, by subst h2; subst h3; rfl⟩, _, T, (fun M9 k9 => k9 sc kp bl go ch bo aTp ts aHl nh ee (mi9) (sn9) aHs n aWk wz aBk bz aFc cTp fTp cHs fHs cWk fWk cBk fBk cFc fFc kTp kts kHl knh kee kmi ksn kHs kn kWk kwz kBk kbz kFc kcTp kfTp kcHs kfHs kcWk kfWk kcBk kfBk kcFc kfFc esg ecl eW eA eE eC cdd etv szz att em ceW feW ceA feA ceE feE ceC feC gR gO lk gS cR fR cO fO i0 scl ft fr dr tO hO cD fD cTO rt cT ft0 ft1 ft2 cHO rh cH g0 g1 g2 g3 g4 g5 g6 g7 sg cl bW bA bE bC hcd tpv hsz hat nmb cbW fbW cbA fbA cbE fbE cbC fbC ksg kcl kbW kbA kbE kbC khcd ktpv khsz khat knmb kcbW kfbW kcbA kfbA kcbE kfbE kcbC kfbC yi ya yk yv yc kyi kya kyk kyv kyc tc ktc hC khC LB rfl (hLB) hJ.1 ⟨hJ.2.1, fun _ _ _ => trivial⟩ (hTF) (hTH) (hTK) ⟨oTs, oNh, oN, oWz, oBz, oHs, oHn, oYk, oYv, oWk, oBk, oYt, oTx, oEe, by rw [h2]; exact st_mb oMi, oYc⟩ ⟨koTs, koNh, koN, koWz, koBz, koHs, koHn, koYk, koYv, koWk, koBk, koYt, koTx, koEe, koMi, koYc⟩ (hlk) ⟨zcl, zE, zC, zH⟩ ⟨kzcl, kzE, kzC, kzH⟩ ⟨hcl, hem, zeE, zeC⟩ (hZ.kept hkp hwc hX) (hZk.kept hkp hwc hX) (hHs.kept hkp hwc hX) (hHk.kept hkp hwc hX) rfl rfl), hJ.2, fun p hp => Or.inl hp⟩, hz, fun q h1 h2 => hkp q h1 (fun h => h2 (bl_A hwc _ h))⟩

set_option maxHeartbeats 4000000 in
set_option maxRecDepth 100000 in
theorem w_edges (l : Launch) (dC : Nat → ClassId) (dI : Nat → Nat → Nat) (gd : Nat → Nat) (kA : Nat) (ad : Nat → Nat) (cB bS : Nat) (sK sV : Nat → Nat) (Y : Nat → Prop) (ik : Int32) (vs kvs : VS) (tl : List Nat) (T : List (ClassId × FieldType)) (h0 : Nat) (X : va_W) (mk : Int64) (sz : Nat) : Met l yX11_edges wsX11_edges ({ frames := 1, cells := 0, slots := 0, locals := 21 } : Room) (va_Pc [.ref h0, .long mk] (fun U => U.heap.size = sz ∧ XI dC dI ad bS Y ik vs kvs tl T h0 X U.heap ∧ va_K (dC, dI) vwCl T U ∧ (∀ c ∈ X, ¬ Y c.1) ∧ (∀ q, sz ≤ q → ¬ Y q) ∧ GA gd kA ad cB bS sK sV (va_A X sz) U)) (va_Qi (fun (r : Int32) (u : Int32 × VS × VS × List Nat) => r = edR (vs.2.2.2.2.2.2.2.2.2.2.2.2) mk ∧ u = (ik, (vs.1, vs.2.1, vs.2.2.1, vs.2.2.2.1, vs.2.2.2.2.1, vs.2.2.2.2.2.1, vs.2.2.2.2.2.2.1, vs.2.2.2.2.2.2.2.1, vs.2.2.2.2.2.2.2.2.1, vs.2.2.2.2.2.2.2.2.2.1, vs.2.2.2.2.2.2.2.2.2.2.1, vs.2.2.2.2.2.2.2.2.2.2.2.1, edN (vs.2.2.2.2.2.2.2.2.2.2.2.2) mk), kvs, tl)) (fun (u : Int32 × VS × VS × List Nat) (t : State) => ∃ (X1 : va_W) (T1 : List (ClassId × FieldType)), XI dC dI ad bS Y u.1 u.2.1 u.2.2.1 u.2.2.2 T1 h0 X1 t.heap ∧ va_D (va_A X sz) X1 ∧ ∀ p ∈ T1, p ∈ T ∨ va_K (dC, dI) vwCl [p] t) (va_A X sz)) 0 0 (va_A X sz) := by
  refine met_wrap (fun args s hPc => ?_)
  obtain ⟨rfl, rfl, hXI, hK, hY1, hY2, hGA⟩ := hPc
  have hXI0 := hXI
  refine hXI _ (fun sc kp bl go ch bo aTp ts aHl nh ee mi sn aHs n aWk wz aBk bz aFc cTp fTp cHs fHs cWk fWk cBk fBk cFc fFc kTp kts kHl knh kee kmi ksn kHs kn kWk kwz kBk kbz kFc kcTp kfTp kcHs kfHs kcWk kfWk kcBk kfBk kcFc kfFc esg ecl eW eA eE eC cdd etv szz att em ceW feW ceA feA ceE feE ceC feC gR gO lk gS cR fR cO fO i0 scl ft fr dr tO hO cD fD cTO rt cT ft0 ft1 ft2 cHO rh cH g0 g1 g2 g3 g4 g5 g6 g7 sg cl bW bA bE bC hcd tpv hsz hat nmb cbW fbW cbA fbA cbE fbE cbC fbC ksg kcl kbW kbA kbE kbC khcd ktpv khsz khat knmb kcbW kfbW kcbA kfbA kcbE kfbE kcbC kfbC yi ya yk yv yc kyi kya kyk kyv kyc tc ktc hC khC LB hX hLB hP hD hTF hTH hTK hq1 hq2 hlk hq3 hq4 hq5 hZ hZk hHs hHk hvs hkv => ?_)
  subst hvs
  subst hkv
  obtain ⟨oTs, oNh, oN, oWz, oBz, oHs, oHn, oYk, oYv, oWk, oBk, oYt, oTx, oEe, oMi, oYc⟩ := hq1
  obtain ⟨koTs, koNh, koN, koWz, koBz, koHs, koHn, koYk, koYv, koWk, koBk, koYt, koTx, koEe, koMi, koYc⟩ := hq2
  obtain ⟨zcl, zE, zC, zH⟩ := hq3
  obtain ⟨kzcl, kzE, kzC, kzH⟩ := hq4
  obtain ⟨hcl, hem, zeE, zeC⟩ := hq5
  subst hX
  have hwc := bl_mem (G := [(zo13rrirrrr h0 sc kp ik bl go ch bo), (zo10ririliiriririr sc aTp (nI ts) aHl (nI nh) (lN ee) mi sn aHs (nI n) aWk (nI wz) aBk (nI bz) aFc), (zaI aTp cTp 100 fTp), (zaR aHs cHs 8 fHs), (zaI aWk cWk 6 fWk), (zaI aBk cBk 12 fBk), (zaI aFc cFc 6 fFc), (zo10ririliiriririr kp kTp (nI kts) kHl (nI knh) (lN kee) kmi ksn kHs (nI kn) kWk (nI kwz) kBk (nI kbz) kFc), (zaI kTp kcTp 100 kfTp), (zaR kHs kcHs 8 kfHs), (zaI kWk kcWk 6 kfWk), (zaI kBk kcBk 12 kfBk), (zaI kFc kcFc 6 kfFc), (zo7iirrrriviii bl esg (nI ecl) eW eA eE eC cdd etv szz att (nI em)), (zaI eW ceW 10 feW), (zaI eA ceA 10 feA), (zaI eE ceE 10 feE), (zaI eC ceC 100 feC), (zo4rrir go gR gO (nI lk) gS), (zaI gR cR 8 fR), (zaI gO cO 8 fO), (zo5iiii gS 0 (nI i0) 0 scl), (zo2lirrr ch ft fr dr tO hO), (zaI dr cD 36 fD), (zaR tO cTO 3 (fun i => if i < 3 then some (rt i) else none)), (zaL (rt 0) cT 36 ft0), (zaL (rt 1) cT 36 ft1), (zaL (rt 2) cT 36 ft2), (zaR hO cHO 8 (fun i => if i < 8 then some (rh i) else none)), (zaI (rh 0) cH 36 g0), (zaI (rh 1) cH 36 g1), (zaI (rh 2) cH 36 g2), (zaI (rh 3) cH 36 g3), (zaI (rh 4) cH 36 g4), (zaI (rh 5) cH 36 g5), (zaI (rh 6) cH 36 g6), (zaI (rh 7) cH 36 g7)]) (F := [(zo13rrirrrr h0 sc kp ik bl go ch bo), (zo10ririliiriririr sc aTp (nI ts) aHl (nI nh) (lN ee) mi sn aHs (nI n) aWk (nI wz) aBk (nI bz) aFc)]) (T := LB) [0, 1] rfl
  have hPc := bl_sub (F := [(zo13rrirrrr h0 sc kp ik bl go ch bo), (zo10ririliiriririr sc aTp (nI ts) aHl (nI nh) (lN ee) mi sn aHs (nI n) aWk (nI wz) aBk (nI bz) aFc)]) hP [0, 1] rfl
  refine ⟨_, _, _, c_xEdges l dC dI h0 sc kp bl go ch bo aTp aHl aHs aWk aBk aFc ts nh n wz bz mi sn ik mk ee s.heap.size oEe, ⟨rfl, rfl, hPc, (K_mem hK hTF).sub [] rfl, bl_Dsub hD [0, 1] (by decide) rfl⟩, fun o t hQ => ?_, fun q hq => bl_A hwc q hq⟩
  obtain ⟨⟨r, u9, rfl, hpost, hB⟩, hz, hkp⟩ := hQ
  obtain ⟨ed9, rfl⟩ : ∃ z9, z9 = u9 := ⟨_, rfl⟩
  try dsimp only at hpost hB
  obtain ⟨hP1, hK1, hD1⟩ := hB
  obtain ⟨hr9, hpost⟩ := hpost
  rcases hpost with ⟨hk9, e9⟩ | ⟨hk9, e, he, em9, e9⟩
  · skip
    subst e9
    have hJ := bl_gen (F' := [(zo13rrirrrr h0 sc kp ik bl go ch bo), (zo10ririliiriririr sc aTp (nI ts) aHl (nI nh) (lN ee) mi sn aHs (nI n) aWk (nI wz) aBk (nI bz) aFc), (zaI aTp cTp 100 fTp), (zaR aHs cHs 8 fHs), (zaI aWk cWk 6 fWk), (zaI aBk cBk 12 fBk), (zaI aFc cFc 6 fFc), (zo10ririliiriririr kp kTp (nI kts) kHl (nI knh) (lN kee) kmi ksn kHs (nI kn) kWk (nI kwz) kBk (nI kbz) kFc), (zaI kTp kcTp 100 kfTp), (zaR kHs kcHs 8 kfHs), (zaI kWk kcWk 6 kfWk), (zaI kBk kcBk 12 kfBk), (zaI kFc kcFc 6 kfFc), (zo7iirrrriviii bl esg (nI ecl) eW eA eE eC cdd etv szz att (nI em)), (zaI eW ceW 10 feW), (zaI eA ceA 10 feA), (zaI eE ceE 10 feE), (zaI eC ceC 100 feC), (zo4rrir go gR gO (nI lk) gS), (zaI gR cR 8 fR), (zaI gO cO 8 fO), (zo5iiii gS 0 (nI i0) 0 scl), (zo2lirrr ch ft fr dr tO hO), (zaI dr cD 36 fD), (zaR tO cTO 3 (fun i => if i < 3 then some (rt i) else none)), (zaL (rt 0) cT 36 ft0), (zaL (rt 1) cT 36 ft1), (zaL (rt 2) cT 36 ft2), (zaR hO cHO 8 (fun i => if i < 8 then some (rh i) else none)), (zaI (rh 0) cH 36 g0), (zaI (rh 1) cH 36 g1), (zaI (rh 2) cH 36 g2), (zaI (rh 3) cH 36 g3), (zaI (rh 4) cH 36 g4), (zaI (rh 5) cH 36 g5), (zaI (rh 6) cH 36 g6), (zaI (rh 7) cH 36 g7)]) hP hD [0, 1] rfl hkp hP1 hD1 [some 0, some 1, none, none, none, none, none, none, none, none, none, none, none, none, none, none, none, none, none, none, none, none, none, none, none, none, none, none, none, none, none, none, none, none, none, none, none] [0, 1] rfl (Or.inl rfl) rfl
    have hX := D_mem hJ.2
    exact ⟨⟨r, (ik, (n, wz, bz, mi, sn, yk, yv, yc, nh, ts, tc, hC, ee), (kn, kwz, kbz, kmi, ksn, kyk, kyv, kyc, knh, kts, ktc, khC, kee), tl), rfl, ⟨hr9, u_eq (by rw [← edN_no hk9])⟩, _, T, (fun M9 k9 => k9 sc kp bl go ch bo aTp ts aHl nh ee mi sn aHs n aWk wz aBk bz aFc cTp fTp cHs fHs cWk fWk cBk fBk cFc fFc kTp kts kHl knh kee kmi ksn kHs kn kWk kwz kBk kbz kFc kcTp kfTp kcHs kfHs kcWk kfWk kcBk kfBk kcFc kfFc esg ecl eW eA eE eC cdd etv szz att em ceW feW ceA feA ceE feE ceC feC gR gO lk gS cR fR cO fO i0 scl ft fr dr tO hO cD fD cTO rt cT ft0 ft1 ft2 cHO rh cH g0 g1 g2 g3 g4 g5 g6 g7 sg cl bW bA bE bC hcd tpv hsz hat nmb cbW fbW cbA fbA cbE fbE cbC fbC ksg kcl kbW kbA kbE kbC khcd ktpv khsz khat knmb kcbW kfbW kcbA kfbA kcbE kfbE kcbC kfbC yi ya yk yv yc kyi kya kyk kyv kyc tc ktc hC khC LB rfl (hLB) hJ.1 ⟨hJ.2.1, fun _ _ _ => trivial⟩ (hTF) (hTH) (hTK) ⟨oTs, oNh, oN, oWz, oBz, oHs, oHn, oYk, oYv, oWk, oBk, oYt, oTx, oEe, oMi, oYc⟩ ⟨koTs, koNh, koN, koWz, koBz, koHs, koHn, koYk, koYv, koWk, koBk, koYt, koTx, koEe, koMi, koYc⟩ (hlk) ⟨zcl, zE, zC, zH⟩ ⟨kzcl, kzE, kzC, kzH⟩ ⟨hcl, hem, zeE, zeC⟩ (hZ.kept hkp hwc hX) (hZk.kept hkp hwc hX) (hHs.kept hkp hwc hX) (hHk.kept hkp hwc hX) rfl rfl), hJ.2, fun p hp => Or.inl hp⟩, hz, fun q h1 h2 => hkp q h1 (fun h => h2 (bl_A hwc _ h))⟩
  · skip
    subst e9
    subst em9
    have hJ := bl_gen (F' := [(zo13rrirrrr h0 sc kp ik bl go ch bo), (zo10ririliiriririr sc aTp (nI ts) aHl (nI nh) (lN e) mi sn aHs (nI n) aWk (nI wz) aBk (nI bz) aFc), (zaI aTp cTp 100 fTp), (zaR aHs cHs 8 fHs), (zaI aWk cWk 6 fWk), (zaI aBk cBk 12 fBk), (zaI aFc cFc 6 fFc), (zo10ririliiriririr kp kTp (nI kts) kHl (nI knh) (lN kee) kmi ksn kHs (nI kn) kWk (nI kwz) kBk (nI kbz) kFc), (zaI kTp kcTp 100 kfTp), (zaR kHs kcHs 8 kfHs), (zaI kWk kcWk 6 kfWk), (zaI kBk kcBk 12 kfBk), (zaI kFc kcFc 6 kfFc), (zo7iirrrriviii bl esg (nI ecl) eW eA eE eC cdd etv szz att (nI em)), (zaI eW ceW 10 feW), (zaI eA ceA 10 feA), (zaI eE ceE 10 feE), (zaI eC ceC 100 feC), (zo4rrir go gR gO (nI lk) gS), (zaI gR cR 8 fR), (zaI gO cO 8 fO), (zo5iiii gS 0 (nI i0) 0 scl), (zo2lirrr ch ft fr dr tO hO), (zaI dr cD 36 fD), (zaR tO cTO 3 (fun i => if i < 3 then some (rt i) else none)), (zaL (rt 0) cT 36 ft0), (zaL (rt 1) cT 36 ft1), (zaL (rt 2) cT 36 ft2), (zaR hO cHO 8 (fun i => if i < 8 then some (rh i) else none)), (zaI (rh 0) cH 36 g0), (zaI (rh 1) cH 36 g1), (zaI (rh 2) cH 36 g2), (zaI (rh 3) cH 36 g3), (zaI (rh 4) cH 36 g4), (zaI (rh 5) cH 36 g5), (zaI (rh 6) cH 36 g6), (zaI (rh 7) cH 36 g7)]) hP hD [0, 1] rfl hkp hP1 hD1 [some 0, some 1, none, none, none, none, none, none, none, none, none, none, none, none, none, none, none, none, none, none, none, none, none, none, none, none, none, none, none, none, none, none, none, none, none, none, none] [0, 1] rfl (Or.inl rfl) rfl
    have hX := D_mem hJ.2
    exact ⟨⟨r, (ik, (n, wz, bz, mi, sn, yk, yv, yc, nh, ts, tc, hC, e), (kn, kwz, kbz, kmi, ksn, kyk, kyv, kyc, knh, kts, ktc, khC, kee), tl), rfl, ⟨hr9, u_eq (by rw [← edN_yes he hk9])⟩, _, T, (fun M9 k9 => k9 sc kp bl go ch bo aTp ts aHl nh (e) mi sn aHs n aWk wz aBk bz aFc cTp fTp cHs fHs cWk fWk cBk fBk cFc fFc kTp kts kHl knh kee kmi ksn kHs kn kWk kwz kBk kbz kFc kcTp kfTp kcHs kfHs kcWk kfWk kcBk kfBk kcFc kfFc esg ecl eW eA eE eC cdd etv szz att em ceW feW ceA feA ceE feE ceC feC gR gO lk gS cR fR cO fO i0 scl ft fr dr tO hO cD fD cTO rt cT ft0 ft1 ft2 cHO rh cH g0 g1 g2 g3 g4 g5 g6 g7 sg cl bW bA bE bC hcd tpv hsz hat nmb cbW fbW cbA fbA cbE fbE cbC fbC ksg kcl kbW kbA kbE kbC khcd ktpv khsz khat knmb kcbW kfbW kcbA kfbA kcbE kfbE kcbC kfbC yi ya yk yv yc kyi kya kyk kyv kyc tc ktc hC khC LB rfl (hLB) hJ.1 ⟨hJ.2.1, fun _ _ _ => trivial⟩ (hTF) (hTH) (hTK) ⟨oTs, oNh, oN, oWz, oBz, oHs, oHn, oYk, oYv, oWk, oBk, oYt, oTx, he, oMi, oYc⟩ ⟨koTs, koNh, koN, koWz, koBz, koHs, koHn, koYk, koYv, koWk, koBk, koYt, koTx, koEe, koMi, koYc⟩ (hlk) ⟨zcl, zE, zC, zH⟩ ⟨kzcl, kzE, kzC, kzH⟩ ⟨hcl, hem, zeE, zeC⟩ (hZ.kept hkp hwc hX) (hZk.kept hkp hwc hX) (hHs.kept hkp hwc hX) (hHk.kept hkp hwc hX) rfl rfl), hJ.2, fun p hp => Or.inl hp⟩, hz, fun q h1 h2 => hkp q h1 (fun h => h2 (bl_A hwc _ h))⟩

set_option maxHeartbeats 4000000 in
set_option maxRecDepth 100000 in
theorem w_of (l : Launch) (dC : Nat → ClassId) (dI : Nat → Nat → Nat) (gd : Nat → Nat) (kA : Nat) (ad : Nat → Nat) (cB bS : Nat) (sK sV : Nat → Nat) (Y : Nat → Prop) (ik : Int32) (vs kvs : VS) (tl : List Nat) (T : List (ClassId × FieldType)) (h0 : Nat) (X : va_W) (x : Int32) (y : Int32) (sz : Nat) : Met l yX11_of wsX11_of ({ frames := 5, cells := 0, slots := 0, locals := 102 } : Room) (va_Pc [.ref h0, .int x, .int y] (fun U => U.heap.size = sz ∧ XI dC dI ad bS Y ik vs kvs tl T h0 X U.heap ∧ va_K (dC, dI) vwCl T U ∧ (∀ c ∈ X, ¬ Y c.1) ∧ (∀ q, sz ≤ q → ¬ Y q) ∧ GA gd kA ad cB bS sK sV (va_A X sz) U)) (va_Qi (fun (r : Int32) (u : Int32 × VS × VS × List Nat) => r = ofR (vs.1) (vs.2.2.2.2.2.1) (vs.2.2.2.2.2.2.1) (vs.2.2.2.2.2.2.2.1) (vs.2.2.2.2.2.2.2.2.2.2.2.1) (vs.2.2.2.1) (vs.2.2.2.2.1) x y ∧ u = (ik, vs, kvs, tl)) (fun (u : Int32 × VS × VS × List Nat) (t : State) => ∃ (X1 : va_W) (T1 : List (ClassId × FieldType)), XI dC dI ad bS Y u.1 u.2.1 u.2.2.1 u.2.2.2 T1 h0 X1 t.heap ∧ va_D (va_A X sz) X1 ∧ ∀ p ∈ T1, p ∈ T ∨ va_K (dC, dI) vwCl [p] t) (va_A X sz)) 0 0 (va_A X sz) := by
  refine met_wrap (fun args s hPc => ?_)
  obtain ⟨rfl, rfl, hXI, hK, hY1, hY2, hGA⟩ := hPc
  have hXI0 := hXI
  refine hXI _ (fun sc kp bl go ch bo aTp ts aHl nh ee mi sn aHs n aWk wz aBk bz aFc cTp fTp cHs fHs cWk fWk cBk fBk cFc fFc kTp kts kHl knh kee kmi ksn kHs kn kWk kwz kBk kbz kFc kcTp kfTp kcHs kfHs kcWk kfWk kcBk kfBk kcFc kfFc esg ecl eW eA eE eC cdd etv szz att em ceW feW ceA feA ceE feE ceC feC gR gO lk gS cR fR cO fO i0 scl ft fr dr tO hO cD fD cTO rt cT ft0 ft1 ft2 cHO rh cH g0 g1 g2 g3 g4 g5 g6 g7 sg cl bW bA bE bC hcd tpv hsz hat nmb cbW fbW cbA fbA cbE fbE cbC fbC ksg kcl kbW kbA kbE kbC khcd ktpv khsz khat knmb kcbW kfbW kcbA kfbA kcbE kfbE kcbC kfbC yi ya yk yv yc kyi kya kyk kyv kyc tc ktc hC khC LB hX hLB hP hD hTF hTH hTK hq1 hq2 hlk hq3 hq4 hq5 hZ hZk hHs hHk hvs hkv => ?_)
  subst hvs
  subst hkv
  obtain ⟨oTs, oNh, oN, oWz, oBz, oHs, oHn, oYk, oYv, oWk, oBk, oYt, oTx, oEe, oMi, oYc⟩ := hq1
  obtain ⟨koTs, koNh, koN, koWz, koBz, koHs, koHn, koYk, koYv, koWk, koBk, koYt, koTx, koEe, koMi, koYc⟩ := hq2
  obtain ⟨zcl, zE, zC, zH⟩ := hq3
  obtain ⟨kzcl, kzE, kzC, kzH⟩ := hq4
  obtain ⟨hcl, hem, zeE, zeC⟩ := hq5
  subst hX
  have hwc := bl_mem (G := [(zo13rrirrrr h0 sc kp ik bl go ch bo), (zo10ririliiriririr sc aTp (nI ts) aHl (nI nh) (lN ee) mi sn aHs (nI n) aWk (nI wz) aBk (nI bz) aFc), (zaI aTp cTp 100 fTp), (zaR aHs cHs 8 fHs), (zaI aWk cWk 6 fWk), (zaI aBk cBk 12 fBk), (zaI aFc cFc 6 fFc), (zo10ririliiriririr kp kTp (nI kts) kHl (nI knh) (lN kee) kmi ksn kHs (nI kn) kWk (nI kwz) kBk (nI kbz) kFc), (zaI kTp kcTp 100 kfTp), (zaR kHs kcHs 8 kfHs), (zaI kWk kcWk 6 kfWk), (zaI kBk kcBk 12 kfBk), (zaI kFc kcFc 6 kfFc), (zo7iirrrriviii bl esg (nI ecl) eW eA eE eC cdd etv szz att (nI em)), (zaI eW ceW 10 feW), (zaI eA ceA 10 feA), (zaI eE ceE 10 feE), (zaI eC ceC 100 feC), (zo4rrir go gR gO (nI lk) gS), (zaI gR cR 8 fR), (zaI gO cO 8 fO), (zo5iiii gS 0 (nI i0) 0 scl), (zo2lirrr ch ft fr dr tO hO), (zaI dr cD 36 fD), (zaR tO cTO 3 (fun i => if i < 3 then some (rt i) else none)), (zaL (rt 0) cT 36 ft0), (zaL (rt 1) cT 36 ft1), (zaL (rt 2) cT 36 ft2), (zaR hO cHO 8 (fun i => if i < 8 then some (rh i) else none)), (zaI (rh 0) cH 36 g0), (zaI (rh 1) cH 36 g1), (zaI (rh 2) cH 36 g2), (zaI (rh 3) cH 36 g3), (zaI (rh 4) cH 36 g4), (zaI (rh 5) cH 36 g5), (zaI (rh 6) cH 36 g6), (zaI (rh 7) cH 36 g7)]) (F := [(zo13rrirrrr h0 sc kp ik bl go ch bo), (zo10ririliiriririr sc aTp (nI ts) aHl (nI nh) (lN ee) mi sn aHs (nI n) aWk (nI wz) aBk (nI bz) aFc), (zaR aHs cHs 8 fHs), (zaI aFc cFc 6 fFc)]) (T := LB) [0, 1, 3, 6] rfl
  have hPc := bl_sub (F := [(zo13rrirrrr h0 sc kp ik bl go ch bo), (zo10ririliiriririr sc aTp (nI ts) aHl (nI nh) (lN ee) mi sn aHs (nI n) aWk (nI wz) aBk (nI bz) aFc), (zaR aHs cHs 8 fHs), (zaI aFc cFc 6 fFc)]) hP [0, 1, 3, 6] rfl
  refine ⟨_, _, _, c_xOf l dC dI gd h0 sc kp bl go ch bo aTp aHl aHs aWk aBk aFc bW bA bE bC ts nh n wz bz cl mi sn sg hcd hsz hat nmb ik x y (lN ee) cHs cFc cbW cbA cbE cbC fFc fbW fbA fbE fbC yk yv yc fHs yi ya tpv hC s.heap.size oHs oN zcl zE zC zH oYt, ⟨rfl, rfl, hPc, (K_mem hK hTF).sub [1, 4] rfl, bl_Dsub hD [0, 1, 3, 6] (by decide) rfl, hGA.1.call va_S.rf rfl (State.WarmedH.refl s) (bl_A hwc), hGA.2.1.call va_S.rf rfl (State.WarmedH.refl s) (bl_A hwc), hZ.at (K_mem hK hTH) hwc, hHs.at (K_mem hK (fun _ q => absurd q List.not_mem_nil)) hwc⟩, fun o t hQ => ?_, fun q hq => bl_A hwc q hq⟩
  obtain ⟨⟨r, u9, rfl, hpost, hB⟩, hz, hkp⟩ := hQ
  obtain ⟨fFc9, rfl⟩ : ∃ z9, z9 = u9 := ⟨_, rfl⟩
  try dsimp only at hpost hB
  obtain ⟨hP1, hK1, hD1⟩ := hB
  have hJ := bl_gen (F' := [(zo13rrirrrr h0 sc kp ik bl go ch bo), (zo10ririliiriririr sc aTp (nI ts) aHl (nI nh) (lN ee) mi sn aHs (nI n) aWk (nI wz) aBk (nI bz) aFc), (zaI aTp cTp 100 fTp), (zaR aHs cHs 8 fHs), (zaI aWk cWk 6 fWk), (zaI aBk cBk 12 fBk), (zaI aFc cFc 6 fFc9), (zo10ririliiriririr kp kTp (nI kts) kHl (nI knh) (lN kee) kmi ksn kHs (nI kn) kWk (nI kwz) kBk (nI kbz) kFc), (zaI kTp kcTp 100 kfTp), (zaR kHs kcHs 8 kfHs), (zaI kWk kcWk 6 kfWk), (zaI kBk kcBk 12 kfBk), (zaI kFc kcFc 6 kfFc), (zo7iirrrriviii bl esg (nI ecl) eW eA eE eC cdd etv szz att (nI em)), (zaI eW ceW 10 feW), (zaI eA ceA 10 feA), (zaI eE ceE 10 feE), (zaI eC ceC 100 feC), (zo4rrir go gR gO (nI lk) gS), (zaI gR cR 8 fR), (zaI gO cO 8 fO), (zo5iiii gS 0 (nI i0) 0 scl), (zo2lirrr ch ft fr dr tO hO), (zaI dr cD 36 fD), (zaR tO cTO 3 (fun i => if i < 3 then some (rt i) else none)), (zaL (rt 0) cT 36 ft0), (zaL (rt 1) cT 36 ft1), (zaL (rt 2) cT 36 ft2), (zaR hO cHO 8 (fun i => if i < 8 then some (rh i) else none)), (zaI (rh 0) cH 36 g0), (zaI (rh 1) cH 36 g1), (zaI (rh 2) cH 36 g2), (zaI (rh 3) cH 36 g3), (zaI (rh 4) cH 36 g4), (zaI (rh 5) cH 36 g5), (zaI (rh 6) cH 36 g6), (zaI (rh 7) cH 36 g7)]) hP hD [0, 1, 3, 6] rfl hkp hP1 hD1 [some 0, some 1, none, some 2, none, none, some 3, none, none, none, none, none, none, none, none, none, none, none, none, none, none, none, none, none, none, none, none, none, none, none, none, none, none, none, none, none, none] [0, 1, 3, 6] rfl (Or.inl rfl) rfl
  have hX := D_mem hJ.2
  exact ⟨⟨r, (ik, (n, wz, bz, mi, sn, yk, yv, yc, nh, ts, tc, hC, ee), (kn, kwz, kbz, kmi, ksn, kyk, kyv, kyc, knh, kts, ktc, khC, kee), tl), rfl, ⟨hpost, rfl⟩, _, T, (fun M9 k9 => k9 sc kp bl go ch bo aTp ts aHl nh ee mi sn aHs n aWk wz aBk bz aFc cTp fTp cHs fHs cWk fWk cBk fBk cFc (fFc9) kTp kts kHl knh kee kmi ksn kHs kn kWk kwz kBk kbz kFc kcTp kfTp kcHs kfHs kcWk kfWk kcBk kfBk kcFc kfFc esg ecl eW eA eE eC cdd etv szz att em ceW feW ceA feA ceE feE ceC feC gR gO lk gS cR fR cO fO i0 scl ft fr dr tO hO cD fD cTO rt cT ft0 ft1 ft2 cHO rh cH g0 g1 g2 g3 g4 g5 g6 g7 sg cl bW bA bE bC hcd tpv hsz hat nmb cbW fbW cbA fbA cbE fbE cbC fbC ksg kcl kbW kbA kbE kbC khcd ktpv khsz khat knmb kcbW kfbW kcbA kfbA kcbE kfbE kcbC kfbC yi ya yk yv yc kyi kya kyk kyv kyc tc ktc hC khC LB rfl (hLB) hJ.1 ⟨hJ.2.1, fun _ _ _ => trivial⟩ (hTF) (hTH) (hTK) ⟨oTs, oNh, oN, oWz, oBz, oHs, oHn, oYk, oYv, oWk, oBk, oYt, oTx, oEe, oMi, oYc⟩ ⟨koTs, koNh, koN, koWz, koBz, koHs, koHn, koYk, koYv, koWk, koBk, koYt, koTx, koEe, koMi, koYc⟩ (hlk) ⟨zcl, zE, zC, zH⟩ ⟨kzcl, kzE, kzC, kzH⟩ ⟨hcl, hem, zeE, zeC⟩ (hZ.kept hkp hwc hX) (hZk.kept hkp hwc hX) (hHs.kept hkp hwc hX) (hHk.kept hkp hwc hX) rfl rfl), hJ.2, fun p hp => Or.inl hp⟩, hz, fun q h1 h2 => hkp q h1 (fun h => h2 (bl_A hwc _ h))⟩

set_option maxHeartbeats 4000000 in
set_option maxRecDepth 100000 in
theorem w_sees (l : Launch) (dC : Nat → ClassId) (dI : Nat → Nat → Nat) (gd : Nat → Nat) (kA : Nat) (ad : Nat → Nat) (cB bS : Nat) (sK sV : Nat → Nat) (Y : Nat → Prop) (ik : Int32) (vs kvs : VS) (tl : List Nat) (T : List (ClassId × FieldType)) (h0 : Nat) (X : va_W) (x : Int32) (sz : Nat) : Met l yX11_sees wsX11_sees ({ frames := 6, cells := 0, slots := 0, locals := 125 } : Room) (va_Pc [.ref h0, .int x] (fun U => U.heap.size = sz ∧ XI dC dI ad bS Y ik vs kvs tl T h0 X U.heap ∧ va_K (dC, dI) vwCl T U ∧ (∀ c ∈ X, ¬ Y c.1) ∧ (∀ q, sz ≤ q → ¬ Y q) ∧ GA gd kA ad cB bS sK sV (va_A X sz) U)) (va_Qi (fun (r : Int32) (u : Int32 × VS × VS × List Nat) => r = seR (vs.1) (vs.2.2.2.2.2.1) (vs.2.2.2.2.2.2.1) (vs.2.2.2.2.2.2.2.1) (vs.2.2.2.2.2.2.2.2.2.2.2.1) (vs.2.2.2.1) (vs.2.2.2.2.1) x ∧ u = (ik, vs, kvs, tl)) (fun (u : Int32 × VS × VS × List Nat) (t : State) => ∃ (X1 : va_W) (T1 : List (ClassId × FieldType)), XI dC dI ad bS Y u.1 u.2.1 u.2.2.1 u.2.2.2 T1 h0 X1 t.heap ∧ va_D (va_A X sz) X1 ∧ ∀ p ∈ T1, p ∈ T ∨ va_K (dC, dI) vwCl [p] t) (va_A X sz)) 0 0 (va_A X sz) := by
  refine met_wrap (fun args s hPc => ?_)
  obtain ⟨rfl, rfl, hXI, hK, hY1, hY2, hGA⟩ := hPc
  have hXI0 := hXI
  refine hXI _ (fun sc kp bl go ch bo aTp ts aHl nh ee mi sn aHs n aWk wz aBk bz aFc cTp fTp cHs fHs cWk fWk cBk fBk cFc fFc kTp kts kHl knh kee kmi ksn kHs kn kWk kwz kBk kbz kFc kcTp kfTp kcHs kfHs kcWk kfWk kcBk kfBk kcFc kfFc esg ecl eW eA eE eC cdd etv szz att em ceW feW ceA feA ceE feE ceC feC gR gO lk gS cR fR cO fO i0 scl ft fr dr tO hO cD fD cTO rt cT ft0 ft1 ft2 cHO rh cH g0 g1 g2 g3 g4 g5 g6 g7 sg cl bW bA bE bC hcd tpv hsz hat nmb cbW fbW cbA fbA cbE fbE cbC fbC ksg kcl kbW kbA kbE kbC khcd ktpv khsz khat knmb kcbW kfbW kcbA kfbA kcbE kfbE kcbC kfbC yi ya yk yv yc kyi kya kyk kyv kyc tc ktc hC khC LB hX hLB hP hD hTF hTH hTK hq1 hq2 hlk hq3 hq4 hq5 hZ hZk hHs hHk hvs hkv => ?_)
  subst hvs
  subst hkv
  obtain ⟨oTs, oNh, oN, oWz, oBz, oHs, oHn, oYk, oYv, oWk, oBk, oYt, oTx, oEe, oMi, oYc⟩ := hq1
  obtain ⟨koTs, koNh, koN, koWz, koBz, koHs, koHn, koYk, koYv, koWk, koBk, koYt, koTx, koEe, koMi, koYc⟩ := hq2
  obtain ⟨zcl, zE, zC, zH⟩ := hq3
  obtain ⟨kzcl, kzE, kzC, kzH⟩ := hq4
  obtain ⟨hcl, hem, zeE, zeC⟩ := hq5
  subst hX
  have hwc := bl_mem (G := [(zo13rrirrrr h0 sc kp ik bl go ch bo), (zo10ririliiriririr sc aTp (nI ts) aHl (nI nh) (lN ee) mi sn aHs (nI n) aWk (nI wz) aBk (nI bz) aFc), (zaI aTp cTp 100 fTp), (zaR aHs cHs 8 fHs), (zaI aWk cWk 6 fWk), (zaI aBk cBk 12 fBk), (zaI aFc cFc 6 fFc), (zo10ririliiriririr kp kTp (nI kts) kHl (nI knh) (lN kee) kmi ksn kHs (nI kn) kWk (nI kwz) kBk (nI kbz) kFc), (zaI kTp kcTp 100 kfTp), (zaR kHs kcHs 8 kfHs), (zaI kWk kcWk 6 kfWk), (zaI kBk kcBk 12 kfBk), (zaI kFc kcFc 6 kfFc), (zo7iirrrriviii bl esg (nI ecl) eW eA eE eC cdd etv szz att (nI em)), (zaI eW ceW 10 feW), (zaI eA ceA 10 feA), (zaI eE ceE 10 feE), (zaI eC ceC 100 feC), (zo4rrir go gR gO (nI lk) gS), (zaI gR cR 8 fR), (zaI gO cO 8 fO), (zo5iiii gS 0 (nI i0) 0 scl), (zo2lirrr ch ft fr dr tO hO), (zaI dr cD 36 fD), (zaR tO cTO 3 (fun i => if i < 3 then some (rt i) else none)), (zaL (rt 0) cT 36 ft0), (zaL (rt 1) cT 36 ft1), (zaL (rt 2) cT 36 ft2), (zaR hO cHO 8 (fun i => if i < 8 then some (rh i) else none)), (zaI (rh 0) cH 36 g0), (zaI (rh 1) cH 36 g1), (zaI (rh 2) cH 36 g2), (zaI (rh 3) cH 36 g3), (zaI (rh 4) cH 36 g4), (zaI (rh 5) cH 36 g5), (zaI (rh 6) cH 36 g6), (zaI (rh 7) cH 36 g7)]) (F := [(zo13rrirrrr h0 sc kp ik bl go ch bo), (zo4rrir go gR gO (nI lk) gS), (zaI gR cR 8 fR), (zo10ririliiriririr sc aTp (nI ts) aHl (nI nh) (lN ee) mi sn aHs (nI n) aWk (nI wz) aBk (nI bz) aFc), (zaR aHs cHs 8 fHs), (zaI aFc cFc 6 fFc)]) (T := LB) [0, 18, 19, 1, 3, 6] rfl
  have hPc := bl_sub (F := [(zo13rrirrrr h0 sc kp ik bl go ch bo), (zo4rrir go gR gO (nI lk) gS), (zaI gR cR 8 fR), (zo10ririliiriririr sc aTp (nI ts) aHl (nI nh) (lN ee) mi sn aHs (nI n) aWk (nI wz) aBk (nI bz) aFc), (zaR aHs cHs 8 fHs), (zaI aFc cFc 6 fFc)]) hP [0, 18, 19, 1, 3, 6] rfl
  refine ⟨_, _, _, c_xSees l dC dI gd h0 sc kp bl go ch bo aTp aHl aHs aWk aBk aFc bW bA bE bC gR gO gS ts nh n wz bz lk cl mi sn sg hcd hsz hat nmb ik x (lN ee) cHs cFc cbW cbA cbE cbC cR fFc fbW fbA fbE fbC fR yk yv yc fHs yi ya tpv hC s.heap.size oHs oN zcl zE zC zH oYt, ⟨rfl, rfl, hPc, (K_mem hK hTF).sub [14, 1, 4] rfl, bl_Dsub hD [0, 18, 19, 1, 3, 6] (by decide) rfl, hGA.1.call va_S.rf rfl (State.WarmedH.refl s) (bl_A hwc), hGA.2.1.call va_S.rf rfl (State.WarmedH.refl s) (bl_A hwc), hZ.at (K_mem hK hTH) hwc, hHs.at (K_mem hK (fun _ q => absurd q List.not_mem_nil)) hwc⟩, fun o t hQ => ?_, fun q hq => bl_A hwc q hq⟩
  obtain ⟨⟨r, u9, rfl, hpost, hB⟩, hz, hkp⟩ := hQ
  obtain ⟨fR9, fFc9⟩ := u9
  try dsimp only at hpost hB
  obtain ⟨hP1, hK1, hD1⟩ := hB
  have hJ := bl_gen (F' := [(zo13rrirrrr h0 sc kp ik bl go ch bo), (zo10ririliiriririr sc aTp (nI ts) aHl (nI nh) (lN ee) mi sn aHs (nI n) aWk (nI wz) aBk (nI bz) aFc), (zaI aTp cTp 100 fTp), (zaR aHs cHs 8 fHs), (zaI aWk cWk 6 fWk), (zaI aBk cBk 12 fBk), (zaI aFc cFc 6 fFc9), (zo10ririliiriririr kp kTp (nI kts) kHl (nI knh) (lN kee) kmi ksn kHs (nI kn) kWk (nI kwz) kBk (nI kbz) kFc), (zaI kTp kcTp 100 kfTp), (zaR kHs kcHs 8 kfHs), (zaI kWk kcWk 6 kfWk), (zaI kBk kcBk 12 kfBk), (zaI kFc kcFc 6 kfFc), (zo7iirrrriviii bl esg (nI ecl) eW eA eE eC cdd etv szz att (nI em)), (zaI eW ceW 10 feW), (zaI eA ceA 10 feA), (zaI eE ceE 10 feE), (zaI eC ceC 100 feC), (zo4rrir go gR gO (nI lk) gS), (zaI gR cR 8 fR9), (zaI gO cO 8 fO), (zo5iiii gS 0 (nI i0) 0 scl), (zo2lirrr ch ft fr dr tO hO), (zaI dr cD 36 fD), (zaR tO cTO 3 (fun i => if i < 3 then some (rt i) else none)), (zaL (rt 0) cT 36 ft0), (zaL (rt 1) cT 36 ft1), (zaL (rt 2) cT 36 ft2), (zaR hO cHO 8 (fun i => if i < 8 then some (rh i) else none)), (zaI (rh 0) cH 36 g0), (zaI (rh 1) cH 36 g1), (zaI (rh 2) cH 36 g2), (zaI (rh 3) cH 36 g3), (zaI (rh 4) cH 36 g4), (zaI (rh 5) cH 36 g5), (zaI (rh 6) cH 36 g6), (zaI (rh 7) cH 36 g7)]) hP hD [0, 18, 19, 1, 3, 6] rfl hkp hP1 hD1 [some 0, some 3, none, some 4, none, none, some 5, none, none, none, none, none, none, none, none, none, none, none, some 1, some 2, none, none, none, none, none, none, none, none, none, none, none, none, none, none, none, none, none] [0, 18, 19, 1, 3, 6] rfl (Or.inl rfl) rfl
  have hX := D_mem hJ.2
  exact ⟨⟨r, (ik, (n, wz, bz, mi, sn, yk, yv, yc, nh, ts, tc, hC, ee), (kn, kwz, kbz, kmi, ksn, kyk, kyv, kyc, knh, kts, ktc, khC, kee), tl), rfl, ⟨hpost, rfl⟩, _, T, (fun M9 k9 => k9 sc kp bl go ch bo aTp ts aHl nh ee mi sn aHs n aWk wz aBk bz aFc cTp fTp cHs fHs cWk fWk cBk fBk cFc (fFc9) kTp kts kHl knh kee kmi ksn kHs kn kWk kwz kBk kbz kFc kcTp kfTp kcHs kfHs kcWk kfWk kcBk kfBk kcFc kfFc esg ecl eW eA eE eC cdd etv szz att em ceW feW ceA feA ceE feE ceC feC gR gO lk gS cR (fR9) cO fO i0 scl ft fr dr tO hO cD fD cTO rt cT ft0 ft1 ft2 cHO rh cH g0 g1 g2 g3 g4 g5 g6 g7 sg cl bW bA bE bC hcd tpv hsz hat nmb cbW fbW cbA fbA cbE fbE cbC fbC ksg kcl kbW kbA kbE kbC khcd ktpv khsz khat knmb kcbW kfbW kcbA kfbA kcbE kfbE kcbC kfbC yi ya yk yv yc kyi kya kyk kyv kyc tc ktc hC khC LB rfl (hLB) hJ.1 ⟨hJ.2.1, fun _ _ _ => trivial⟩ (hTF) (hTH) (hTK) ⟨oTs, oNh, oN, oWz, oBz, oHs, oHn, oYk, oYv, oWk, oBk, oYt, oTx, oEe, oMi, oYc⟩ ⟨koTs, koNh, koN, koWz, koBz, koHs, koHn, koYk, koYv, koWk, koBk, koYt, koTx, koEe, koMi, koYc⟩ (hlk) ⟨zcl, zE, zC, zH⟩ ⟨kzcl, kzE, kzC, kzH⟩ ⟨hcl, hem, zeE, zeC⟩ (hZ.kept hkp hwc hX) (hZk.kept hkp hwc hX) (hHs.kept hkp hwc hX) (hHk.kept hkp hwc hX) rfl rfl), hJ.2, fun p hp => Or.inl hp⟩, hz, fun q h1 h2 => hkp q h1 (fun h => h2 (bl_A hwc _ h))⟩

set_option maxHeartbeats 4000000 in
set_option maxRecDepth 100000 in
theorem w_where (l : Launch) (dC : Nat → ClassId) (dI : Nat → Nat → Nat) (gd : Nat → Nat) (kA : Nat) (ad : Nat → Nat) (cB bS : Nat) (sK sV : Nat → Nat) (Y : Nat → Prop) (ik : Int32) (vs kvs : VS) (tl : List Nat) (T : List (ClassId × FieldType)) (h0 : Nat) (X : va_W) (x : Int32) (sz : Nat) : Met l yX11_where wsX11_where ({ frames := 6, cells := 0, slots := 0, locals := 125 } : Room) (va_Pc [.ref h0, .int x] (fun U => U.heap.size = sz ∧ XI dC dI ad bS Y ik vs kvs tl T h0 X U.heap ∧ va_K (dC, dI) vwCl T U ∧ (∀ c ∈ X, ¬ Y c.1) ∧ (∀ q, sz ≤ q → ¬ Y q) ∧ GA gd kA ad cB bS sK sV (va_A X sz) U)) (va_Ql (fun (r : Int64) (u : Int32 × VS × VS × List Nat) => r = whR (vs.1) (vs.2.2.2.2.2.1) (vs.2.2.2.2.2.2.1) (vs.2.2.2.2.2.2.2.1) (vs.2.2.2.2.2.2.2.2.2.2.2.1) (vs.2.2.2.1) (vs.2.2.2.2.1) x ∧ u = (ik, vs, kvs, tl)) (fun (u : Int32 × VS × VS × List Nat) (t : State) => ∃ (X1 : va_W) (T1 : List (ClassId × FieldType)), XI dC dI ad bS Y u.1 u.2.1 u.2.2.1 u.2.2.2 T1 h0 X1 t.heap ∧ va_D (va_A X sz) X1 ∧ ∀ p ∈ T1, p ∈ T ∨ va_K (dC, dI) vwCl [p] t) (va_A X sz)) 0 0 (va_A X sz) := by
  refine met_wrap (fun args s hPc => ?_)
  obtain ⟨rfl, rfl, hXI, hK, hY1, hY2, hGA⟩ := hPc
  have hXI0 := hXI
  refine hXI _ (fun sc kp bl go ch bo aTp ts aHl nh ee mi sn aHs n aWk wz aBk bz aFc cTp fTp cHs fHs cWk fWk cBk fBk cFc fFc kTp kts kHl knh kee kmi ksn kHs kn kWk kwz kBk kbz kFc kcTp kfTp kcHs kfHs kcWk kfWk kcBk kfBk kcFc kfFc esg ecl eW eA eE eC cdd etv szz att em ceW feW ceA feA ceE feE ceC feC gR gO lk gS cR fR cO fO i0 scl ft fr dr tO hO cD fD cTO rt cT ft0 ft1 ft2 cHO rh cH g0 g1 g2 g3 g4 g5 g6 g7 sg cl bW bA bE bC hcd tpv hsz hat nmb cbW fbW cbA fbA cbE fbE cbC fbC ksg kcl kbW kbA kbE kbC khcd ktpv khsz khat knmb kcbW kfbW kcbA kfbA kcbE kfbE kcbC kfbC yi ya yk yv yc kyi kya kyk kyv kyc tc ktc hC khC LB hX hLB hP hD hTF hTH hTK hq1 hq2 hlk hq3 hq4 hq5 hZ hZk hHs hHk hvs hkv => ?_)
  subst hvs
  subst hkv
  obtain ⟨oTs, oNh, oN, oWz, oBz, oHs, oHn, oYk, oYv, oWk, oBk, oYt, oTx, oEe, oMi, oYc⟩ := hq1
  obtain ⟨koTs, koNh, koN, koWz, koBz, koHs, koHn, koYk, koYv, koWk, koBk, koYt, koTx, koEe, koMi, koYc⟩ := hq2
  obtain ⟨zcl, zE, zC, zH⟩ := hq3
  obtain ⟨kzcl, kzE, kzC, kzH⟩ := hq4
  obtain ⟨hcl, hem, zeE, zeC⟩ := hq5
  subst hX
  have hwc := bl_mem (G := [(zo13rrirrrr h0 sc kp ik bl go ch bo), (zo10ririliiriririr sc aTp (nI ts) aHl (nI nh) (lN ee) mi sn aHs (nI n) aWk (nI wz) aBk (nI bz) aFc), (zaI aTp cTp 100 fTp), (zaR aHs cHs 8 fHs), (zaI aWk cWk 6 fWk), (zaI aBk cBk 12 fBk), (zaI aFc cFc 6 fFc), (zo10ririliiriririr kp kTp (nI kts) kHl (nI knh) (lN kee) kmi ksn kHs (nI kn) kWk (nI kwz) kBk (nI kbz) kFc), (zaI kTp kcTp 100 kfTp), (zaR kHs kcHs 8 kfHs), (zaI kWk kcWk 6 kfWk), (zaI kBk kcBk 12 kfBk), (zaI kFc kcFc 6 kfFc), (zo7iirrrriviii bl esg (nI ecl) eW eA eE eC cdd etv szz att (nI em)), (zaI eW ceW 10 feW), (zaI eA ceA 10 feA), (zaI eE ceE 10 feE), (zaI eC ceC 100 feC), (zo4rrir go gR gO (nI lk) gS), (zaI gR cR 8 fR), (zaI gO cO 8 fO), (zo5iiii gS 0 (nI i0) 0 scl), (zo2lirrr ch ft fr dr tO hO), (zaI dr cD 36 fD), (zaR tO cTO 3 (fun i => if i < 3 then some (rt i) else none)), (zaL (rt 0) cT 36 ft0), (zaL (rt 1) cT 36 ft1), (zaL (rt 2) cT 36 ft2), (zaR hO cHO 8 (fun i => if i < 8 then some (rh i) else none)), (zaI (rh 0) cH 36 g0), (zaI (rh 1) cH 36 g1), (zaI (rh 2) cH 36 g2), (zaI (rh 3) cH 36 g3), (zaI (rh 4) cH 36 g4), (zaI (rh 5) cH 36 g5), (zaI (rh 6) cH 36 g6), (zaI (rh 7) cH 36 g7)]) (F := [(zo13rrirrrr h0 sc kp ik bl go ch bo), (zo4rrir go gR gO (nI lk) gS), (zaI gR cR 8 fR), (zo10ririliiriririr sc aTp (nI ts) aHl (nI nh) (lN ee) mi sn aHs (nI n) aWk (nI wz) aBk (nI bz) aFc), (zaR aHs cHs 8 fHs), (zaI aFc cFc 6 fFc)]) (T := LB) [0, 18, 19, 1, 3, 6] rfl
  have hPc := bl_sub (F := [(zo13rrirrrr h0 sc kp ik bl go ch bo), (zo4rrir go gR gO (nI lk) gS), (zaI gR cR 8 fR), (zo10ririliiriririr sc aTp (nI ts) aHl (nI nh) (lN ee) mi sn aHs (nI n) aWk (nI wz) aBk (nI bz) aFc), (zaR aHs cHs 8 fHs), (zaI aFc cFc 6 fFc)]) hP [0, 18, 19, 1, 3, 6] rfl
  refine ⟨_, _, _, c_xWhere l dC dI gd h0 sc kp bl go ch bo aTp aHl aHs aWk aBk aFc bW bA bE bC gR gO gS ts nh n wz bz lk cl mi sn sg hcd hsz hat nmb ik x (lN ee) cHs cFc cbW cbA cbE cbC cR fFc fbW fbA fbE fbC fR yk yv yc fHs yi ya tpv hC s.heap.size oHs oN zcl zE zC zH oYt, ⟨rfl, rfl, hPc, (K_mem hK hTF).sub [14, 1, 4] rfl, bl_Dsub hD [0, 18, 19, 1, 3, 6] (by decide) rfl, hGA.1.call va_S.rf rfl (State.WarmedH.refl s) (bl_A hwc), hGA.2.1.call va_S.rf rfl (State.WarmedH.refl s) (bl_A hwc), hZ.at (K_mem hK hTH) hwc, hHs.at (K_mem hK (fun _ q => absurd q List.not_mem_nil)) hwc⟩, fun o t hQ => ?_, fun q hq => bl_A hwc q hq⟩
  obtain ⟨⟨r, u9, rfl, hpost, hB⟩, hz, hkp⟩ := hQ
  obtain ⟨fR9, fFc9⟩ := u9
  try dsimp only at hpost hB
  obtain ⟨hP1, hK1, hD1⟩ := hB
  have hJ := bl_gen (F' := [(zo13rrirrrr h0 sc kp ik bl go ch bo), (zo10ririliiriririr sc aTp (nI ts) aHl (nI nh) (lN ee) mi sn aHs (nI n) aWk (nI wz) aBk (nI bz) aFc), (zaI aTp cTp 100 fTp), (zaR aHs cHs 8 fHs), (zaI aWk cWk 6 fWk), (zaI aBk cBk 12 fBk), (zaI aFc cFc 6 fFc9), (zo10ririliiriririr kp kTp (nI kts) kHl (nI knh) (lN kee) kmi ksn kHs (nI kn) kWk (nI kwz) kBk (nI kbz) kFc), (zaI kTp kcTp 100 kfTp), (zaR kHs kcHs 8 kfHs), (zaI kWk kcWk 6 kfWk), (zaI kBk kcBk 12 kfBk), (zaI kFc kcFc 6 kfFc), (zo7iirrrriviii bl esg (nI ecl) eW eA eE eC cdd etv szz att (nI em)), (zaI eW ceW 10 feW), (zaI eA ceA 10 feA), (zaI eE ceE 10 feE), (zaI eC ceC 100 feC), (zo4rrir go gR gO (nI lk) gS), (zaI gR cR 8 fR9), (zaI gO cO 8 fO), (zo5iiii gS 0 (nI i0) 0 scl), (zo2lirrr ch ft fr dr tO hO), (zaI dr cD 36 fD), (zaR tO cTO 3 (fun i => if i < 3 then some (rt i) else none)), (zaL (rt 0) cT 36 ft0), (zaL (rt 1) cT 36 ft1), (zaL (rt 2) cT 36 ft2), (zaR hO cHO 8 (fun i => if i < 8 then some (rh i) else none)), (zaI (rh 0) cH 36 g0), (zaI (rh 1) cH 36 g1), (zaI (rh 2) cH 36 g2), (zaI (rh 3) cH 36 g3), (zaI (rh 4) cH 36 g4), (zaI (rh 5) cH 36 g5), (zaI (rh 6) cH 36 g6), (zaI (rh 7) cH 36 g7)]) hP hD [0, 18, 19, 1, 3, 6] rfl hkp hP1 hD1 [some 0, some 3, none, some 4, none, none, some 5, none, none, none, none, none, none, none, none, none, none, none, some 1, some 2, none, none, none, none, none, none, none, none, none, none, none, none, none, none, none, none, none] [0, 18, 19, 1, 3, 6] rfl (Or.inl rfl) rfl
  have hX := D_mem hJ.2
  exact ⟨⟨r, (ik, (n, wz, bz, mi, sn, yk, yv, yc, nh, ts, tc, hC, ee), (kn, kwz, kbz, kmi, ksn, kyk, kyv, kyc, knh, kts, ktc, khC, kee), tl), rfl, ⟨hpost, rfl⟩, _, T, (fun M9 k9 => k9 sc kp bl go ch bo aTp ts aHl nh ee mi sn aHs n aWk wz aBk bz aFc cTp fTp cHs fHs cWk fWk cBk fBk cFc (fFc9) kTp kts kHl knh kee kmi ksn kHs kn kWk kwz kBk kbz kFc kcTp kfTp kcHs kfHs kcWk kfWk kcBk kfBk kcFc kfFc esg ecl eW eA eE eC cdd etv szz att em ceW feW ceA feA ceE feE ceC feC gR gO lk gS cR (fR9) cO fO i0 scl ft fr dr tO hO cD fD cTO rt cT ft0 ft1 ft2 cHO rh cH g0 g1 g2 g3 g4 g5 g6 g7 sg cl bW bA bE bC hcd tpv hsz hat nmb cbW fbW cbA fbA cbE fbE cbC fbC ksg kcl kbW kbA kbE kbC khcd ktpv khsz khat knmb kcbW kfbW kcbA kfbA kcbE kfbE kcbC kfbC yi ya yk yv yc kyi kya kyk kyv kyc tc ktc hC khC LB rfl (hLB) hJ.1 ⟨hJ.2.1, fun _ _ _ => trivial⟩ (hTF) (hTH) (hTK) ⟨oTs, oNh, oN, oWz, oBz, oHs, oHn, oYk, oYv, oWk, oBk, oYt, oTx, oEe, oMi, oYc⟩ ⟨koTs, koNh, koN, koWz, koBz, koHs, koHn, koYk, koYv, koWk, koBk, koYt, koTx, koEe, koMi, koYc⟩ (hlk) ⟨zcl, zE, zC, zH⟩ ⟨kzcl, kzE, kzC, kzH⟩ ⟨hcl, hem, zeE, zeC⟩ (hZ.kept hkp hwc hX) (hZk.kept hkp hwc hX) (hHs.kept hkp hwc hX) (hHk.kept hkp hwc hX) rfl rfl), hJ.2, fun p hp => Or.inl hp⟩, hz, fun q h1 h2 => hkp q h1 (fun h => h2 (bl_A hwc _ h))⟩

set_option maxHeartbeats 4000000 in
set_option maxRecDepth 100000 in
theorem w_drift (l : Launch) (dC : Nat → ClassId) (dI : Nat → Nat → Nat) (gd : Nat → Nat) (kA : Nat) (ad : Nat → Nat) (cB bS : Nat) (sK sV : Nat → Nat) (Y : Nat → Prop) (ik : Int32) (vs kvs : VS) (tl : List Nat) (T : List (ClassId × FieldType)) (h0 : Nat) (X : va_W) (x : Int32) (sz : Nat) : Met l yX11_drift wsX11_drift ({ frames := 4, cells := 0, slots := 0, locals := 94 } : Room) (va_Pc [.ref h0, .int x] (fun U => U.heap.size = sz ∧ XI dC dI ad bS Y ik vs kvs tl T h0 X U.heap ∧ va_K (dC, dI) vwCl T U ∧ (∀ c ∈ X, ¬ Y c.1) ∧ (∀ q, sz ≤ q → ¬ Y q) ∧ GA gd kA ad cB bS sK sV (va_A X sz) U)) (va_Qi (fun (r : Int32) (u : Int32 × VS × VS × List Nat) => r = drR (vs.2.2.2.2.2.2.2.2.2.2.2.1) (vs.2.2.2.1) (vs.2.2.2.2.1) x ∧ u = (ik, vs, kvs, tl)) (fun (u : Int32 × VS × VS × List Nat) (t : State) => ∃ (X1 : va_W) (T1 : List (ClassId × FieldType)), XI dC dI ad bS Y u.1 u.2.1 u.2.2.1 u.2.2.2 T1 h0 X1 t.heap ∧ va_D (va_A X sz) X1 ∧ ∀ p ∈ T1, p ∈ T ∨ va_K (dC, dI) vwCl [p] t) (va_A X sz)) 0 0 (va_A X sz) := by
  refine met_wrap (fun args s hPc => ?_)
  obtain ⟨rfl, rfl, hXI, hK, hY1, hY2, hGA⟩ := hPc
  have hXI0 := hXI
  refine hXI _ (fun sc kp bl go ch bo aTp ts aHl nh ee mi sn aHs n aWk wz aBk bz aFc cTp fTp cHs fHs cWk fWk cBk fBk cFc fFc kTp kts kHl knh kee kmi ksn kHs kn kWk kwz kBk kbz kFc kcTp kfTp kcHs kfHs kcWk kfWk kcBk kfBk kcFc kfFc esg ecl eW eA eE eC cdd etv szz att em ceW feW ceA feA ceE feE ceC feC gR gO lk gS cR fR cO fO i0 scl ft fr dr tO hO cD fD cTO rt cT ft0 ft1 ft2 cHO rh cH g0 g1 g2 g3 g4 g5 g6 g7 sg cl bW bA bE bC hcd tpv hsz hat nmb cbW fbW cbA fbA cbE fbE cbC fbC ksg kcl kbW kbA kbE kbC khcd ktpv khsz khat knmb kcbW kfbW kcbA kfbA kcbE kfbE kcbC kfbC yi ya yk yv yc kyi kya kyk kyv kyc tc ktc hC khC LB hX hLB hP hD hTF hTH hTK hq1 hq2 hlk hq3 hq4 hq5 hZ hZk hHs hHk hvs hkv => ?_)
  subst hvs
  subst hkv
  obtain ⟨oTs, oNh, oN, oWz, oBz, oHs, oHn, oYk, oYv, oWk, oBk, oYt, oTx, oEe, oMi, oYc⟩ := hq1
  obtain ⟨koTs, koNh, koN, koWz, koBz, koHs, koHn, koYk, koYv, koWk, koBk, koYt, koTx, koEe, koMi, koYc⟩ := hq2
  obtain ⟨zcl, zE, zC, zH⟩ := hq3
  obtain ⟨kzcl, kzE, kzC, kzH⟩ := hq4
  obtain ⟨hcl, hem, zeE, zeC⟩ := hq5
  subst hX
  have hwc := bl_mem (G := [(zo13rrirrrr h0 sc kp ik bl go ch bo), (zo10ririliiriririr sc aTp (nI ts) aHl (nI nh) (lN ee) mi sn aHs (nI n) aWk (nI wz) aBk (nI bz) aFc), (zaI aTp cTp 100 fTp), (zaR aHs cHs 8 fHs), (zaI aWk cWk 6 fWk), (zaI aBk cBk 12 fBk), (zaI aFc cFc 6 fFc), (zo10ririliiriririr kp kTp (nI kts) kHl (nI knh) (lN kee) kmi ksn kHs (nI kn) kWk (nI kwz) kBk (nI kbz) kFc), (zaI kTp kcTp 100 kfTp), (zaR kHs kcHs 8 kfHs), (zaI kWk kcWk 6 kfWk), (zaI kBk kcBk 12 kfBk), (zaI kFc kcFc 6 kfFc), (zo7iirrrriviii bl esg (nI ecl) eW eA eE eC cdd etv szz att (nI em)), (zaI eW ceW 10 feW), (zaI eA ceA 10 feA), (zaI eE ceE 10 feE), (zaI eC ceC 100 feC), (zo4rrir go gR gO (nI lk) gS), (zaI gR cR 8 fR), (zaI gO cO 8 fO), (zo5iiii gS 0 (nI i0) 0 scl), (zo2lirrr ch ft fr dr tO hO), (zaI dr cD 36 fD), (zaR tO cTO 3 (fun i => if i < 3 then some (rt i) else none)), (zaL (rt 0) cT 36 ft0), (zaL (rt 1) cT 36 ft1), (zaL (rt 2) cT 36 ft2), (zaR hO cHO 8 (fun i => if i < 8 then some (rh i) else none)), (zaI (rh 0) cH 36 g0), (zaI (rh 1) cH 36 g1), (zaI (rh 2) cH 36 g2), (zaI (rh 3) cH 36 g3), (zaI (rh 4) cH 36 g4), (zaI (rh 5) cH 36 g5), (zaI (rh 6) cH 36 g6), (zaI (rh 7) cH 36 g7)]) (F := [(zo13rrirrrr h0 sc kp ik bl go ch bo), (zo10ririliiriririr sc aTp (nI ts) aHl (nI nh) (lN ee) mi sn aHs (nI n) aWk (nI wz) aBk (nI bz) aFc), (zaI aFc cFc 6 fFc)]) (T := LB) [0, 1, 6] rfl
  have hPc := bl_sub (F := [(zo13rrirrrr h0 sc kp ik bl go ch bo), (zo10ririliiriririr sc aTp (nI ts) aHl (nI nh) (lN ee) mi sn aHs (nI n) aWk (nI wz) aBk (nI bz) aFc), (zaI aFc cFc 6 fFc)]) hP [0, 1, 6] rfl
  refine ⟨_, _, _, c_xDrift l dC dI gd h0 sc kp bl go ch bo aTp aHl aHs aWk aBk aFc bW bA bE bC ts nh n wz bz cl mi sn sg hcd hsz hat nmb ik x (lN ee) cFc cbW cbA cbE cbC fFc fbW fbA fbE fbC tpv hC s.heap.size zcl zE zC zH, ⟨rfl, rfl, hPc, (K_mem hK hTF).sub [4] rfl, bl_Dsub hD [0, 1, 6] (by decide) rfl, hGA.1.call va_S.rf rfl (State.WarmedH.refl s) (bl_A hwc), hZ.at (K_mem hK hTH) hwc⟩, fun o t hQ => ?_, fun q hq => bl_A hwc q hq⟩
  obtain ⟨⟨r, u9, rfl, hpost, hB⟩, hz, hkp⟩ := hQ
  obtain ⟨fFc9, rfl⟩ : ∃ z9, z9 = u9 := ⟨_, rfl⟩
  try dsimp only at hpost hB
  obtain ⟨hP1, hK1, hD1⟩ := hB
  have hJ := bl_gen (F' := [(zo13rrirrrr h0 sc kp ik bl go ch bo), (zo10ririliiriririr sc aTp (nI ts) aHl (nI nh) (lN ee) mi sn aHs (nI n) aWk (nI wz) aBk (nI bz) aFc), (zaI aTp cTp 100 fTp), (zaR aHs cHs 8 fHs), (zaI aWk cWk 6 fWk), (zaI aBk cBk 12 fBk), (zaI aFc cFc 6 fFc9), (zo10ririliiriririr kp kTp (nI kts) kHl (nI knh) (lN kee) kmi ksn kHs (nI kn) kWk (nI kwz) kBk (nI kbz) kFc), (zaI kTp kcTp 100 kfTp), (zaR kHs kcHs 8 kfHs), (zaI kWk kcWk 6 kfWk), (zaI kBk kcBk 12 kfBk), (zaI kFc kcFc 6 kfFc), (zo7iirrrriviii bl esg (nI ecl) eW eA eE eC cdd etv szz att (nI em)), (zaI eW ceW 10 feW), (zaI eA ceA 10 feA), (zaI eE ceE 10 feE), (zaI eC ceC 100 feC), (zo4rrir go gR gO (nI lk) gS), (zaI gR cR 8 fR), (zaI gO cO 8 fO), (zo5iiii gS 0 (nI i0) 0 scl), (zo2lirrr ch ft fr dr tO hO), (zaI dr cD 36 fD), (zaR tO cTO 3 (fun i => if i < 3 then some (rt i) else none)), (zaL (rt 0) cT 36 ft0), (zaL (rt 1) cT 36 ft1), (zaL (rt 2) cT 36 ft2), (zaR hO cHO 8 (fun i => if i < 8 then some (rh i) else none)), (zaI (rh 0) cH 36 g0), (zaI (rh 1) cH 36 g1), (zaI (rh 2) cH 36 g2), (zaI (rh 3) cH 36 g3), (zaI (rh 4) cH 36 g4), (zaI (rh 5) cH 36 g5), (zaI (rh 6) cH 36 g6), (zaI (rh 7) cH 36 g7)]) hP hD [0, 1, 6] rfl hkp hP1 hD1 [some 0, some 1, none, none, none, none, some 2, none, none, none, none, none, none, none, none, none, none, none, none, none, none, none, none, none, none, none, none, none, none, none, none, none, none, none, none, none, none] [0, 1, 6] rfl (Or.inl rfl) rfl
  have hX := D_mem hJ.2
  exact ⟨⟨r, (ik, (n, wz, bz, mi, sn, yk, yv, yc, nh, ts, tc, hC, ee), (kn, kwz, kbz, kmi, ksn, kyk, kyv, kyc, knh, kts, ktc, khC, kee), tl), rfl, ⟨hpost, rfl⟩, _, T, (fun M9 k9 => k9 sc kp bl go ch bo aTp ts aHl nh ee mi sn aHs n aWk wz aBk bz aFc cTp fTp cHs fHs cWk fWk cBk fBk cFc (fFc9) kTp kts kHl knh kee kmi ksn kHs kn kWk kwz kBk kbz kFc kcTp kfTp kcHs kfHs kcWk kfWk kcBk kfBk kcFc kfFc esg ecl eW eA eE eC cdd etv szz att em ceW feW ceA feA ceE feE ceC feC gR gO lk gS cR fR cO fO i0 scl ft fr dr tO hO cD fD cTO rt cT ft0 ft1 ft2 cHO rh cH g0 g1 g2 g3 g4 g5 g6 g7 sg cl bW bA bE bC hcd tpv hsz hat nmb cbW fbW cbA fbA cbE fbE cbC fbC ksg kcl kbW kbA kbE kbC khcd ktpv khsz khat knmb kcbW kfbW kcbA kfbA kcbE kfbE kcbC kfbC yi ya yk yv yc kyi kya kyk kyv kyc tc ktc hC khC LB rfl (hLB) hJ.1 ⟨hJ.2.1, fun _ _ _ => trivial⟩ (hTF) (hTH) (hTK) ⟨oTs, oNh, oN, oWz, oBz, oHs, oHn, oYk, oYv, oWk, oBk, oYt, oTx, oEe, oMi, oYc⟩ ⟨koTs, koNh, koN, koWz, koBz, koHs, koHn, koYk, koYv, koWk, koBk, koYt, koTx, koEe, koMi, koYc⟩ (hlk) ⟨zcl, zE, zC, zH⟩ ⟨kzcl, kzE, kzC, kzH⟩ ⟨hcl, hem, zeE, zeC⟩ (hZ.kept hkp hwc hX) (hZk.kept hkp hwc hX) (hHs.kept hkp hwc hX) (hHk.kept hkp hwc hX) rfl rfl), hJ.2, fun p hp => Or.inl hp⟩, hz, fun q h1 h2 => hkp q h1 (fun h => h2 (bl_A hwc _ h))⟩

set_option maxHeartbeats 4000000 in
set_option maxRecDepth 100000 in
theorem w_odds (l : Launch) (dC : Nat → ClassId) (dI : Nat → Nat → Nat) (gd : Nat → Nat) (kA : Nat) (ad : Nat → Nat) (cB bS : Nat) (sK sV : Nat → Nat) (Y : Nat → Prop) (ik : Int32) (vs kvs : VS) (tl : List Nat) (T : List (ClassId × FieldType)) (h0 : Nat) (X : va_W) (x : Int32) (y : Int32) (z : Int32) (sz : Nat) : Met l yX11_odds wsX11_odds ({ frames := 6, cells := 0, slots := 0, locals := 145 } : Room) (va_Pc [.ref h0, .int x, .int y, .int z] (fun U => U.heap.size = sz ∧ XI dC dI ad bS Y ik vs kvs tl T h0 X U.heap ∧ va_K (dC, dI) vwCl T U ∧ (∀ c ∈ X, ¬ Y c.1) ∧ (∀ q, sz ≤ q → ¬ Y q) ∧ GA gd kA ad cB bS sK sV (va_A X sz) U)) (va_Ql (fun (r : Int64) (u : Int32 × VS × VS × List Nat) => u = (ik, vs, kvs, tl)) (fun (u : Int32 × VS × VS × List Nat) (t : State) => ∃ (X1 : va_W) (T1 : List (ClassId × FieldType)), XI dC dI ad bS Y u.1 u.2.1 u.2.2.1 u.2.2.2 T1 h0 X1 t.heap ∧ va_D (va_A X sz) X1 ∧ ∀ p ∈ T1, p ∈ T ∨ va_K (dC, dI) vwCl [p] t) (va_A X sz)) 0 0 (va_A X sz) := by
  refine met_wrap (fun args s hPc => ?_)
  obtain ⟨rfl, rfl, hXI, hK, hY1, hY2, hGA⟩ := hPc
  have hXI0 := hXI
  refine hXI _ (fun sc kp bl go ch bo aTp ts aHl nh ee mi sn aHs n aWk wz aBk bz aFc cTp fTp cHs fHs cWk fWk cBk fBk cFc fFc kTp kts kHl knh kee kmi ksn kHs kn kWk kwz kBk kbz kFc kcTp kfTp kcHs kfHs kcWk kfWk kcBk kfBk kcFc kfFc esg ecl eW eA eE eC cdd etv szz att em ceW feW ceA feA ceE feE ceC feC gR gO lk gS cR fR cO fO i0 scl ft fr dr tO hO cD fD cTO rt cT ft0 ft1 ft2 cHO rh cH g0 g1 g2 g3 g4 g5 g6 g7 sg cl bW bA bE bC hcd tpv hsz hat nmb cbW fbW cbA fbA cbE fbE cbC fbC ksg kcl kbW kbA kbE kbC khcd ktpv khsz khat knmb kcbW kfbW kcbA kfbA kcbE kfbE kcbC kfbC yi ya yk yv yc kyi kya kyk kyv kyc tc ktc hC khC LB hX hLB hP hD hTF hTH hTK hq1 hq2 hlk hq3 hq4 hq5 hZ hZk hHs hHk hvs hkv => ?_)
  subst hvs
  subst hkv
  obtain ⟨oTs, oNh, oN, oWz, oBz, oHs, oHn, oYk, oYv, oWk, oBk, oYt, oTx, oEe, oMi, oYc⟩ := hq1
  obtain ⟨koTs, koNh, koN, koWz, koBz, koHs, koHn, koYk, koYv, koWk, koBk, koYt, koTx, koEe, koMi, koYc⟩ := hq2
  obtain ⟨zcl, zE, zC, zH⟩ := hq3
  obtain ⟨kzcl, kzE, kzC, kzH⟩ := hq4
  obtain ⟨hcl, hem, zeE, zeC⟩ := hq5
  subst hX
  have hwc := bl_mem (G := [(zo13rrirrrr h0 sc kp ik bl go ch bo), (zo10ririliiriririr sc aTp (nI ts) aHl (nI nh) (lN ee) mi sn aHs (nI n) aWk (nI wz) aBk (nI bz) aFc), (zaI aTp cTp 100 fTp), (zaR aHs cHs 8 fHs), (zaI aWk cWk 6 fWk), (zaI aBk cBk 12 fBk), (zaI aFc cFc 6 fFc), (zo10ririliiriririr kp kTp (nI kts) kHl (nI knh) (lN kee) kmi ksn kHs (nI kn) kWk (nI kwz) kBk (nI kbz) kFc), (zaI kTp kcTp 100 kfTp), (zaR kHs kcHs 8 kfHs), (zaI kWk kcWk 6 kfWk), (zaI kBk kcBk 12 kfBk), (zaI kFc kcFc 6 kfFc), (zo7iirrrriviii bl esg (nI ecl) eW eA eE eC cdd etv szz att (nI em)), (zaI eW ceW 10 feW), (zaI eA ceA 10 feA), (zaI eE ceE 10 feE), (zaI eC ceC 100 feC), (zo4rrir go gR gO (nI lk) gS), (zaI gR cR 8 fR), (zaI gO cO 8 fO), (zo5iiii gS 0 (nI i0) 0 scl), (zo2lirrr ch ft fr dr tO hO), (zaI dr cD 36 fD), (zaR tO cTO 3 (fun i => if i < 3 then some (rt i) else none)), (zaL (rt 0) cT 36 ft0), (zaL (rt 1) cT 36 ft1), (zaL (rt 2) cT 36 ft2), (zaR hO cHO 8 (fun i => if i < 8 then some (rh i) else none)), (zaI (rh 0) cH 36 g0), (zaI (rh 1) cH 36 g1), (zaI (rh 2) cH 36 g2), (zaI (rh 3) cH 36 g3), (zaI (rh 4) cH 36 g4), (zaI (rh 5) cH 36 g5), (zaI (rh 6) cH 36 g6), (zaI (rh 7) cH 36 g7)]) (F := [(zo13rrirrrr h0 sc kp ik bl go ch bo), (zo10ririliiriririr sc aTp (nI ts) aHl (nI nh) (lN ee) mi sn aHs (nI n) aWk (nI wz) aBk (nI bz) aFc), (zaR aHs cHs 8 fHs), (zaI aWk cWk 6 fWk), (zaI aFc cFc 6 fFc), (zo2lirrr ch ft fr dr tO hO), (zaI dr cD 36 fD), (zaR tO cTO 3 (fun i => if i < 3 then some (rt i) else none)), (zaL (rt 0) cT 36 ft0), (zaL (rt 1) cT 36 ft1)]) (T := LB) [0, 1, 3, 4, 6, 22, 23, 24, 25, 26] rfl
  have hPc := bl_sub (F := [(zo13rrirrrr h0 sc kp ik bl go ch bo), (zo10ririliiriririr sc aTp (nI ts) aHl (nI nh) (lN ee) mi sn aHs (nI n) aWk (nI wz) aBk (nI bz) aFc), (zaR aHs cHs 8 fHs), (zaI aWk cWk 6 fWk), (zaI aFc cFc 6 fFc), (zo2lirrr ch ft fr dr tO hO), (zaI dr cD 36 fD), (zaR tO cTO 3 (fun i => if i < 3 then some (rt i) else none)), (zaL (rt 0) cT 36 ft0), (zaL (rt 1) cT 36 ft1)]) hP [0, 1, 3, 4, 6, 22, 23, 24, 25, 26] rfl
  refine ⟨_, _, _, c_xOdds l dC dI gd h0 sc kp bl go ch bo aTp aHl aHs aWk aBk aFc bW bA bE bC dr tO hO ts nh n wz bz cl 0 mi sn sg hcd hsz hat nmb fr ik x y z (lN ee) ft cHs cWk cFc cbW cbA cbE cbC cD cTO cT fWk fFc fbW fbA fbE fbC fD yk yv yc fHs ft0 ft1 yi ya rt tpv hC 0 s.heap.size oHs oN zcl zE zC oWz oWk zH oYt, ⟨rfl, rfl, hPc, (K_mem hK hTF).sub [1, 2, 4, 16, 17, 18, 19] rfl, bl_Dsub hD [0, 1, 3, 4, 6, 22, 23, 24, 25, 26] (by decide) rfl, hGA.1.call va_S.rf rfl (State.WarmedH.refl s) (bl_A hwc), hGA.2.1.call va_S.rf rfl (State.WarmedH.refl s) (bl_A hwc), hZ.at (K_mem hK hTH) hwc, hHs.at (K_mem hK (fun _ q => absurd q List.not_mem_nil)) hwc⟩, fun o t hQ => ?_, fun q hq => bl_A hwc q hq⟩
  obtain ⟨⟨r, u9, rfl, hpost, hB⟩, hz, hkp⟩ := hQ
  obtain ⟨fFc9, fD9, ft09, ft19⟩ := u9
  try dsimp only at hpost hB
  obtain ⟨hP1, hK1, hD1⟩ := hB
  have hJ := bl_gen (F' := [(zo13rrirrrr h0 sc kp ik bl go ch bo), (zo10ririliiriririr sc aTp (nI ts) aHl (nI nh) (lN ee) mi sn aHs (nI n) aWk (nI wz) aBk (nI bz) aFc), (zaI aTp cTp 100 fTp), (zaR aHs cHs 8 fHs), (zaI aWk cWk 6 fWk), (zaI aBk cBk 12 fBk), (zaI aFc cFc 6 fFc9), (zo10ririliiriririr kp kTp (nI kts) kHl (nI knh) (lN kee) kmi ksn kHs (nI kn) kWk (nI kwz) kBk (nI kbz) kFc), (zaI kTp kcTp 100 kfTp), (zaR kHs kcHs 8 kfHs), (zaI kWk kcWk 6 kfWk), (zaI kBk kcBk 12 kfBk), (zaI kFc kcFc 6 kfFc), (zo7iirrrriviii bl esg (nI ecl) eW eA eE eC cdd etv szz att (nI em)), (zaI eW ceW 10 feW), (zaI eA ceA 10 feA), (zaI eE ceE 10 feE), (zaI eC ceC 100 feC), (zo4rrir go gR gO (nI lk) gS), (zaI gR cR 8 fR), (zaI gO cO 8 fO), (zo5iiii gS 0 (nI i0) 0 scl), (zo2lirrr ch ft fr dr tO hO), (zaI dr cD 36 fD9), (zaR tO cTO 3 (fun i => if i < 3 then some (rt i) else none)), (zaL (rt 0) cT 36 ft09), (zaL (rt 1) cT 36 ft19), (zaL (rt 2) cT 36 ft2), (zaR hO cHO 8 (fun i => if i < 8 then some (rh i) else none)), (zaI (rh 0) cH 36 g0), (zaI (rh 1) cH 36 g1), (zaI (rh 2) cH 36 g2), (zaI (rh 3) cH 36 g3), (zaI (rh 4) cH 36 g4), (zaI (rh 5) cH 36 g5), (zaI (rh 6) cH 36 g6), (zaI (rh 7) cH 36 g7)]) hP hD [0, 1, 3, 4, 6, 22, 23, 24, 25, 26] rfl hkp hP1 hD1 [some 0, some 1, none, some 2, some 3, none, some 4, none, none, none, none, none, none, none, none, none, none, none, none, none, none, none, some 5, some 6, some 7, some 8, some 9, none, none, none, none, none, none, none, none, none, none] [0, 1, 3, 4, 6, 22, 23, 24, 25, 26] rfl (Or.inl rfl) rfl
  have hX := D_mem hJ.2
  exact ⟨⟨r, (ik, (n, wz, bz, mi, sn, yk, yv, yc, nh, ts, tc, hC, ee), (kn, kwz, kbz, kmi, ksn, kyk, kyv, kyc, knh, kts, ktc, khC, kee), tl), rfl, rfl, _, T, (fun M9 k9 => k9 sc kp bl go ch bo aTp ts aHl nh ee mi sn aHs n aWk wz aBk bz aFc cTp fTp cHs fHs cWk fWk cBk fBk cFc (fFc9) kTp kts kHl knh kee kmi ksn kHs kn kWk kwz kBk kbz kFc kcTp kfTp kcHs kfHs kcWk kfWk kcBk kfBk kcFc kfFc esg ecl eW eA eE eC cdd etv szz att em ceW feW ceA feA ceE feE ceC feC gR gO lk gS cR fR cO fO i0 scl ft fr dr tO hO cD (fD9) cTO rt cT (ft09) (ft19) ft2 cHO rh cH g0 g1 g2 g3 g4 g5 g6 g7 sg cl bW bA bE bC hcd tpv hsz hat nmb cbW fbW cbA fbA cbE fbE cbC fbC ksg kcl kbW kbA kbE kbC khcd ktpv khsz khat knmb kcbW kfbW kcbA kfbA kcbE kfbE kcbC kfbC yi ya yk yv yc kyi kya kyk kyv kyc tc ktc hC khC LB rfl (hLB) hJ.1 ⟨hJ.2.1, fun _ _ _ => trivial⟩ (hTF) (hTH) (hTK) ⟨oTs, oNh, oN, oWz, oBz, oHs, oHn, oYk, oYv, oWk, oBk, oYt, oTx, oEe, oMi, oYc⟩ ⟨koTs, koNh, koN, koWz, koBz, koHs, koHn, koYk, koYv, koWk, koBk, koYt, koTx, koEe, koMi, koYc⟩ (hlk) ⟨zcl, zE, zC, zH⟩ ⟨kzcl, kzE, kzC, kzH⟩ ⟨hcl, hem, zeE, zeC⟩ (hZ.kept hkp hwc hX) (hZk.kept hkp hwc hX) (hHs.kept hkp hwc hX) (hHk.kept hkp hwc hX) rfl rfl), hJ.2, fun p hp => Or.inl hp⟩, hz, fun q h1 h2 => hkp q h1 (fun h => h2 (bl_A hwc _ h))⟩

set_option maxHeartbeats 4000000 in
set_option maxRecDepth 100000 in
theorem w_best (l : Launch) (dC : Nat → ClassId) (dI : Nat → Nat → Nat) (gd : Nat → Nat) (kA : Nat) (ad : Nat → Nat) (cB bS : Nat) (sK sV : Nat → Nat) (Y : Nat → Prop) (ik : Int32) (vs kvs : VS) (tl : List Nat) (T : List (ClassId × FieldType)) (h0 : Nat) (X : va_W) (x : Int32) (y : Int32) (z : Int32) (u : Int32) (sz : Nat) : Met l yX11_best wsX11_best ({ frames := 6, cells := 0, slots := 0, locals := 147 } : Room) (va_Pc [.ref h0, .int x, .int y, .int z, .int u] (fun U => U.heap.size = sz ∧ XI dC dI ad bS Y ik vs kvs tl T h0 X U.heap ∧ va_K (dC, dI) vwCl T U ∧ (∀ c ∈ X, ¬ Y c.1) ∧ (∀ q, sz ≤ q → ¬ Y q) ∧ GA gd kA ad cB bS sK sV (va_A X sz) U)) (va_Qi (fun (r : Int32) (u : Int32 × VS × VS × List Nat) => u = (ik, vs, kvs, tl)) (fun (u : Int32 × VS × VS × List Nat) (t : State) => ∃ (X1 : va_W) (T1 : List (ClassId × FieldType)), XI dC dI ad bS Y u.1 u.2.1 u.2.2.1 u.2.2.2 T1 h0 X1 t.heap ∧ va_D (va_A X sz) X1 ∧ ∀ p ∈ T1, p ∈ T ∨ va_K (dC, dI) vwCl [p] t) (va_A X sz)) 0 0 (va_A X sz) := by
  refine met_wrap (fun args s hPc => ?_)
  obtain ⟨rfl, rfl, hXI, hK, hY1, hY2, hGA⟩ := hPc
  have hXI0 := hXI
  refine hXI _ (fun sc kp bl go ch bo aTp ts aHl nh ee mi sn aHs n aWk wz aBk bz aFc cTp fTp cHs fHs cWk fWk cBk fBk cFc fFc kTp kts kHl knh kee kmi ksn kHs kn kWk kwz kBk kbz kFc kcTp kfTp kcHs kfHs kcWk kfWk kcBk kfBk kcFc kfFc esg ecl eW eA eE eC cdd etv szz att em ceW feW ceA feA ceE feE ceC feC gR gO lk gS cR fR cO fO i0 scl ft fr dr tO hO cD fD cTO rt cT ft0 ft1 ft2 cHO rh cH g0 g1 g2 g3 g4 g5 g6 g7 sg cl bW bA bE bC hcd tpv hsz hat nmb cbW fbW cbA fbA cbE fbE cbC fbC ksg kcl kbW kbA kbE kbC khcd ktpv khsz khat knmb kcbW kfbW kcbA kfbA kcbE kfbE kcbC kfbC yi ya yk yv yc kyi kya kyk kyv kyc tc ktc hC khC LB hX hLB hP hD hTF hTH hTK hq1 hq2 hlk hq3 hq4 hq5 hZ hZk hHs hHk hvs hkv => ?_)
  subst hvs
  subst hkv
  obtain ⟨oTs, oNh, oN, oWz, oBz, oHs, oHn, oYk, oYv, oWk, oBk, oYt, oTx, oEe, oMi, oYc⟩ := hq1
  obtain ⟨koTs, koNh, koN, koWz, koBz, koHs, koHn, koYk, koYv, koWk, koBk, koYt, koTx, koEe, koMi, koYc⟩ := hq2
  obtain ⟨zcl, zE, zC, zH⟩ := hq3
  obtain ⟨kzcl, kzE, kzC, kzH⟩ := hq4
  obtain ⟨hcl, hem, zeE, zeC⟩ := hq5
  subst hX
  have hwc := bl_mem (G := [(zo13rrirrrr h0 sc kp ik bl go ch bo), (zo10ririliiriririr sc aTp (nI ts) aHl (nI nh) (lN ee) mi sn aHs (nI n) aWk (nI wz) aBk (nI bz) aFc), (zaI aTp cTp 100 fTp), (zaR aHs cHs 8 fHs), (zaI aWk cWk 6 fWk), (zaI aBk cBk 12 fBk), (zaI aFc cFc 6 fFc), (zo10ririliiriririr kp kTp (nI kts) kHl (nI knh) (lN kee) kmi ksn kHs (nI kn) kWk (nI kwz) kBk (nI kbz) kFc), (zaI kTp kcTp 100 kfTp), (zaR kHs kcHs 8 kfHs), (zaI kWk kcWk 6 kfWk), (zaI kBk kcBk 12 kfBk), (zaI kFc kcFc 6 kfFc), (zo7iirrrriviii bl esg (nI ecl) eW eA eE eC cdd etv szz att (nI em)), (zaI eW ceW 10 feW), (zaI eA ceA 10 feA), (zaI eE ceE 10 feE), (zaI eC ceC 100 feC), (zo4rrir go gR gO (nI lk) gS), (zaI gR cR 8 fR), (zaI gO cO 8 fO), (zo5iiii gS 0 (nI i0) 0 scl), (zo2lirrr ch ft fr dr tO hO), (zaI dr cD 36 fD), (zaR tO cTO 3 (fun i => if i < 3 then some (rt i) else none)), (zaL (rt 0) cT 36 ft0), (zaL (rt 1) cT 36 ft1), (zaL (rt 2) cT 36 ft2), (zaR hO cHO 8 (fun i => if i < 8 then some (rh i) else none)), (zaI (rh 0) cH 36 g0), (zaI (rh 1) cH 36 g1), (zaI (rh 2) cH 36 g2), (zaI (rh 3) cH 36 g3), (zaI (rh 4) cH 36 g4), (zaI (rh 5) cH 36 g5), (zaI (rh 6) cH 36 g6), (zaI (rh 7) cH 36 g7)]) (F := [(zo13rrirrrr h0 sc kp ik bl go ch bo), (zo2lirrr ch ft fr dr tO hO), (zaI dr cD 36 fD), (zaR tO cTO 3 (fun i => if i < 3 then some (rt i) else none)), (zaL (rt 0) cT 36 ft0), (zaL (rt 1) cT 36 ft1), (zaL (rt 2) cT 36 ft2), (zaR hO cHO 8 (fun i => if i < 8 then some (rh i) else none)), (zaI (rh 0) cH 36 g0), (zaI (rh 1) cH 36 g1), (zaI (rh 2) cH 36 g2), (zaI (rh 3) cH 36 g3), (zaI (rh 4) cH 36 g4), (zaI (rh 5) cH 36 g5), (zaI (rh 6) cH 36 g6), (zaI (rh 7) cH 36 g7), (zo10ririliiriririr sc aTp (nI ts) aHl (nI nh) (lN ee) mi sn aHs (nI n) aWk (nI wz) aBk (nI bz) aFc), (zaI aFc cFc 6 fFc)]) (T := LB) [0, 22, 23, 24, 25, 26, 27, 28, 29, 30, 31, 32, 33, 34, 35, 36, 1, 6] rfl
  have hPc := bl_sub (F := [(zo13rrirrrr h0 sc kp ik bl go ch bo), (zo2lirrr ch ft fr dr tO hO), (zaI dr cD 36 fD), (zaR tO cTO 3 (fun i => if i < 3 then some (rt i) else none)), (zaL (rt 0) cT 36 ft0), (zaL (rt 1) cT 36 ft1), (zaL (rt 2) cT 36 ft2), (zaR hO cHO 8 (fun i => if i < 8 then some (rh i) else none)), (zaI (rh 0) cH 36 g0), (zaI (rh 1) cH 36 g1), (zaI (rh 2) cH 36 g2), (zaI (rh 3) cH 36 g3), (zaI (rh 4) cH 36 g4), (zaI (rh 5) cH 36 g5), (zaI (rh 6) cH 36 g6), (zaI (rh 7) cH 36 g7), (zo10ririliiriririr sc aTp (nI ts) aHl (nI nh) (lN ee) mi sn aHs (nI n) aWk (nI wz) aBk (nI bz) aFc), (zaI aFc cFc 6 fFc)]) hP [0, 22, 23, 24, 25, 26, 27, 28, 29, 30, 31, 32, 33, 34, 35, 36, 1, 6] rfl
  refine ⟨_, _, _, c_xBest l dC dI gd h0 sc kp bl go ch bo aTp aHl aHs aWk aBk aFc bW bA bE bC dr tO hO ts nh n wz bz cl 0 mi sn sg hcd hsz hat nmb fr ik x y z u (lN ee) ft cFc cbW cbA cbE cbC cD cTO cHO cT cH fFc fbW fbA fbE fbC fD g0 g1 g2 g3 g4 g5 g6 g7 ft0 ft1 ft2 rt rh tpv hC s.heap.size zcl zE zC zH, ⟨rfl, rfl, hPc, (K_mem hK hTF).sub [16, 17, 18, 19, 20, 21, 22, 23, 24, 25, 26, 27, 28, 29, 4] rfl, bl_Dsub hD [0, 22, 23, 24, 25, 26, 27, 28, 29, 30, 31, 32, 33, 34, 35, 36, 1, 6] (by decide) rfl, hGA.1.call va_S.rf rfl (State.WarmedH.refl s) (bl_A hwc), hZ.at (K_mem hK hTH) hwc⟩, fun o t hQ => ?_, fun q hq => bl_A hwc q hq⟩
  obtain ⟨⟨r, u9, rfl, hpost, hB⟩, hz, hkp⟩ := hQ
  obtain ⟨ft9, fr9, fD9, ft09, ft19, ft29, g09, g19, g29, g39, g49, g59, g69, g79, fFc9⟩ := u9
  try dsimp only at hpost hB
  obtain ⟨hP1, hK1, hD1⟩ := hB
  have hJ := bl_gen (F' := [(zo13rrirrrr h0 sc kp ik bl go ch bo), (zo10ririliiriririr sc aTp (nI ts) aHl (nI nh) (lN ee) mi sn aHs (nI n) aWk (nI wz) aBk (nI bz) aFc), (zaI aTp cTp 100 fTp), (zaR aHs cHs 8 fHs), (zaI aWk cWk 6 fWk), (zaI aBk cBk 12 fBk), (zaI aFc cFc 6 fFc9), (zo10ririliiriririr kp kTp (nI kts) kHl (nI knh) (lN kee) kmi ksn kHs (nI kn) kWk (nI kwz) kBk (nI kbz) kFc), (zaI kTp kcTp 100 kfTp), (zaR kHs kcHs 8 kfHs), (zaI kWk kcWk 6 kfWk), (zaI kBk kcBk 12 kfBk), (zaI kFc kcFc 6 kfFc), (zo7iirrrriviii bl esg (nI ecl) eW eA eE eC cdd etv szz att (nI em)), (zaI eW ceW 10 feW), (zaI eA ceA 10 feA), (zaI eE ceE 10 feE), (zaI eC ceC 100 feC), (zo4rrir go gR gO (nI lk) gS), (zaI gR cR 8 fR), (zaI gO cO 8 fO), (zo5iiii gS 0 (nI i0) 0 scl), (zo2lirrr ch ft9 fr9 dr tO hO), (zaI dr cD 36 fD9), (zaR tO cTO 3 (fun i => if i < 3 then some (rt i) else none)), (zaL (rt 0) cT 36 ft09), (zaL (rt 1) cT 36 ft19), (zaL (rt 2) cT 36 ft29), (zaR hO cHO 8 (fun i => if i < 8 then some (rh i) else none)), (zaI (rh 0) cH 36 g09), (zaI (rh 1) cH 36 g19), (zaI (rh 2) cH 36 g29), (zaI (rh 3) cH 36 g39), (zaI (rh 4) cH 36 g49), (zaI (rh 5) cH 36 g59), (zaI (rh 6) cH 36 g69), (zaI (rh 7) cH 36 g79)]) hP hD [0, 22, 23, 24, 25, 26, 27, 28, 29, 30, 31, 32, 33, 34, 35, 36, 1, 6] rfl hkp hP1 hD1 [some 0, some 16, none, none, none, none, some 17, none, none, none, none, none, none, none, none, none, none, none, none, none, none, none, some 1, some 2, some 3, some 4, some 5, some 6, some 7, some 8, some 9, some 10, some 11, some 12, some 13, some 14, some 15] [0, 22, 23, 24, 25, 26, 27, 28, 29, 30, 31, 32, 33, 34, 35, 36, 1, 6] rfl (Or.inl rfl) rfl
  have hX := D_mem hJ.2
  exact ⟨⟨r, (ik, (n, wz, bz, mi, sn, yk, yv, yc, nh, ts, tc, hC, ee), (kn, kwz, kbz, kmi, ksn, kyk, kyv, kyc, knh, kts, ktc, khC, kee), tl), rfl, rfl, _, T, (fun M9 k9 => k9 sc kp bl go ch bo aTp ts aHl nh ee mi sn aHs n aWk wz aBk bz aFc cTp fTp cHs fHs cWk fWk cBk fBk cFc (fFc9) kTp kts kHl knh kee kmi ksn kHs kn kWk kwz kBk kbz kFc kcTp kfTp kcHs kfHs kcWk kfWk kcBk kfBk kcFc kfFc esg ecl eW eA eE eC cdd etv szz att em ceW feW ceA feA ceE feE ceC feC gR gO lk gS cR fR cO fO i0 scl (ft9) (fr9) dr tO hO cD (fD9) cTO rt cT (ft09) (ft19) (ft29) cHO rh cH (g09) (g19) (g29) (g39) (g49) (g59) (g69) (g79) sg cl bW bA bE bC hcd tpv hsz hat nmb cbW fbW cbA fbA cbE fbE cbC fbC ksg kcl kbW kbA kbE kbC khcd ktpv khsz khat knmb kcbW kfbW kcbA kfbA kcbE kfbE kcbC kfbC yi ya yk yv yc kyi kya kyk kyv kyc tc ktc hC khC LB rfl (hLB) hJ.1 ⟨hJ.2.1, fun _ _ _ => trivial⟩ (hTF) (hTH) (hTK) ⟨oTs, oNh, oN, oWz, oBz, oHs, oHn, oYk, oYv, oWk, oBk, oYt, oTx, oEe, oMi, oYc⟩ ⟨koTs, koNh, koN, koWz, koBz, koHs, koHn, koYk, koYv, koWk, koBk, koYt, koTx, koEe, koMi, koYc⟩ (hlk) ⟨zcl, zE, zC, zH⟩ ⟨kzcl, kzE, kzC, kzH⟩ ⟨hcl, hem, zeE, zeC⟩ (hZ.kept hkp hwc hX) (hZk.kept hkp hwc hX) (hHs.kept hkp hwc hX) (hHk.kept hkp hwc hX) rfl rfl), hJ.2, fun p hp => Or.inl hp⟩, hz, fun q h1 h2 => hkp q h1 (fun h => h2 (bl_A hwc _ h))⟩

set_option maxHeartbeats 4000000 in
set_option maxRecDepth 100000 in
theorem w_bestOdds (l : Launch) (dC : Nat → ClassId) (dI : Nat → Nat → Nat) (gd : Nat → Nat) (kA : Nat) (ad : Nat → Nat) (cB bS : Nat) (sK sV : Nat → Nat) (Y : Nat → Prop) (ik : Int32) (vs kvs : VS) (tl : List Nat) (T : List (ClassId × FieldType)) (h0 : Nat) (X : va_W) (x : Int32) (y : Int32) (z : Int32) (u : Int32) (sz : Nat) : Met l yX11_bestOdds wsX11_bestOdds ({ frames := 6, cells := 0, slots := 0, locals := 147 } : Room) (va_Pc [.ref h0, .int x, .int y, .int z, .int u] (fun U => U.heap.size = sz ∧ XI dC dI ad bS Y ik vs kvs tl T h0 X U.heap ∧ va_K (dC, dI) vwCl T U ∧ (∀ c ∈ X, ¬ Y c.1) ∧ (∀ q, sz ≤ q → ¬ Y q) ∧ GA gd kA ad cB bS sK sV (va_A X sz) U)) (va_Ql (fun (r : Int64) (u : Int32 × VS × VS × List Nat) => u = (ik, vs, kvs, tl)) (fun (u : Int32 × VS × VS × List Nat) (t : State) => ∃ (X1 : va_W) (T1 : List (ClassId × FieldType)), XI dC dI ad bS Y u.1 u.2.1 u.2.2.1 u.2.2.2 T1 h0 X1 t.heap ∧ va_D (va_A X sz) X1 ∧ ∀ p ∈ T1, p ∈ T ∨ va_K (dC, dI) vwCl [p] t) (va_A X sz)) 0 0 (va_A X sz) := by
  refine met_wrap (fun args s hPc => ?_)
  obtain ⟨rfl, rfl, hXI, hK, hY1, hY2, hGA⟩ := hPc
  have hXI0 := hXI
  refine hXI _ (fun sc kp bl go ch bo aTp ts aHl nh ee mi sn aHs n aWk wz aBk bz aFc cTp fTp cHs fHs cWk fWk cBk fBk cFc fFc kTp kts kHl knh kee kmi ksn kHs kn kWk kwz kBk kbz kFc kcTp kfTp kcHs kfHs kcWk kfWk kcBk kfBk kcFc kfFc esg ecl eW eA eE eC cdd etv szz att em ceW feW ceA feA ceE feE ceC feC gR gO lk gS cR fR cO fO i0 scl ft fr dr tO hO cD fD cTO rt cT ft0 ft1 ft2 cHO rh cH g0 g1 g2 g3 g4 g5 g6 g7 sg cl bW bA bE bC hcd tpv hsz hat nmb cbW fbW cbA fbA cbE fbE cbC fbC ksg kcl kbW kbA kbE kbC khcd ktpv khsz khat knmb kcbW kfbW kcbA kfbA kcbE kfbE kcbC kfbC yi ya yk yv yc kyi kya kyk kyv kyc tc ktc hC khC LB hX hLB hP hD hTF hTH hTK hq1 hq2 hlk hq3 hq4 hq5 hZ hZk hHs hHk hvs hkv => ?_)
  subst hvs
  subst hkv
  obtain ⟨oTs, oNh, oN, oWz, oBz, oHs, oHn, oYk, oYv, oWk, oBk, oYt, oTx, oEe, oMi, oYc⟩ := hq1
  obtain ⟨koTs, koNh, koN, koWz, koBz, koHs, koHn, koYk, koYv, koWk, koBk, koYt, koTx, koEe, koMi, koYc⟩ := hq2
  obtain ⟨zcl, zE, zC, zH⟩ := hq3
  obtain ⟨kzcl, kzE, kzC, kzH⟩ := hq4
  obtain ⟨hcl, hem, zeE, zeC⟩ := hq5
  subst hX
  have hwc := bl_mem (G := [(zo13rrirrrr h0 sc kp ik bl go ch bo), (zo10ririliiriririr sc aTp (nI ts) aHl (nI nh) (lN ee) mi sn aHs (nI n) aWk (nI wz) aBk (nI bz) aFc), (zaI aTp cTp 100 fTp), (zaR aHs cHs 8 fHs), (zaI aWk cWk 6 fWk), (zaI aBk cBk 12 fBk), (zaI aFc cFc 6 fFc), (zo10ririliiriririr kp kTp (nI kts) kHl (nI knh) (lN kee) kmi ksn kHs (nI kn) kWk (nI kwz) kBk (nI kbz) kFc), (zaI kTp kcTp 100 kfTp), (zaR kHs kcHs 8 kfHs), (zaI kWk kcWk 6 kfWk), (zaI kBk kcBk 12 kfBk), (zaI kFc kcFc 6 kfFc), (zo7iirrrriviii bl esg (nI ecl) eW eA eE eC cdd etv szz att (nI em)), (zaI eW ceW 10 feW), (zaI eA ceA 10 feA), (zaI eE ceE 10 feE), (zaI eC ceC 100 feC), (zo4rrir go gR gO (nI lk) gS), (zaI gR cR 8 fR), (zaI gO cO 8 fO), (zo5iiii gS 0 (nI i0) 0 scl), (zo2lirrr ch ft fr dr tO hO), (zaI dr cD 36 fD), (zaR tO cTO 3 (fun i => if i < 3 then some (rt i) else none)), (zaL (rt 0) cT 36 ft0), (zaL (rt 1) cT 36 ft1), (zaL (rt 2) cT 36 ft2), (zaR hO cHO 8 (fun i => if i < 8 then some (rh i) else none)), (zaI (rh 0) cH 36 g0), (zaI (rh 1) cH 36 g1), (zaI (rh 2) cH 36 g2), (zaI (rh 3) cH 36 g3), (zaI (rh 4) cH 36 g4), (zaI (rh 5) cH 36 g5), (zaI (rh 6) cH 36 g6), (zaI (rh 7) cH 36 g7)]) (F := [(zo13rrirrrr h0 sc kp ik bl go ch bo), (zo2lirrr ch ft fr dr tO hO), (zaI dr cD 36 fD), (zaR tO cTO 3 (fun i => if i < 3 then some (rt i) else none)), (zaL (rt 0) cT 36 ft0), (zaL (rt 1) cT 36 ft1), (zaL (rt 2) cT 36 ft2), (zaR hO cHO 8 (fun i => if i < 8 then some (rh i) else none)), (zaI (rh 0) cH 36 g0), (zaI (rh 1) cH 36 g1), (zaI (rh 2) cH 36 g2), (zaI (rh 3) cH 36 g3), (zaI (rh 4) cH 36 g4), (zaI (rh 5) cH 36 g5), (zaI (rh 6) cH 36 g6), (zaI (rh 7) cH 36 g7), (zo10ririliiriririr sc aTp (nI ts) aHl (nI nh) (lN ee) mi sn aHs (nI n) aWk (nI wz) aBk (nI bz) aFc), (zaI aFc cFc 6 fFc)]) (T := LB) [0, 22, 23, 24, 25, 26, 27, 28, 29, 30, 31, 32, 33, 34, 35, 36, 1, 6] rfl
  have hPc := bl_sub (F := [(zo13rrirrrr h0 sc kp ik bl go ch bo), (zo2lirrr ch ft fr dr tO hO), (zaI dr cD 36 fD), (zaR tO cTO 3 (fun i => if i < 3 then some (rt i) else none)), (zaL (rt 0) cT 36 ft0), (zaL (rt 1) cT 36 ft1), (zaL (rt 2) cT 36 ft2), (zaR hO cHO 8 (fun i => if i < 8 then some (rh i) else none)), (zaI (rh 0) cH 36 g0), (zaI (rh 1) cH 36 g1), (zaI (rh 2) cH 36 g2), (zaI (rh 3) cH 36 g3), (zaI (rh 4) cH 36 g4), (zaI (rh 5) cH 36 g5), (zaI (rh 6) cH 36 g6), (zaI (rh 7) cH 36 g7), (zo10ririliiriririr sc aTp (nI ts) aHl (nI nh) (lN ee) mi sn aHs (nI n) aWk (nI wz) aBk (nI bz) aFc), (zaI aFc cFc 6 fFc)]) hP [0, 22, 23, 24, 25, 26, 27, 28, 29, 30, 31, 32, 33, 34, 35, 36, 1, 6] rfl
  refine ⟨_, _, _, c_xBestOdds l dC dI gd h0 sc kp bl go ch bo aTp aHl aHs aWk aBk aFc bW bA bE bC dr tO hO ts nh n wz bz cl 0 mi sn sg hcd hsz hat nmb fr ik x y z u (lN ee) ft cFc cbW cbA cbE cbC cD cTO cHO cT cH fFc fbW fbA fbE fbC fD g0 g1 g2 g3 g4 g5 g6 g7 ft0 ft1 ft2 rt rh tpv hC s.heap.size zcl zE zC zH, ⟨rfl, rfl, hPc, (K_mem hK hTF).sub [16, 17, 18, 19, 20, 21, 22, 23, 24, 25, 26, 27, 28, 29, 4] rfl, bl_Dsub hD [0, 22, 23, 24, 25, 26, 27, 28, 29, 30, 31, 32, 33, 34, 35, 36, 1, 6] (by decide) rfl, hGA.1.call va_S.rf rfl (State.WarmedH.refl s) (bl_A hwc), hZ.at (K_mem hK hTH) hwc⟩, fun o t hQ => ?_, fun q hq => bl_A hwc q hq⟩
  obtain ⟨⟨r, u9, rfl, hpost, hB⟩, hz, hkp⟩ := hQ
  obtain ⟨ft9, fr9, fD9, ft09, ft19, ft29, g09, g19, g29, g39, g49, g59, g69, g79, fFc9⟩ := u9
  try dsimp only at hpost hB
  obtain ⟨hP1, hK1, hD1⟩ := hB
  have hJ := bl_gen (F' := [(zo13rrirrrr h0 sc kp ik bl go ch bo), (zo10ririliiriririr sc aTp (nI ts) aHl (nI nh) (lN ee) mi sn aHs (nI n) aWk (nI wz) aBk (nI bz) aFc), (zaI aTp cTp 100 fTp), (zaR aHs cHs 8 fHs), (zaI aWk cWk 6 fWk), (zaI aBk cBk 12 fBk), (zaI aFc cFc 6 fFc9), (zo10ririliiriririr kp kTp (nI kts) kHl (nI knh) (lN kee) kmi ksn kHs (nI kn) kWk (nI kwz) kBk (nI kbz) kFc), (zaI kTp kcTp 100 kfTp), (zaR kHs kcHs 8 kfHs), (zaI kWk kcWk 6 kfWk), (zaI kBk kcBk 12 kfBk), (zaI kFc kcFc 6 kfFc), (zo7iirrrriviii bl esg (nI ecl) eW eA eE eC cdd etv szz att (nI em)), (zaI eW ceW 10 feW), (zaI eA ceA 10 feA), (zaI eE ceE 10 feE), (zaI eC ceC 100 feC), (zo4rrir go gR gO (nI lk) gS), (zaI gR cR 8 fR), (zaI gO cO 8 fO), (zo5iiii gS 0 (nI i0) 0 scl), (zo2lirrr ch ft9 fr9 dr tO hO), (zaI dr cD 36 fD9), (zaR tO cTO 3 (fun i => if i < 3 then some (rt i) else none)), (zaL (rt 0) cT 36 ft09), (zaL (rt 1) cT 36 ft19), (zaL (rt 2) cT 36 ft29), (zaR hO cHO 8 (fun i => if i < 8 then some (rh i) else none)), (zaI (rh 0) cH 36 g09), (zaI (rh 1) cH 36 g19), (zaI (rh 2) cH 36 g29), (zaI (rh 3) cH 36 g39), (zaI (rh 4) cH 36 g49), (zaI (rh 5) cH 36 g59), (zaI (rh 6) cH 36 g69), (zaI (rh 7) cH 36 g79)]) hP hD [0, 22, 23, 24, 25, 26, 27, 28, 29, 30, 31, 32, 33, 34, 35, 36, 1, 6] rfl hkp hP1 hD1 [some 0, some 16, none, none, none, none, some 17, none, none, none, none, none, none, none, none, none, none, none, none, none, none, none, some 1, some 2, some 3, some 4, some 5, some 6, some 7, some 8, some 9, some 10, some 11, some 12, some 13, some 14, some 15] [0, 22, 23, 24, 25, 26, 27, 28, 29, 30, 31, 32, 33, 34, 35, 36, 1, 6] rfl (Or.inl rfl) rfl
  have hX := D_mem hJ.2
  exact ⟨⟨r, (ik, (n, wz, bz, mi, sn, yk, yv, yc, nh, ts, tc, hC, ee), (kn, kwz, kbz, kmi, ksn, kyk, kyv, kyc, knh, kts, ktc, khC, kee), tl), rfl, rfl, _, T, (fun M9 k9 => k9 sc kp bl go ch bo aTp ts aHl nh ee mi sn aHs n aWk wz aBk bz aFc cTp fTp cHs fHs cWk fWk cBk fBk cFc (fFc9) kTp kts kHl knh kee kmi ksn kHs kn kWk kwz kBk kbz kFc kcTp kfTp kcHs kfHs kcWk kfWk kcBk kfBk kcFc kfFc esg ecl eW eA eE eC cdd etv szz att em ceW feW ceA feA ceE feE ceC feC gR gO lk gS cR fR cO fO i0 scl (ft9) (fr9) dr tO hO cD (fD9) cTO rt cT (ft09) (ft19) (ft29) cHO rh cH (g09) (g19) (g29) (g39) (g49) (g59) (g69) (g79) sg cl bW bA bE bC hcd tpv hsz hat nmb cbW fbW cbA fbA cbE fbE cbC fbC ksg kcl kbW kbA kbE kbC khcd ktpv khsz khat knmb kcbW kfbW kcbA kfbA kcbE kfbE kcbC kfbC yi ya yk yv yc kyi kya kyk kyv kyc tc ktc hC khC LB rfl (hLB) hJ.1 ⟨hJ.2.1, fun _ _ _ => trivial⟩ (hTF) (hTH) (hTK) ⟨oTs, oNh, oN, oWz, oBz, oHs, oHn, oYk, oYv, oWk, oBk, oYt, oTx, oEe, oMi, oYc⟩ ⟨koTs, koNh, koN, koWz, koBz, koHs, koHn, koYk, koYv, koWk, koBk, koYt, koTx, koEe, koMi, koYc⟩ (hlk) ⟨zcl, zE, zC, zH⟩ ⟨kzcl, kzE, kzC, kzH⟩ ⟨hcl, hem, zeE, zeC⟩ (hZ.kept hkp hwc hX) (hZk.kept hkp hwc hX) (hHs.kept hkp hwc hX) (hHk.kept hkp hwc hX) rfl rfl), hJ.2, fun p hp => Or.inl hp⟩, hz, fun q h1 h2 => hkp q h1 (fun h => h2 (bl_A hwc _ h))⟩

set_option maxHeartbeats 4000000 in
set_option maxRecDepth 100000 in
theorem w_safe (l : Launch) (dC : Nat → ClassId) (dI : Nat → Nat → Nat) (gd : Nat → Nat) (kA : Nat) (ad : Nat → Nat) (cB bS : Nat) (sK sV : Nat → Nat) (Y : Nat → Prop) (ik : Int32) (vs kvs : VS) (tl : List Nat) (T : List (ClassId × FieldType)) (h0 : Nat) (X : va_W) (x : Int32) (y : Int32) (z : Int32) (sz : Nat) : Met l yX11_safe wsX11_safe ({ frames := 6, cells := 0, slots := 0, locals := 147 } : Room) (va_Pc [.ref h0, .int x, .int y, .int z] (fun U => U.heap.size = sz ∧ XI dC dI ad bS Y ik vs kvs tl T h0 X U.heap ∧ va_K (dC, dI) vwCl T U ∧ (∀ c ∈ X, ¬ Y c.1) ∧ (∀ q, sz ≤ q → ¬ Y q) ∧ GA gd kA ad cB bS sK sV (va_A X sz) U)) (va_Qi (fun (r : Int32) (u : Int32 × VS × VS × List Nat) => u = (ik, vs, kvs, tl)) (fun (u : Int32 × VS × VS × List Nat) (t : State) => ∃ (X1 : va_W) (T1 : List (ClassId × FieldType)), XI dC dI ad bS Y u.1 u.2.1 u.2.2.1 u.2.2.2 T1 h0 X1 t.heap ∧ va_D (va_A X sz) X1 ∧ ∀ p ∈ T1, p ∈ T ∨ va_K (dC, dI) vwCl [p] t) (va_A X sz)) 0 0 (va_A X sz) := by
  refine met_wrap (fun args s hPc => ?_)
  obtain ⟨rfl, rfl, hXI, hK, hY1, hY2, hGA⟩ := hPc
  have hXI0 := hXI
  refine hXI _ (fun sc kp bl go ch bo aTp ts aHl nh ee mi sn aHs n aWk wz aBk bz aFc cTp fTp cHs fHs cWk fWk cBk fBk cFc fFc kTp kts kHl knh kee kmi ksn kHs kn kWk kwz kBk kbz kFc kcTp kfTp kcHs kfHs kcWk kfWk kcBk kfBk kcFc kfFc esg ecl eW eA eE eC cdd etv szz att em ceW feW ceA feA ceE feE ceC feC gR gO lk gS cR fR cO fO i0 scl ft fr dr tO hO cD fD cTO rt cT ft0 ft1 ft2 cHO rh cH g0 g1 g2 g3 g4 g5 g6 g7 sg cl bW bA bE bC hcd tpv hsz hat nmb cbW fbW cbA fbA cbE fbE cbC fbC ksg kcl kbW kbA kbE kbC khcd ktpv khsz khat knmb kcbW kfbW kcbA kfbA kcbE kfbE kcbC kfbC yi ya yk yv yc kyi kya kyk kyv kyc tc ktc hC khC LB hX hLB hP hD hTF hTH hTK hq1 hq2 hlk hq3 hq4 hq5 hZ hZk hHs hHk hvs hkv => ?_)
  subst hvs
  subst hkv
  obtain ⟨oTs, oNh, oN, oWz, oBz, oHs, oHn, oYk, oYv, oWk, oBk, oYt, oTx, oEe, oMi, oYc⟩ := hq1
  obtain ⟨koTs, koNh, koN, koWz, koBz, koHs, koHn, koYk, koYv, koWk, koBk, koYt, koTx, koEe, koMi, koYc⟩ := hq2
  obtain ⟨zcl, zE, zC, zH⟩ := hq3
  obtain ⟨kzcl, kzE, kzC, kzH⟩ := hq4
  obtain ⟨hcl, hem, zeE, zeC⟩ := hq5
  subst hX
  have hwc := bl_mem (G := [(zo13rrirrrr h0 sc kp ik bl go ch bo), (zo10ririliiriririr sc aTp (nI ts) aHl (nI nh) (lN ee) mi sn aHs (nI n) aWk (nI wz) aBk (nI bz) aFc), (zaI aTp cTp 100 fTp), (zaR aHs cHs 8 fHs), (zaI aWk cWk 6 fWk), (zaI aBk cBk 12 fBk), (zaI aFc cFc 6 fFc), (zo10ririliiriririr kp kTp (nI kts) kHl (nI knh) (lN kee) kmi ksn kHs (nI kn) kWk (nI kwz) kBk (nI kbz) kFc), (zaI kTp kcTp 100 kfTp), (zaR kHs kcHs 8 kfHs), (zaI kWk kcWk 6 kfWk), (zaI kBk kcBk 12 kfBk), (zaI kFc kcFc 6 kfFc), (zo7iirrrriviii bl esg (nI ecl) eW eA eE eC cdd etv szz att (nI em)), (zaI eW ceW 10 feW), (zaI eA ceA 10 feA), (zaI eE ceE 10 feE), (zaI eC ceC 100 feC), (zo4rrir go gR gO (nI lk) gS), (zaI gR cR 8 fR), (zaI gO cO 8 fO), (zo5iiii gS 0 (nI i0) 0 scl), (zo2lirrr ch ft fr dr tO hO), (zaI dr cD 36 fD), (zaR tO cTO 3 (fun i => if i < 3 then some (rt i) else none)), (zaL (rt 0) cT 36 ft0), (zaL (rt 1) cT 36 ft1), (zaL (rt 2) cT 36 ft2), (zaR hO cHO 8 (fun i => if i < 8 then some (rh i) else none)), (zaI (rh 0) cH 36 g0), (zaI (rh 1) cH 36 g1), (zaI (rh 2) cH 36 g2), (zaI (rh 3) cH 36 g3), (zaI (rh 4) cH 36 g4), (zaI (rh 5) cH 36 g5), (zaI (rh 6) cH 36 g6), (zaI (rh 7) cH 36 g7)]) (F := [(zo13rrirrrr h0 sc kp ik bl go ch bo), (zo2lirrr ch ft fr dr tO hO), (zaI dr cD 36 fD), (zaR tO cTO 3 (fun i => if i < 3 then some (rt i) else none)), (zaL (rt 0) cT 36 ft0), (zaL (rt 1) cT 36 ft1), (zaL (rt 2) cT 36 ft2), (zaR hO cHO 8 (fun i => if i < 8 then some (rh i) else none)), (zaI (rh 0) cH 36 g0), (zaI (rh 1) cH 36 g1), (zaI (rh 2) cH 36 g2), (zaI (rh 3) cH 36 g3), (zaI (rh 4) cH 36 g4), (zaI (rh 5) cH 36 g5), (zaI (rh 6) cH 36 g6), (zaI (rh 7) cH 36 g7), (zo10ririliiriririr sc aTp (nI ts) aHl (nI nh) (lN ee) mi sn aHs (nI n) aWk (nI wz) aBk (nI bz) aFc), (zaI aFc cFc 6 fFc)]) (T := LB) [0, 22, 23, 24, 25, 26, 27, 28, 29, 30, 31, 32, 33, 34, 35, 36, 1, 6] rfl
  have hPc := bl_sub (F := [(zo13rrirrrr h0 sc kp ik bl go ch bo), (zo2lirrr ch ft fr dr tO hO), (zaI dr cD 36 fD), (zaR tO cTO 3 (fun i => if i < 3 then some (rt i) else none)), (zaL (rt 0) cT 36 ft0), (zaL (rt 1) cT 36 ft1), (zaL (rt 2) cT 36 ft2), (zaR hO cHO 8 (fun i => if i < 8 then some (rh i) else none)), (zaI (rh 0) cH 36 g0), (zaI (rh 1) cH 36 g1), (zaI (rh 2) cH 36 g2), (zaI (rh 3) cH 36 g3), (zaI (rh 4) cH 36 g4), (zaI (rh 5) cH 36 g5), (zaI (rh 6) cH 36 g6), (zaI (rh 7) cH 36 g7), (zo10ririliiriririr sc aTp (nI ts) aHl (nI nh) (lN ee) mi sn aHs (nI n) aWk (nI wz) aBk (nI bz) aFc), (zaI aFc cFc 6 fFc)]) hP [0, 22, 23, 24, 25, 26, 27, 28, 29, 30, 31, 32, 33, 34, 35, 36, 1, 6] rfl
  refine ⟨_, _, _, c_xSafe l dC dI gd h0 sc kp bl go ch bo aTp aHl aHs aWk aBk aFc bW bA bE bC dr tO hO ts nh n wz bz cl 0 mi sn sg hcd hsz hat nmb fr ik x y z (lN ee) ft cFc cbW cbA cbE cbC cD cTO cHO cT cH fFc fbW fbA fbE fbC fD g0 g1 g2 g3 g4 g5 g6 g7 ft0 ft1 ft2 rt rh tpv hC s.heap.size zcl zE zC zH, ⟨rfl, rfl, hPc, (K_mem hK hTF).sub [16, 17, 18, 19, 20, 21, 22, 23, 24, 25, 26, 27, 28, 29, 4] rfl, bl_Dsub hD [0, 22, 23, 24, 25, 26, 27, 28, 29, 30, 31, 32, 33, 34, 35, 36, 1, 6] (by decide) rfl, hGA.1.call va_S.rf rfl (State.WarmedH.refl s) (bl_A hwc), hZ.at (K_mem hK hTH) hwc⟩, fun o t hQ => ?_, fun q hq => bl_A hwc q hq⟩
  obtain ⟨⟨r, u9, rfl, hpost, hB⟩, hz, hkp⟩ := hQ
  obtain ⟨ft9, fr9, fD9, ft09, ft19, ft29, g09, g19, g29, g39, g49, g59, g69, g79, fFc9⟩ := u9
  try dsimp only at hpost hB
  obtain ⟨hP1, hK1, hD1⟩ := hB
  have hJ := bl_gen (F' := [(zo13rrirrrr h0 sc kp ik bl go ch bo), (zo10ririliiriririr sc aTp (nI ts) aHl (nI nh) (lN ee) mi sn aHs (nI n) aWk (nI wz) aBk (nI bz) aFc), (zaI aTp cTp 100 fTp), (zaR aHs cHs 8 fHs), (zaI aWk cWk 6 fWk), (zaI aBk cBk 12 fBk), (zaI aFc cFc 6 fFc9), (zo10ririliiriririr kp kTp (nI kts) kHl (nI knh) (lN kee) kmi ksn kHs (nI kn) kWk (nI kwz) kBk (nI kbz) kFc), (zaI kTp kcTp 100 kfTp), (zaR kHs kcHs 8 kfHs), (zaI kWk kcWk 6 kfWk), (zaI kBk kcBk 12 kfBk), (zaI kFc kcFc 6 kfFc), (zo7iirrrriviii bl esg (nI ecl) eW eA eE eC cdd etv szz att (nI em)), (zaI eW ceW 10 feW), (zaI eA ceA 10 feA), (zaI eE ceE 10 feE), (zaI eC ceC 100 feC), (zo4rrir go gR gO (nI lk) gS), (zaI gR cR 8 fR), (zaI gO cO 8 fO), (zo5iiii gS 0 (nI i0) 0 scl), (zo2lirrr ch ft9 fr9 dr tO hO), (zaI dr cD 36 fD9), (zaR tO cTO 3 (fun i => if i < 3 then some (rt i) else none)), (zaL (rt 0) cT 36 ft09), (zaL (rt 1) cT 36 ft19), (zaL (rt 2) cT 36 ft29), (zaR hO cHO 8 (fun i => if i < 8 then some (rh i) else none)), (zaI (rh 0) cH 36 g09), (zaI (rh 1) cH 36 g19), (zaI (rh 2) cH 36 g29), (zaI (rh 3) cH 36 g39), (zaI (rh 4) cH 36 g49), (zaI (rh 5) cH 36 g59), (zaI (rh 6) cH 36 g69), (zaI (rh 7) cH 36 g79)]) hP hD [0, 22, 23, 24, 25, 26, 27, 28, 29, 30, 31, 32, 33, 34, 35, 36, 1, 6] rfl hkp hP1 hD1 [some 0, some 16, none, none, none, none, some 17, none, none, none, none, none, none, none, none, none, none, none, none, none, none, none, some 1, some 2, some 3, some 4, some 5, some 6, some 7, some 8, some 9, some 10, some 11, some 12, some 13, some 14, some 15] [0, 22, 23, 24, 25, 26, 27, 28, 29, 30, 31, 32, 33, 34, 35, 36, 1, 6] rfl (Or.inl rfl) rfl
  have hX := D_mem hJ.2
  exact ⟨⟨r, (ik, (n, wz, bz, mi, sn, yk, yv, yc, nh, ts, tc, hC, ee), (kn, kwz, kbz, kmi, ksn, kyk, kyv, kyc, knh, kts, ktc, khC, kee), tl), rfl, rfl, _, T, (fun M9 k9 => k9 sc kp bl go ch bo aTp ts aHl nh ee mi sn aHs n aWk wz aBk bz aFc cTp fTp cHs fHs cWk fWk cBk fBk cFc (fFc9) kTp kts kHl knh kee kmi ksn kHs kn kWk kwz kBk kbz kFc kcTp kfTp kcHs kfHs kcWk kfWk kcBk kfBk kcFc kfFc esg ecl eW eA eE eC cdd etv szz att em ceW feW ceA feA ceE feE ceC feC gR gO lk gS cR fR cO fO i0 scl (ft9) (fr9) dr tO hO cD (fD9) cTO rt cT (ft09) (ft19) (ft29) cHO rh cH (g09) (g19) (g29) (g39) (g49) (g59) (g69) (g79) sg cl bW bA bE bC hcd tpv hsz hat nmb cbW fbW cbA fbA cbE fbE cbC fbC ksg kcl kbW kbA kbE kbC khcd ktpv khsz khat knmb kcbW kfbW kcbA kfbA kcbE kfbE kcbC kfbC yi ya yk yv yc kyi kya kyk kyv kyc tc ktc hC khC LB rfl (hLB) hJ.1 ⟨hJ.2.1, fun _ _ _ => trivial⟩ (hTF) (hTH) (hTK) ⟨oTs, oNh, oN, oWz, oBz, oHs, oHn, oYk, oYv, oWk, oBk, oYt, oTx, oEe, oMi, oYc⟩ ⟨koTs, koNh, koN, koWz, koBz, koHs, koHn, koYk, koYv, koWk, koBk, koYt, koTx, koEe, koMi, koYc⟩ (hlk) ⟨zcl, zE, zC, zH⟩ ⟨kzcl, kzE, kzC, kzH⟩ ⟨hcl, hem, zeE, zeC⟩ (hZ.kept hkp hwc hX) (hZk.kept hkp hwc hX) (hHs.kept hkp hwc hX) (hHk.kept hkp hwc hX) rfl rfl), hJ.2, fun p hp => Or.inl hp⟩, hz, fun q h1 h2 => hkp q h1 (fun h => h2 (bl_A hwc _ h))⟩

set_option maxHeartbeats 4000000 in
set_option maxRecDepth 100000 in
theorem w_steps (l : Launch) (dC : Nat → ClassId) (dI : Nat → Nat → Nat) (gd : Nat → Nat) (kA : Nat) (ad : Nat → Nat) (cB bS : Nat) (sK sV : Nat → Nat) (Y : Nat → Prop) (ik : Int32) (vs kvs : VS) (tl : List Nat) (T : List (ClassId × FieldType)) (h0 : Nat) (X : va_W) (x : Int32) (y : Int32) (sz : Nat) : Met l yX11_steps wsX11_steps ({ frames := 7, cells := 0, slots := 0, locals := 149 } : Room) (va_Pc [.ref h0, .int x, .int y] (fun U => U.heap.size = sz ∧ XI dC dI ad bS Y ik vs kvs tl T h0 X U.heap ∧ va_K (dC, dI) vwCl T U ∧ (∀ c ∈ X, ¬ Y c.1) ∧ (∀ q, sz ≤ q → ¬ Y q) ∧ GA gd kA ad cB bS sK sV (va_A X sz) U)) (va_Qi (fun (r : Int32) (u : Int32 × VS × VS × List Nat) => r = stR_ (vs.1) (vs.2.2.2.2.2.1) (vs.2.2.2.2.2.2.1) (vs.2.2.2.2.2.2.2.1) (vs.2.2.2.2.2.2.2.2.2.2.2.1) (vs.2.2.2.1) (vs.2.2.2.2.1) x y ∧ u = (ik, vs, kvs, tl)) (fun (u : Int32 × VS × VS × List Nat) (t : State) => ∃ (X1 : va_W) (T1 : List (ClassId × FieldType)), XI dC dI ad bS Y u.1 u.2.1 u.2.2.1 u.2.2.2 T1 h0 X1 t.heap ∧ va_D (va_A X sz) X1 ∧ ∀ p ∈ T1, p ∈ T ∨ va_K (dC, dI) vwCl [p] t) (va_A X sz)) 0 0 (va_A X sz) := by
  refine met_wrap (fun args s hPc => ?_)
  obtain ⟨rfl, rfl, hXI, hK, hY1, hY2, hGA⟩ := hPc
  have hXI0 := hXI
  refine hXI _ (fun sc kp bl go ch bo aTp ts aHl nh ee mi sn aHs n aWk wz aBk bz aFc cTp fTp cHs fHs cWk fWk cBk fBk cFc fFc kTp kts kHl knh kee kmi ksn kHs kn kWk kwz kBk kbz kFc kcTp kfTp kcHs kfHs kcWk kfWk kcBk kfBk kcFc kfFc esg ecl eW eA eE eC cdd etv szz att em ceW feW ceA feA ceE feE ceC feC gR gO lk gS cR fR cO fO i0 scl ft fr dr tO hO cD fD cTO rt cT ft0 ft1 ft2 cHO rh cH g0 g1 g2 g3 g4 g5 g6 g7 sg cl bW bA bE bC hcd tpv hsz hat nmb cbW fbW cbA fbA cbE fbE cbC fbC ksg kcl kbW kbA kbE kbC khcd ktpv khsz khat knmb kcbW kfbW kcbA kfbA kcbE kfbE kcbC kfbC yi ya yk yv yc kyi kya kyk kyv kyc tc ktc hC khC LB hX hLB hP hD hTF hTH hTK hq1 hq2 hlk hq3 hq4 hq5 hZ hZk hHs hHk hvs hkv => ?_)
  subst hvs
  subst hkv
  obtain ⟨oTs, oNh, oN, oWz, oBz, oHs, oHn, oYk, oYv, oWk, oBk, oYt, oTx, oEe, oMi, oYc⟩ := hq1
  obtain ⟨koTs, koNh, koN, koWz, koBz, koHs, koHn, koYk, koYv, koWk, koBk, koYt, koTx, koEe, koMi, koYc⟩ := hq2
  obtain ⟨zcl, zE, zC, zH⟩ := hq3
  obtain ⟨kzcl, kzE, kzC, kzH⟩ := hq4
  obtain ⟨hcl, hem, zeE, zeC⟩ := hq5
  subst hX
  have hwc := bl_mem (G := [(zo13rrirrrr h0 sc kp ik bl go ch bo), (zo10ririliiriririr sc aTp (nI ts) aHl (nI nh) (lN ee) mi sn aHs (nI n) aWk (nI wz) aBk (nI bz) aFc), (zaI aTp cTp 100 fTp), (zaR aHs cHs 8 fHs), (zaI aWk cWk 6 fWk), (zaI aBk cBk 12 fBk), (zaI aFc cFc 6 fFc), (zo10ririliiriririr kp kTp (nI kts) kHl (nI knh) (lN kee) kmi ksn kHs (nI kn) kWk (nI kwz) kBk (nI kbz) kFc), (zaI kTp kcTp 100 kfTp), (zaR kHs kcHs 8 kfHs), (zaI kWk kcWk 6 kfWk), (zaI kBk kcBk 12 kfBk), (zaI kFc kcFc 6 kfFc), (zo7iirrrriviii bl esg (nI ecl) eW eA eE eC cdd etv szz att (nI em)), (zaI eW ceW 10 feW), (zaI eA ceA 10 feA), (zaI eE ceE 10 feE), (zaI eC ceC 100 feC), (zo4rrir go gR gO (nI lk) gS), (zaI gR cR 8 fR), (zaI gO cO 8 fO), (zo5iiii gS 0 (nI i0) 0 scl), (zo2lirrr ch ft fr dr tO hO), (zaI dr cD 36 fD), (zaR tO cTO 3 (fun i => if i < 3 then some (rt i) else none)), (zaL (rt 0) cT 36 ft0), (zaL (rt 1) cT 36 ft1), (zaL (rt 2) cT 36 ft2), (zaR hO cHO 8 (fun i => if i < 8 then some (rh i) else none)), (zaI (rh 0) cH 36 g0), (zaI (rh 1) cH 36 g1), (zaI (rh 2) cH 36 g2), (zaI (rh 3) cH 36 g3), (zaI (rh 4) cH 36 g4), (zaI (rh 5) cH 36 g5), (zaI (rh 6) cH 36 g6), (zaI (rh 7) cH 36 g7)]) (F := [(zo13rrirrrr h0 sc kp ik bl go ch bo), (zo4rrir go gR gO (nI lk) gS), (zaI gR cR 8 fR), (zaI gO cO 8 fO), (zo10ririliiriririr sc aTp (nI ts) aHl (nI nh) (lN ee) mi sn aHs (nI n) aWk (nI wz) aBk (nI bz) aFc), (zaR aHs cHs 8 fHs), (zaI aFc cFc 6 fFc)]) (T := LB) [0, 18, 19, 20, 1, 3, 6] rfl
  have hPc := bl_sub (F := [(zo13rrirrrr h0 sc kp ik bl go ch bo), (zo4rrir go gR gO (nI lk) gS), (zaI gR cR 8 fR), (zaI gO cO 8 fO), (zo10ririliiriririr sc aTp (nI ts) aHl (nI nh) (lN ee) mi sn aHs (nI n) aWk (nI wz) aBk (nI bz) aFc), (zaR aHs cHs 8 fHs), (zaI aFc cFc 6 fFc)]) hP [0, 18, 19, 20, 1, 3, 6] rfl
  refine ⟨_, _, _, c_xSteps l dC dI gd kA h0 sc kp bl go ch bo aTp aHl aHs aWk aBk aFc bW bA bE bC gR gO gS ts nh n wz bz lk cl mi sn sg hcd hsz hat nmb ik x y (lN ee) cHs cFc cbW cbA cbE cbC cR cO fFc fbW fbA fbE fbC fR fO yk yv yc fHs yi ya tpv hC s.heap.size oHs oN zcl zE zC oYv oYc hlk zH oYt, ⟨rfl, rfl, hPc, (K_mem hK hTF).sub [14, 15, 1, 4] rfl, bl_Dsub hD [0, 18, 19, 20, 1, 3, 6] (by decide) rfl, hGA.1.call va_S.rf rfl (State.WarmedH.refl s) (bl_A hwc), hGA.2.1.call va_S.rf rfl (State.WarmedH.refl s) (bl_A hwc), hGA.2.2.1.call va_S.rf rfl (State.WarmedH.refl s) (bl_A hwc), hZ.at (K_mem hK hTH) hwc, hHs.at (K_mem hK (fun _ q => absurd q List.not_mem_nil)) hwc⟩, fun o t hQ => ?_, fun q hq => bl_A hwc q hq⟩
  obtain ⟨⟨r, u9, rfl, hpost, hB⟩, hz, hkp⟩ := hQ
  obtain ⟨lk9, fR9, fO9, fFc9⟩ := u9
  try dsimp only at hpost hB
  obtain ⟨hP1, hK1, hD1⟩ := hB
  obtain ⟨hp1, hp2⟩ := hpost
  have hJ := bl_gen (F' := [(zo13rrirrrr h0 sc kp ik bl go ch bo), (zo10ririliiriririr sc aTp (nI ts) aHl (nI nh) (lN ee) mi sn aHs (nI n) aWk (nI wz) aBk (nI bz) aFc), (zaI aTp cTp 100 fTp), (zaR aHs cHs 8 fHs), (zaI aWk cWk 6 fWk), (zaI aBk cBk 12 fBk), (zaI aFc cFc 6 fFc9), (zo10ririliiriririr kp kTp (nI kts) kHl (nI knh) (lN kee) kmi ksn kHs (nI kn) kWk (nI kwz) kBk (nI kbz) kFc), (zaI kTp kcTp 100 kfTp), (zaR kHs kcHs 8 kfHs), (zaI kWk kcWk 6 kfWk), (zaI kBk kcBk 12 kfBk), (zaI kFc kcFc 6 kfFc), (zo7iirrrriviii bl esg (nI ecl) eW eA eE eC cdd etv szz att (nI em)), (zaI eW ceW 10 feW), (zaI eA ceA 10 feA), (zaI eE ceE 10 feE), (zaI eC ceC 100 feC), (zo4rrir go gR gO (nI lk9) gS), (zaI gR cR 8 fR9), (zaI gO cO 8 fO9), (zo5iiii gS 0 (nI i0) 0 scl), (zo2lirrr ch ft fr dr tO hO), (zaI dr cD 36 fD), (zaR tO cTO 3 (fun i => if i < 3 then some (rt i) else none)), (zaL (rt 0) cT 36 ft0), (zaL (rt 1) cT 36 ft1), (zaL (rt 2) cT 36 ft2), (zaR hO cHO 8 (fun i => if i < 8 then some (rh i) else none)), (zaI (rh 0) cH 36 g0), (zaI (rh 1) cH 36 g1), (zaI (rh 2) cH 36 g2), (zaI (rh 3) cH 36 g3), (zaI (rh 4) cH 36 g4), (zaI (rh 5) cH 36 g5), (zaI (rh 6) cH 36 g6), (zaI (rh 7) cH 36 g7)]) hP hD [0, 18, 19, 20, 1, 3, 6] rfl hkp hP1 hD1 [some 0, some 4, none, some 5, none, none, some 6, none, none, none, none, none, none, none, none, none, none, none, some 1, some 2, some 3, none, none, none, none, none, none, none, none, none, none, none, none, none, none, none, none] [0, 18, 19, 20, 1, 3, 6] rfl (Or.inl rfl) rfl
  have hX := D_mem hJ.2
  exact ⟨⟨r, (ik, (n, wz, bz, mi, sn, yk, yv, yc, nh, ts, tc, hC, ee), (kn, kwz, kbz, kmi, ksn, kyk, kyv, kyc, knh, kts, ktc, khC, kee), tl), rfl, ⟨hp2, rfl⟩, _, T, (fun M9 k9 => k9 sc kp bl go ch bo aTp ts aHl nh ee mi sn aHs n aWk wz aBk bz aFc cTp fTp cHs fHs cWk fWk cBk fBk cFc (fFc9) kTp kts kHl knh kee kmi ksn kHs kn kWk kwz kBk kbz kFc kcTp kfTp kcHs kfHs kcWk kfWk kcBk kfBk kcFc kfFc esg ecl eW eA eE eC cdd etv szz att em ceW feW ceA feA ceE feE ceC feC gR gO (lk9) gS cR (fR9) cO (fO9) i0 scl ft fr dr tO hO cD fD cTO rt cT ft0 ft1 ft2 cHO rh cH g0 g1 g2 g3 g4 g5 g6 g7 sg cl bW bA bE bC hcd tpv hsz hat nmb cbW fbW cbA fbA cbE fbE cbC fbC ksg kcl kbW kbA kbE kbC khcd ktpv khsz khat knmb kcbW kfbW kcbA kfbA kcbE kfbE kcbC kfbC yi ya yk yv yc kyi kya kyk kyv kyc tc ktc hC khC LB rfl (hLB) hJ.1 ⟨hJ.2.1, fun _ _ _ => trivial⟩ (hTF) (hTH) (hTK) ⟨oTs, oNh, oN, oWz, oBz, oHs, oHn, oYk, oYv, oWk, oBk, oYt, oTx, oEe, oMi, oYc⟩ ⟨koTs, koNh, koN, koWz, koBz, koHs, koHn, koYk, koYv, koWk, koBk, koYt, koTx, koEe, koMi, koYc⟩ (hp1) ⟨zcl, zE, zC, zH⟩ ⟨kzcl, kzE, kzC, kzH⟩ ⟨hcl, hem, zeE, zeC⟩ (hZ.kept hkp hwc hX) (hZk.kept hkp hwc hX) (hHs.kept hkp hwc hX) (hHk.kept hkp hwc hX) rfl rfl), hJ.2, fun p hp => Or.inl hp⟩, hz, fun q h1 h2 => hkp q h1 (fun h => h2 (bl_A hwc _ h))⟩

set_option maxHeartbeats 4000000 in
set_option maxRecDepth 100000 in
theorem w_via (l : Launch) (dC : Nat → ClassId) (dI : Nat → Nat → Nat) (gd : Nat → Nat) (kA : Nat) (ad : Nat → Nat) (cB bS : Nat) (sK sV : Nat → Nat) (Y : Nat → Prop) (ik : Int32) (vs kvs : VS) (tl : List Nat) (T : List (ClassId × FieldType)) (h0 : Nat) (X : va_W) (x : Int32) (y : Int32) (sz : Nat) : Met l yX11_via wsX11_via ({ frames := 7, cells := 0, slots := 0, locals := 149 } : Room) (va_Pc [.ref h0, .int x, .int y] (fun U => U.heap.size = sz ∧ XI dC dI ad bS Y ik vs kvs tl T h0 X U.heap ∧ va_K (dC, dI) vwCl T U ∧ (∀ c ∈ X, ¬ Y c.1) ∧ (∀ q, sz ≤ q → ¬ Y q) ∧ GA gd kA ad cB bS sK sV (va_A X sz) U)) (va_Qi (fun (r : Int32) (u : Int32 × VS × VS × List Nat) => r = viR_ (vs.1) (vs.2.2.2.2.2.1) (vs.2.2.2.2.2.2.1) (vs.2.2.2.2.2.2.2.1) (vs.2.2.2.2.2.2.2.2.2.2.2.1) (vs.2.2.2.1) (vs.2.2.2.2.1) x y ∧ u = (ik, vs, kvs, tl)) (fun (u : Int32 × VS × VS × List Nat) (t : State) => ∃ (X1 : va_W) (T1 : List (ClassId × FieldType)), XI dC dI ad bS Y u.1 u.2.1 u.2.2.1 u.2.2.2 T1 h0 X1 t.heap ∧ va_D (va_A X sz) X1 ∧ ∀ p ∈ T1, p ∈ T ∨ va_K (dC, dI) vwCl [p] t) (va_A X sz)) 0 0 (va_A X sz) := by
  refine met_wrap (fun args s hPc => ?_)
  obtain ⟨rfl, rfl, hXI, hK, hY1, hY2, hGA⟩ := hPc
  have hXI0 := hXI
  refine hXI _ (fun sc kp bl go ch bo aTp ts aHl nh ee mi sn aHs n aWk wz aBk bz aFc cTp fTp cHs fHs cWk fWk cBk fBk cFc fFc kTp kts kHl knh kee kmi ksn kHs kn kWk kwz kBk kbz kFc kcTp kfTp kcHs kfHs kcWk kfWk kcBk kfBk kcFc kfFc esg ecl eW eA eE eC cdd etv szz att em ceW feW ceA feA ceE feE ceC feC gR gO lk gS cR fR cO fO i0 scl ft fr dr tO hO cD fD cTO rt cT ft0 ft1 ft2 cHO rh cH g0 g1 g2 g3 g4 g5 g6 g7 sg cl bW bA bE bC hcd tpv hsz hat nmb cbW fbW cbA fbA cbE fbE cbC fbC ksg kcl kbW kbA kbE kbC khcd ktpv khsz khat knmb kcbW kfbW kcbA kfbA kcbE kfbE kcbC kfbC yi ya yk yv yc kyi kya kyk kyv kyc tc ktc hC khC LB hX hLB hP hD hTF hTH hTK hq1 hq2 hlk hq3 hq4 hq5 hZ hZk hHs hHk hvs hkv => ?_)
  subst hvs
  subst hkv
  obtain ⟨oTs, oNh, oN, oWz, oBz, oHs, oHn, oYk, oYv, oWk, oBk, oYt, oTx, oEe, oMi, oYc⟩ := hq1
  obtain ⟨koTs, koNh, koN, koWz, koBz, koHs, koHn, koYk, koYv, koWk, koBk, koYt, koTx, koEe, koMi, koYc⟩ := hq2
  obtain ⟨zcl, zE, zC, zH⟩ := hq3
  obtain ⟨kzcl, kzE, kzC, kzH⟩ := hq4
  obtain ⟨hcl, hem, zeE, zeC⟩ := hq5
  subst hX
  have hwc := bl_mem (G := [(zo13rrirrrr h0 sc kp ik bl go ch bo), (zo10ririliiriririr sc aTp (nI ts) aHl (nI nh) (lN ee) mi sn aHs (nI n) aWk (nI wz) aBk (nI bz) aFc), (zaI aTp cTp 100 fTp), (zaR aHs cHs 8 fHs), (zaI aWk cWk 6 fWk), (zaI aBk cBk 12 fBk), (zaI aFc cFc 6 fFc), (zo10ririliiriririr kp kTp (nI kts) kHl (nI knh) (lN kee) kmi ksn kHs (nI kn) kWk (nI kwz) kBk (nI kbz) kFc), (zaI kTp kcTp 100 kfTp), (zaR kHs kcHs 8 kfHs), (zaI kWk kcWk 6 kfWk), (zaI kBk kcBk 12 kfBk), (zaI kFc kcFc 6 kfFc), (zo7iirrrriviii bl esg (nI ecl) eW eA eE eC cdd etv szz att (nI em)), (zaI eW ceW 10 feW), (zaI eA ceA 10 feA), (zaI eE ceE 10 feE), (zaI eC ceC 100 feC), (zo4rrir go gR gO (nI lk) gS), (zaI gR cR 8 fR), (zaI gO cO 8 fO), (zo5iiii gS 0 (nI i0) 0 scl), (zo2lirrr ch ft fr dr tO hO), (zaI dr cD 36 fD), (zaR tO cTO 3 (fun i => if i < 3 then some (rt i) else none)), (zaL (rt 0) cT 36 ft0), (zaL (rt 1) cT 36 ft1), (zaL (rt 2) cT 36 ft2), (zaR hO cHO 8 (fun i => if i < 8 then some (rh i) else none)), (zaI (rh 0) cH 36 g0), (zaI (rh 1) cH 36 g1), (zaI (rh 2) cH 36 g2), (zaI (rh 3) cH 36 g3), (zaI (rh 4) cH 36 g4), (zaI (rh 5) cH 36 g5), (zaI (rh 6) cH 36 g6), (zaI (rh 7) cH 36 g7)]) (F := [(zo13rrirrrr h0 sc kp ik bl go ch bo), (zo4rrir go gR gO (nI lk) gS), (zaI gR cR 8 fR), (zaI gO cO 8 fO), (zo10ririliiriririr sc aTp (nI ts) aHl (nI nh) (lN ee) mi sn aHs (nI n) aWk (nI wz) aBk (nI bz) aFc), (zaR aHs cHs 8 fHs), (zaI aFc cFc 6 fFc)]) (T := LB) [0, 18, 19, 20, 1, 3, 6] rfl
  have hPc := bl_sub (F := [(zo13rrirrrr h0 sc kp ik bl go ch bo), (zo4rrir go gR gO (nI lk) gS), (zaI gR cR 8 fR), (zaI gO cO 8 fO), (zo10ririliiriririr sc aTp (nI ts) aHl (nI nh) (lN ee) mi sn aHs (nI n) aWk (nI wz) aBk (nI bz) aFc), (zaR aHs cHs 8 fHs), (zaI aFc cFc 6 fFc)]) hP [0, 18, 19, 20, 1, 3, 6] rfl
  refine ⟨_, _, _, c_xVia l dC dI gd kA h0 sc kp bl go ch bo aTp aHl aHs aWk aBk aFc bW bA bE bC gR gO gS ts nh n wz bz lk cl mi sn sg hcd hsz hat nmb ik x y (lN ee) cHs cFc cbW cbA cbE cbC cR cO fFc fbW fbA fbE fbC fR fO yk yv yc fHs yi ya tpv hC s.heap.size oHs oN zcl zE zC oYv oYc hlk zH oYt, ⟨rfl, rfl, hPc, (K_mem hK hTF).sub [14, 15, 1, 4] rfl, bl_Dsub hD [0, 18, 19, 20, 1, 3, 6] (by decide) rfl, hGA.1.call va_S.rf rfl (State.WarmedH.refl s) (bl_A hwc), hGA.2.1.call va_S.rf rfl (State.WarmedH.refl s) (bl_A hwc), hGA.2.2.1.call va_S.rf rfl (State.WarmedH.refl s) (bl_A hwc), hZ.at (K_mem hK hTH) hwc, hHs.at (K_mem hK (fun _ q => absurd q List.not_mem_nil)) hwc⟩, fun o t hQ => ?_, fun q hq => bl_A hwc q hq⟩
  obtain ⟨⟨r, u9, rfl, hpost, hB⟩, hz, hkp⟩ := hQ
  obtain ⟨lk9, fR9, fO9, fFc9⟩ := u9
  try dsimp only at hpost hB
  obtain ⟨hP1, hK1, hD1⟩ := hB
  obtain ⟨hp1, hp2⟩ := hpost
  have hJ := bl_gen (F' := [(zo13rrirrrr h0 sc kp ik bl go ch bo), (zo10ririliiriririr sc aTp (nI ts) aHl (nI nh) (lN ee) mi sn aHs (nI n) aWk (nI wz) aBk (nI bz) aFc), (zaI aTp cTp 100 fTp), (zaR aHs cHs 8 fHs), (zaI aWk cWk 6 fWk), (zaI aBk cBk 12 fBk), (zaI aFc cFc 6 fFc9), (zo10ririliiriririr kp kTp (nI kts) kHl (nI knh) (lN kee) kmi ksn kHs (nI kn) kWk (nI kwz) kBk (nI kbz) kFc), (zaI kTp kcTp 100 kfTp), (zaR kHs kcHs 8 kfHs), (zaI kWk kcWk 6 kfWk), (zaI kBk kcBk 12 kfBk), (zaI kFc kcFc 6 kfFc), (zo7iirrrriviii bl esg (nI ecl) eW eA eE eC cdd etv szz att (nI em)), (zaI eW ceW 10 feW), (zaI eA ceA 10 feA), (zaI eE ceE 10 feE), (zaI eC ceC 100 feC), (zo4rrir go gR gO (nI lk9) gS), (zaI gR cR 8 fR9), (zaI gO cO 8 fO9), (zo5iiii gS 0 (nI i0) 0 scl), (zo2lirrr ch ft fr dr tO hO), (zaI dr cD 36 fD), (zaR tO cTO 3 (fun i => if i < 3 then some (rt i) else none)), (zaL (rt 0) cT 36 ft0), (zaL (rt 1) cT 36 ft1), (zaL (rt 2) cT 36 ft2), (zaR hO cHO 8 (fun i => if i < 8 then some (rh i) else none)), (zaI (rh 0) cH 36 g0), (zaI (rh 1) cH 36 g1), (zaI (rh 2) cH 36 g2), (zaI (rh 3) cH 36 g3), (zaI (rh 4) cH 36 g4), (zaI (rh 5) cH 36 g5), (zaI (rh 6) cH 36 g6), (zaI (rh 7) cH 36 g7)]) hP hD [0, 18, 19, 20, 1, 3, 6] rfl hkp hP1 hD1 [some 0, some 4, none, some 5, none, none, some 6, none, none, none, none, none, none, none, none, none, none, none, some 1, some 2, some 3, none, none, none, none, none, none, none, none, none, none, none, none, none, none, none, none] [0, 18, 19, 20, 1, 3, 6] rfl (Or.inl rfl) rfl
  have hX := D_mem hJ.2
  exact ⟨⟨r, (ik, (n, wz, bz, mi, sn, yk, yv, yc, nh, ts, tc, hC, ee), (kn, kwz, kbz, kmi, ksn, kyk, kyv, kyc, knh, kts, ktc, khC, kee), tl), rfl, ⟨hp2, rfl⟩, _, T, (fun M9 k9 => k9 sc kp bl go ch bo aTp ts aHl nh ee mi sn aHs n aWk wz aBk bz aFc cTp fTp cHs fHs cWk fWk cBk fBk cFc (fFc9) kTp kts kHl knh kee kmi ksn kHs kn kWk kwz kBk kbz kFc kcTp kfTp kcHs kfHs kcWk kfWk kcBk kfBk kcFc kfFc esg ecl eW eA eE eC cdd etv szz att em ceW feW ceA feA ceE feE ceC feC gR gO (lk9) gS cR (fR9) cO (fO9) i0 scl ft fr dr tO hO cD fD cTO rt cT ft0 ft1 ft2 cHO rh cH g0 g1 g2 g3 g4 g5 g6 g7 sg cl bW bA bE bC hcd tpv hsz hat nmb cbW fbW cbA fbA cbE fbE cbC fbC ksg kcl kbW kbA kbE kbC khcd ktpv khsz khat knmb kcbW kfbW kcbA kfbA kcbE kfbE kcbC kfbC yi ya yk yv yc kyi kya kyk kyv kyc tc ktc hC khC LB rfl (hLB) hJ.1 ⟨hJ.2.1, fun _ _ _ => trivial⟩ (hTF) (hTH) (hTK) ⟨oTs, oNh, oN, oWz, oBz, oHs, oHn, oYk, oYv, oWk, oBk, oYt, oTx, oEe, oMi, oYc⟩ ⟨koTs, koNh, koN, koWz, koBz, koHs, koHn, koYk, koYv, koWk, koBk, koYt, koTx, koEe, koMi, koYc⟩ (hp1) ⟨zcl, zE, zC, zH⟩ ⟨kzcl, kzE, kzC, kzH⟩ ⟨hcl, hem, zeE, zeC⟩ (hZ.kept hkp hwc hX) (hZk.kept hkp hwc hX) (hHs.kept hkp hwc hX) (hHk.kept hkp hwc hX) rfl rfl), hJ.2, fun p hp => Or.inl hp⟩, hz, fun q h1 h2 => hkp q h1 (fun h => h2 (bl_A hwc _ h))⟩

set_option maxHeartbeats 4000000 in
set_option maxRecDepth 100000 in
theorem w_cuts (l : Launch) (dC : Nat → ClassId) (dI : Nat → Nat → Nat) (gd : Nat → Nat) (kA : Nat) (ad : Nat → Nat) (cB bS : Nat) (sK sV : Nat → Nat) (Y : Nat → Prop) (ik : Int32) (vs kvs : VS) (tl : List Nat) (T : List (ClassId × FieldType)) (h0 : Nat) (X : va_W) (x : Int32) (y : Int32) (sz : Nat) : Met l yX11_cuts wsX11_cuts ({ frames := 7, cells := 0, slots := 0, locals := 149 } : Room) (va_Pc [.ref h0, .int x, .int y] (fun U => U.heap.size = sz ∧ XI dC dI ad bS Y ik vs kvs tl T h0 X U.heap ∧ va_K (dC, dI) vwCl T U ∧ (∀ c ∈ X, ¬ Y c.1) ∧ (∀ q, sz ≤ q → ¬ Y q) ∧ GA gd kA ad cB bS sK sV (va_A X sz) U)) (va_Qi (fun (r : Int32) (u : Int32 × VS × VS × List Nat) => r = cuR_ (vs.1) (vs.2.2.2.2.2.1) (vs.2.2.2.2.2.2.1) (vs.2.2.2.2.2.2.2.1) (vs.2.2.2.2.2.2.2.2.2.2.2.1) (vs.2.2.2.1) (vs.2.2.2.2.1) x y ∧ u = (ik, vs, kvs, tl)) (fun (u : Int32 × VS × VS × List Nat) (t : State) => ∃ (X1 : va_W) (T1 : List (ClassId × FieldType)), XI dC dI ad bS Y u.1 u.2.1 u.2.2.1 u.2.2.2 T1 h0 X1 t.heap ∧ va_D (va_A X sz) X1 ∧ ∀ p ∈ T1, p ∈ T ∨ va_K (dC, dI) vwCl [p] t) (va_A X sz)) 0 0 (va_A X sz) := by
  refine met_wrap (fun args s hPc => ?_)
  obtain ⟨rfl, rfl, hXI, hK, hY1, hY2, hGA⟩ := hPc
  have hXI0 := hXI
  refine hXI _ (fun sc kp bl go ch bo aTp ts aHl nh ee mi sn aHs n aWk wz aBk bz aFc cTp fTp cHs fHs cWk fWk cBk fBk cFc fFc kTp kts kHl knh kee kmi ksn kHs kn kWk kwz kBk kbz kFc kcTp kfTp kcHs kfHs kcWk kfWk kcBk kfBk kcFc kfFc esg ecl eW eA eE eC cdd etv szz att em ceW feW ceA feA ceE feE ceC feC gR gO lk gS cR fR cO fO i0 scl ft fr dr tO hO cD fD cTO rt cT ft0 ft1 ft2 cHO rh cH g0 g1 g2 g3 g4 g5 g6 g7 sg cl bW bA bE bC hcd tpv hsz hat nmb cbW fbW cbA fbA cbE fbE cbC fbC ksg kcl kbW kbA kbE kbC khcd ktpv khsz khat knmb kcbW kfbW kcbA kfbA kcbE kfbE kcbC kfbC yi ya yk yv yc kyi kya kyk kyv kyc tc ktc hC khC LB hX hLB hP hD hTF hTH hTK hq1 hq2 hlk hq3 hq4 hq5 hZ hZk hHs hHk hvs hkv => ?_)
  subst hvs
  subst hkv
  obtain ⟨oTs, oNh, oN, oWz, oBz, oHs, oHn, oYk, oYv, oWk, oBk, oYt, oTx, oEe, oMi, oYc⟩ := hq1
  obtain ⟨koTs, koNh, koN, koWz, koBz, koHs, koHn, koYk, koYv, koWk, koBk, koYt, koTx, koEe, koMi, koYc⟩ := hq2
  obtain ⟨zcl, zE, zC, zH⟩ := hq3
  obtain ⟨kzcl, kzE, kzC, kzH⟩ := hq4
  obtain ⟨hcl, hem, zeE, zeC⟩ := hq5
  subst hX
  have hwc := bl_mem (G := [(zo13rrirrrr h0 sc kp ik bl go ch bo), (zo10ririliiriririr sc aTp (nI ts) aHl (nI nh) (lN ee) mi sn aHs (nI n) aWk (nI wz) aBk (nI bz) aFc), (zaI aTp cTp 100 fTp), (zaR aHs cHs 8 fHs), (zaI aWk cWk 6 fWk), (zaI aBk cBk 12 fBk), (zaI aFc cFc 6 fFc), (zo10ririliiriririr kp kTp (nI kts) kHl (nI knh) (lN kee) kmi ksn kHs (nI kn) kWk (nI kwz) kBk (nI kbz) kFc), (zaI kTp kcTp 100 kfTp), (zaR kHs kcHs 8 kfHs), (zaI kWk kcWk 6 kfWk), (zaI kBk kcBk 12 kfBk), (zaI kFc kcFc 6 kfFc), (zo7iirrrriviii bl esg (nI ecl) eW eA eE eC cdd etv szz att (nI em)), (zaI eW ceW 10 feW), (zaI eA ceA 10 feA), (zaI eE ceE 10 feE), (zaI eC ceC 100 feC), (zo4rrir go gR gO (nI lk) gS), (zaI gR cR 8 fR), (zaI gO cO 8 fO), (zo5iiii gS 0 (nI i0) 0 scl), (zo2lirrr ch ft fr dr tO hO), (zaI dr cD 36 fD), (zaR tO cTO 3 (fun i => if i < 3 then some (rt i) else none)), (zaL (rt 0) cT 36 ft0), (zaL (rt 1) cT 36 ft1), (zaL (rt 2) cT 36 ft2), (zaR hO cHO 8 (fun i => if i < 8 then some (rh i) else none)), (zaI (rh 0) cH 36 g0), (zaI (rh 1) cH 36 g1), (zaI (rh 2) cH 36 g2), (zaI (rh 3) cH 36 g3), (zaI (rh 4) cH 36 g4), (zaI (rh 5) cH 36 g5), (zaI (rh 6) cH 36 g6), (zaI (rh 7) cH 36 g7)]) (F := [(zo13rrirrrr h0 sc kp ik bl go ch bo), (zo4rrir go gR gO (nI lk) gS), (zaI gR cR 8 fR), (zaI gO cO 8 fO), (zo10ririliiriririr sc aTp (nI ts) aHl (nI nh) (lN ee) mi sn aHs (nI n) aWk (nI wz) aBk (nI bz) aFc), (zaR aHs cHs 8 fHs), (zaI aFc cFc 6 fFc)]) (T := LB) [0, 18, 19, 20, 1, 3, 6] rfl
  have hPc := bl_sub (F := [(zo13rrirrrr h0 sc kp ik bl go ch bo), (zo4rrir go gR gO (nI lk) gS), (zaI gR cR 8 fR), (zaI gO cO 8 fO), (zo10ririliiriririr sc aTp (nI ts) aHl (nI nh) (lN ee) mi sn aHs (nI n) aWk (nI wz) aBk (nI bz) aFc), (zaR aHs cHs 8 fHs), (zaI aFc cFc 6 fFc)]) hP [0, 18, 19, 20, 1, 3, 6] rfl
  refine ⟨_, _, _, c_xCuts l dC dI gd kA h0 sc kp bl go ch bo aTp aHl aHs aWk aBk aFc bW bA bE bC gR gO gS ts nh n wz bz lk cl mi sn sg hcd hsz hat nmb ik x y (lN ee) cHs cFc cbW cbA cbE cbC cR cO fFc fbW fbA fbE fbC fR fO yk yv yc fHs yi ya tpv hC s.heap.size oHs oN zcl zE zC oYv oYc hlk zH oYt, ⟨rfl, rfl, hPc, (K_mem hK hTF).sub [14, 15, 1, 4] rfl, bl_Dsub hD [0, 18, 19, 20, 1, 3, 6] (by decide) rfl, hGA.1.call va_S.rf rfl (State.WarmedH.refl s) (bl_A hwc), hGA.2.1.call va_S.rf rfl (State.WarmedH.refl s) (bl_A hwc), hGA.2.2.1.call va_S.rf rfl (State.WarmedH.refl s) (bl_A hwc), hZ.at (K_mem hK hTH) hwc, hHs.at (K_mem hK (fun _ q => absurd q List.not_mem_nil)) hwc⟩, fun o t hQ => ?_, fun q hq => bl_A hwc q hq⟩
  obtain ⟨⟨r, u9, rfl, hpost, hB⟩, hz, hkp⟩ := hQ
  obtain ⟨lk9, fR9, fO9, fFc9⟩ := u9
  try dsimp only at hpost hB
  obtain ⟨hP1, hK1, hD1⟩ := hB
  obtain ⟨hp1, hp2⟩ := hpost
  have hJ := bl_gen (F' := [(zo13rrirrrr h0 sc kp ik bl go ch bo), (zo10ririliiriririr sc aTp (nI ts) aHl (nI nh) (lN ee) mi sn aHs (nI n) aWk (nI wz) aBk (nI bz) aFc), (zaI aTp cTp 100 fTp), (zaR aHs cHs 8 fHs), (zaI aWk cWk 6 fWk), (zaI aBk cBk 12 fBk), (zaI aFc cFc 6 fFc9), (zo10ririliiriririr kp kTp (nI kts) kHl (nI knh) (lN kee) kmi ksn kHs (nI kn) kWk (nI kwz) kBk (nI kbz) kFc), (zaI kTp kcTp 100 kfTp), (zaR kHs kcHs 8 kfHs), (zaI kWk kcWk 6 kfWk), (zaI kBk kcBk 12 kfBk), (zaI kFc kcFc 6 kfFc), (zo7iirrrriviii bl esg (nI ecl) eW eA eE eC cdd etv szz att (nI em)), (zaI eW ceW 10 feW), (zaI eA ceA 10 feA), (zaI eE ceE 10 feE), (zaI eC ceC 100 feC), (zo4rrir go gR gO (nI lk9) gS), (zaI gR cR 8 fR9), (zaI gO cO 8 fO9), (zo5iiii gS 0 (nI i0) 0 scl), (zo2lirrr ch ft fr dr tO hO), (zaI dr cD 36 fD), (zaR tO cTO 3 (fun i => if i < 3 then some (rt i) else none)), (zaL (rt 0) cT 36 ft0), (zaL (rt 1) cT 36 ft1), (zaL (rt 2) cT 36 ft2), (zaR hO cHO 8 (fun i => if i < 8 then some (rh i) else none)), (zaI (rh 0) cH 36 g0), (zaI (rh 1) cH 36 g1), (zaI (rh 2) cH 36 g2), (zaI (rh 3) cH 36 g3), (zaI (rh 4) cH 36 g4), (zaI (rh 5) cH 36 g5), (zaI (rh 6) cH 36 g6), (zaI (rh 7) cH 36 g7)]) hP hD [0, 18, 19, 20, 1, 3, 6] rfl hkp hP1 hD1 [some 0, some 4, none, some 5, none, none, some 6, none, none, none, none, none, none, none, none, none, none, none, some 1, some 2, some 3, none, none, none, none, none, none, none, none, none, none, none, none, none, none, none, none] [0, 18, 19, 20, 1, 3, 6] rfl (Or.inl rfl) rfl
  have hX := D_mem hJ.2
  exact ⟨⟨r, (ik, (n, wz, bz, mi, sn, yk, yv, yc, nh, ts, tc, hC, ee), (kn, kwz, kbz, kmi, ksn, kyk, kyv, kyc, knh, kts, ktc, khC, kee), tl), rfl, ⟨hp2, rfl⟩, _, T, (fun M9 k9 => k9 sc kp bl go ch bo aTp ts aHl nh ee mi sn aHs n aWk wz aBk bz aFc cTp fTp cHs fHs cWk fWk cBk fBk cFc (fFc9) kTp kts kHl knh kee kmi ksn kHs kn kWk kwz kBk kbz kFc kcTp kfTp kcHs kfHs kcWk kfWk kcBk kfBk kcFc kfFc esg ecl eW eA eE eC cdd etv szz att em ceW feW ceA feA ceE feE ceC feC gR gO (lk9) gS cR (fR9) cO (fO9) i0 scl ft fr dr tO hO cD fD cTO rt cT ft0 ft1 ft2 cHO rh cH g0 g1 g2 g3 g4 g5 g6 g7 sg cl bW bA bE bC hcd tpv hsz hat nmb cbW fbW cbA fbA cbE fbE cbC fbC ksg kcl kbW kbA kbE kbC khcd ktpv khsz khat knmb kcbW kfbW kcbA kfbA kcbE kfbE kcbC kfbC yi ya yk yv yc kyi kya kyk kyv kyc tc ktc hC khC LB rfl (hLB) hJ.1 ⟨hJ.2.1, fun _ _ _ => trivial⟩ (hTF) (hTH) (hTK) ⟨oTs, oNh, oN, oWz, oBz, oHs, oHn, oYk, oYv, oWk, oBk, oYt, oTx, oEe, oMi, oYc⟩ ⟨koTs, koNh, koN, koWz, koBz, koHs, koHn, koYk, koYv, koWk, koBk, koYt, koTx, koEe, koMi, koYc⟩ (hp1) ⟨zcl, zE, zC, zH⟩ ⟨kzcl, kzE, kzC, kzH⟩ ⟨hcl, hem, zeE, zeC⟩ (hZ.kept hkp hwc hX) (hZk.kept hkp hwc hX) (hHs.kept hkp hwc hX) (hHk.kept hkp hwc hX) rfl rfl), hJ.2, fun p hp => Or.inl hp⟩, hz, fun q h1 h2 => hkp q h1 (fun h => h2 (bl_A hwc _ h))⟩

set_option maxHeartbeats 4000000 in
set_option maxRecDepth 100000 in
theorem w_bears (l : Launch) (dC : Nat → ClassId) (dI : Nat → Nat → Nat) (gd : Nat → Nat) (kA : Nat) (ad : Nat → Nat) (cB bS : Nat) (sK sV : Nat → Nat) (Y : Nat → Prop) (ik : Int32) (vs kvs : VS) (tl : List Nat) (T : List (ClassId × FieldType)) (h0 : Nat) (X : va_W) (x : Int32) (y : Int32) (sz : Nat) : Met l yX11_bears wsX11_bears ({ frames := 7, cells := 0, slots := 0, locals := 149 } : Room) (va_Pc [.ref h0, .int x, .int y] (fun U => U.heap.size = sz ∧ XI dC dI ad bS Y ik vs kvs tl T h0 X U.heap ∧ va_K (dC, dI) vwCl T U ∧ (∀ c ∈ X, ¬ Y c.1) ∧ (∀ q, sz ≤ q → ¬ Y q) ∧ GA gd kA ad cB bS sK sV (va_A X sz) U)) (va_Qi (fun (r : Int32) (u : Int32 × VS × VS × List Nat) => r = beR_ (vs.1) (vs.2.2.2.2.2.1) (vs.2.2.2.2.2.2.1) (vs.2.2.2.2.2.2.2.1) (vs.2.2.2.2.2.2.2.2.2.2.2.1) (vs.2.2.2.1) x y ∧ u = (ik, vs, kvs, tl)) (fun (u : Int32 × VS × VS × List Nat) (t : State) => ∃ (X1 : va_W) (T1 : List (ClassId × FieldType)), XI dC dI ad bS Y u.1 u.2.1 u.2.2.1 u.2.2.2 T1 h0 X1 t.heap ∧ va_D (va_A X sz) X1 ∧ ∀ p ∈ T1, p ∈ T ∨ va_K (dC, dI) vwCl [p] t) (va_A X sz)) 0 0 (va_A X sz) := by
  refine met_wrap (fun args s hPc => ?_)
  obtain ⟨rfl, rfl, hXI, hK, hY1, hY2, hGA⟩ := hPc
  have hXI0 := hXI
  refine hXI _ (fun sc kp bl go ch bo aTp ts aHl nh ee mi sn aHs n aWk wz aBk bz aFc cTp fTp cHs fHs cWk fWk cBk fBk cFc fFc kTp kts kHl knh kee kmi ksn kHs kn kWk kwz kBk kbz kFc kcTp kfTp kcHs kfHs kcWk kfWk kcBk kfBk kcFc kfFc esg ecl eW eA eE eC cdd etv szz att em ceW feW ceA feA ceE feE ceC feC gR gO lk gS cR fR cO fO i0 scl ft fr dr tO hO cD fD cTO rt cT ft0 ft1 ft2 cHO rh cH g0 g1 g2 g3 g4 g5 g6 g7 sg cl bW bA bE bC hcd tpv hsz hat nmb cbW fbW cbA fbA cbE fbE cbC fbC ksg kcl kbW kbA kbE kbC khcd ktpv khsz khat knmb kcbW kfbW kcbA kfbA kcbE kfbE kcbC kfbC yi ya yk yv yc kyi kya kyk kyv kyc tc ktc hC khC LB hX hLB hP hD hTF hTH hTK hq1 hq2 hlk hq3 hq4 hq5 hZ hZk hHs hHk hvs hkv => ?_)
  subst hvs
  subst hkv
  obtain ⟨oTs, oNh, oN, oWz, oBz, oHs, oHn, oYk, oYv, oWk, oBk, oYt, oTx, oEe, oMi, oYc⟩ := hq1
  obtain ⟨koTs, koNh, koN, koWz, koBz, koHs, koHn, koYk, koYv, koWk, koBk, koYt, koTx, koEe, koMi, koYc⟩ := hq2
  obtain ⟨zcl, zE, zC, zH⟩ := hq3
  obtain ⟨kzcl, kzE, kzC, kzH⟩ := hq4
  obtain ⟨hcl, hem, zeE, zeC⟩ := hq5
  subst hX
  have hwc := bl_mem (G := [(zo13rrirrrr h0 sc kp ik bl go ch bo), (zo10ririliiriririr sc aTp (nI ts) aHl (nI nh) (lN ee) mi sn aHs (nI n) aWk (nI wz) aBk (nI bz) aFc), (zaI aTp cTp 100 fTp), (zaR aHs cHs 8 fHs), (zaI aWk cWk 6 fWk), (zaI aBk cBk 12 fBk), (zaI aFc cFc 6 fFc), (zo10ririliiriririr kp kTp (nI kts) kHl (nI knh) (lN kee) kmi ksn kHs (nI kn) kWk (nI kwz) kBk (nI kbz) kFc), (zaI kTp kcTp 100 kfTp), (zaR kHs kcHs 8 kfHs), (zaI kWk kcWk 6 kfWk), (zaI kBk kcBk 12 kfBk), (zaI kFc kcFc 6 kfFc), (zo7iirrrriviii bl esg (nI ecl) eW eA eE eC cdd etv szz att (nI em)), (zaI eW ceW 10 feW), (zaI eA ceA 10 feA), (zaI eE ceE 10 feE), (zaI eC ceC 100 feC), (zo4rrir go gR gO (nI lk) gS), (zaI gR cR 8 fR), (zaI gO cO 8 fO), (zo5iiii gS 0 (nI i0) 0 scl), (zo2lirrr ch ft fr dr tO hO), (zaI dr cD 36 fD), (zaR tO cTO 3 (fun i => if i < 3 then some (rt i) else none)), (zaL (rt 0) cT 36 ft0), (zaL (rt 1) cT 36 ft1), (zaL (rt 2) cT 36 ft2), (zaR hO cHO 8 (fun i => if i < 8 then some (rh i) else none)), (zaI (rh 0) cH 36 g0), (zaI (rh 1) cH 36 g1), (zaI (rh 2) cH 36 g2), (zaI (rh 3) cH 36 g3), (zaI (rh 4) cH 36 g4), (zaI (rh 5) cH 36 g5), (zaI (rh 6) cH 36 g6), (zaI (rh 7) cH 36 g7)]) (F := [(zo13rrirrrr h0 sc kp ik bl go ch bo), (zo4rrir go gR gO (nI lk) gS), (zaI gR cR 8 fR), (zaI gO cO 8 fO), (zo10ririliiriririr sc aTp (nI ts) aHl (nI nh) (lN ee) mi sn aHs (nI n) aWk (nI wz) aBk (nI bz) aFc), (zaR aHs cHs 8 fHs), (zaI aFc cFc 6 fFc)]) (T := LB) [0, 18, 19, 20, 1, 3, 6] rfl
  have hPc := bl_sub (F := [(zo13rrirrrr h0 sc kp ik bl go ch bo), (zo4rrir go gR gO (nI lk) gS), (zaI gR cR 8 fR), (zaI gO cO 8 fO), (zo10ririliiriririr sc aTp (nI ts) aHl (nI nh) (lN ee) mi sn aHs (nI n) aWk (nI wz) aBk (nI bz) aFc), (zaR aHs cHs 8 fHs), (zaI aFc cFc 6 fFc)]) hP [0, 18, 19, 20, 1, 3, 6] rfl
  refine ⟨_, _, _, c_xBears l dC dI gd kA h0 sc kp bl go ch bo aTp aHl aHs aWk aBk aFc bW bA bE bC gR gO gS ts nh n wz bz lk cl mi sn sg hcd hsz hat nmb ik x y (lN ee) cHs cFc cbW cbA cbE cbC cR cO fFc fbW fbA fbE fbC fR fO yk yv yc fHs yi ya tpv hC s.heap.size oHs oN zcl zE zC oYv oYc hlk zH oYt, ⟨rfl, rfl, hPc, (K_mem hK hTF).sub [14, 15, 1, 4] rfl, bl_Dsub hD [0, 18, 19, 20, 1, 3, 6] (by decide) rfl, hGA.1.call va_S.rf rfl (State.WarmedH.refl s) (bl_A hwc), hGA.2.1.call va_S.rf rfl (State.WarmedH.refl s) (bl_A hwc), hGA.2.2.1.call va_S.rf rfl (State.WarmedH.refl s) (bl_A hwc), hZ.at (K_mem hK hTH) hwc, hHs.at (K_mem hK (fun _ q => absurd q List.not_mem_nil)) hwc⟩, fun o t hQ => ?_, fun q hq => bl_A hwc q hq⟩
  obtain ⟨⟨r, u9, rfl, hpost, hB⟩, hz, hkp⟩ := hQ
  obtain ⟨lk9, fR9, fO9, fFc9⟩ := u9
  try dsimp only at hpost hB
  obtain ⟨hP1, hK1, hD1⟩ := hB
  obtain ⟨hp1, hp2⟩ := hpost
  have hJ := bl_gen (F' := [(zo13rrirrrr h0 sc kp ik bl go ch bo), (zo10ririliiriririr sc aTp (nI ts) aHl (nI nh) (lN ee) mi sn aHs (nI n) aWk (nI wz) aBk (nI bz) aFc), (zaI aTp cTp 100 fTp), (zaR aHs cHs 8 fHs), (zaI aWk cWk 6 fWk), (zaI aBk cBk 12 fBk), (zaI aFc cFc 6 fFc9), (zo10ririliiriririr kp kTp (nI kts) kHl (nI knh) (lN kee) kmi ksn kHs (nI kn) kWk (nI kwz) kBk (nI kbz) kFc), (zaI kTp kcTp 100 kfTp), (zaR kHs kcHs 8 kfHs), (zaI kWk kcWk 6 kfWk), (zaI kBk kcBk 12 kfBk), (zaI kFc kcFc 6 kfFc), (zo7iirrrriviii bl esg (nI ecl) eW eA eE eC cdd etv szz att (nI em)), (zaI eW ceW 10 feW), (zaI eA ceA 10 feA), (zaI eE ceE 10 feE), (zaI eC ceC 100 feC), (zo4rrir go gR gO (nI lk9) gS), (zaI gR cR 8 fR9), (zaI gO cO 8 fO9), (zo5iiii gS 0 (nI i0) 0 scl), (zo2lirrr ch ft fr dr tO hO), (zaI dr cD 36 fD), (zaR tO cTO 3 (fun i => if i < 3 then some (rt i) else none)), (zaL (rt 0) cT 36 ft0), (zaL (rt 1) cT 36 ft1), (zaL (rt 2) cT 36 ft2), (zaR hO cHO 8 (fun i => if i < 8 then some (rh i) else none)), (zaI (rh 0) cH 36 g0), (zaI (rh 1) cH 36 g1), (zaI (rh 2) cH 36 g2), (zaI (rh 3) cH 36 g3), (zaI (rh 4) cH 36 g4), (zaI (rh 5) cH 36 g5), (zaI (rh 6) cH 36 g6), (zaI (rh 7) cH 36 g7)]) hP hD [0, 18, 19, 20, 1, 3, 6] rfl hkp hP1 hD1 [some 0, some 4, none, some 5, none, none, some 6, none, none, none, none, none, none, none, none, none, none, none, some 1, some 2, some 3, none, none, none, none, none, none, none, none, none, none, none, none, none, none, none, none] [0, 18, 19, 20, 1, 3, 6] rfl (Or.inl rfl) rfl
  have hX := D_mem hJ.2
  exact ⟨⟨r, (ik, (n, wz, bz, mi, sn, yk, yv, yc, nh, ts, tc, hC, ee), (kn, kwz, kbz, kmi, ksn, kyk, kyv, kyc, knh, kts, ktc, khC, kee), tl), rfl, ⟨hp2, rfl⟩, _, T, (fun M9 k9 => k9 sc kp bl go ch bo aTp ts aHl nh ee mi sn aHs n aWk wz aBk bz aFc cTp fTp cHs fHs cWk fWk cBk fBk cFc (fFc9) kTp kts kHl knh kee kmi ksn kHs kn kWk kwz kBk kbz kFc kcTp kfTp kcHs kfHs kcWk kfWk kcBk kfBk kcFc kfFc esg ecl eW eA eE eC cdd etv szz att em ceW feW ceA feA ceE feE ceC feC gR gO (lk9) gS cR (fR9) cO (fO9) i0 scl ft fr dr tO hO cD fD cTO rt cT ft0 ft1 ft2 cHO rh cH g0 g1 g2 g3 g4 g5 g6 g7 sg cl bW bA bE bC hcd tpv hsz hat nmb cbW fbW cbA fbA cbE fbE cbC fbC ksg kcl kbW kbA kbE kbC khcd ktpv khsz khat knmb kcbW kfbW kcbA kfbA kcbE kfbE kcbC kfbC yi ya yk yv yc kyi kya kyk kyv kyc tc ktc hC khC LB rfl (hLB) hJ.1 ⟨hJ.2.1, fun _ _ _ => trivial⟩ (hTF) (hTH) (hTK) ⟨oTs, oNh, oN, oWz, oBz, oHs, oHn, oYk, oYv, oWk, oBk, oYt, oTx, oEe, oMi, oYc⟩ ⟨koTs, koNh, koN, koWz, koBz, koHs, koHn, koYk, koYv, koWk, koBk, koYt, koTx, koEe, koMi, koYc⟩ (hp1) ⟨zcl, zE, zC, zH⟩ ⟨kzcl, kzE, kzC, kzH⟩ ⟨hcl, hem, zeE, zeC⟩ (hZ.kept hkp hwc hX) (hZk.kept hkp hwc hX) (hHs.kept hkp hwc hX) (hHk.kept hkp hwc hX) rfl rfl), hJ.2, fun p hp => Or.inl hp⟩, hz, fun q h1 h2 => hkp q h1 (fun h => h2 (bl_A hwc _ h))⟩

set_option maxHeartbeats 4000000 in
set_option maxRecDepth 100000 in
theorem w_looked (l : Launch) (dC : Nat → ClassId) (dI : Nat → Nat → Nat) (gd : Nat → Nat) (kA : Nat) (ad : Nat → Nat) (cB bS : Nat) (sK sV : Nat → Nat) (Y : Nat → Prop) (ik : Int32) (vs kvs : VS) (tl : List Nat) (T : List (ClassId × FieldType)) (h0 : Nat) (X : va_W)  (sz : Nat) : Met l yX11_looked wsX11_looked ({ frames := 7, cells := 0, slots := 0, locals := 149 } : Room) (va_Pc [.ref h0] (fun U => U.heap.size = sz ∧ XI dC dI ad bS Y ik vs kvs tl T h0 X U.heap ∧ va_K (dC, dI) vwCl T U ∧ (∀ c ∈ X, ¬ Y c.1) ∧ (∀ q, sz ≤ q → ¬ Y q) ∧ GA gd kA ad cB bS sK sV (va_A X sz) U)) (va_Qi (fun (r : Int32) (u : Int32 × VS × VS × List Nat) => u = (ik, vs, kvs, tl)) (fun (u : Int32 × VS × VS × List Nat) (t : State) => ∃ (X1 : va_W) (T1 : List (ClassId × FieldType)), XI dC dI ad bS Y u.1 u.2.1 u.2.2.1 u.2.2.2 T1 h0 X1 t.heap ∧ va_D (va_A X sz) X1 ∧ ∀ p ∈ T1, p ∈ T ∨ va_K (dC, dI) vwCl [p] t) (va_A X sz)) 0 0 (va_A X sz) := by
  refine met_wrap (fun args s hPc => ?_)
  obtain ⟨rfl, rfl, hXI, hK, hY1, hY2, hGA⟩ := hPc
  have hXI0 := hXI
  refine hXI _ (fun sc kp bl go ch bo aTp ts aHl nh ee mi sn aHs n aWk wz aBk bz aFc cTp fTp cHs fHs cWk fWk cBk fBk cFc fFc kTp kts kHl knh kee kmi ksn kHs kn kWk kwz kBk kbz kFc kcTp kfTp kcHs kfHs kcWk kfWk kcBk kfBk kcFc kfFc esg ecl eW eA eE eC cdd etv szz att em ceW feW ceA feA ceE feE ceC feC gR gO lk gS cR fR cO fO i0 scl ft fr dr tO hO cD fD cTO rt cT ft0 ft1 ft2 cHO rh cH g0 g1 g2 g3 g4 g5 g6 g7 sg cl bW bA bE bC hcd tpv hsz hat nmb cbW fbW cbA fbA cbE fbE cbC fbC ksg kcl kbW kbA kbE kbC khcd ktpv khsz khat knmb kcbW kfbW kcbA kfbA kcbE kfbE kcbC kfbC yi ya yk yv yc kyi kya kyk kyv kyc tc ktc hC khC LB hX hLB hP hD hTF hTH hTK hq1 hq2 hlk hq3 hq4 hq5 hZ hZk hHs hHk hvs hkv => ?_)
  subst hvs
  subst hkv
  obtain ⟨oTs, oNh, oN, oWz, oBz, oHs, oHn, oYk, oYv, oWk, oBk, oYt, oTx, oEe, oMi, oYc⟩ := hq1
  obtain ⟨koTs, koNh, koN, koWz, koBz, koHs, koHn, koYk, koYv, koWk, koBk, koYt, koTx, koEe, koMi, koYc⟩ := hq2
  obtain ⟨zcl, zE, zC, zH⟩ := hq3
  obtain ⟨kzcl, kzE, kzC, kzH⟩ := hq4
  obtain ⟨hcl, hem, zeE, zeC⟩ := hq5
  subst hX
  have hwc := bl_mem (G := [(zo13rrirrrr h0 sc kp ik bl go ch bo), (zo10ririliiriririr sc aTp (nI ts) aHl (nI nh) (lN ee) mi sn aHs (nI n) aWk (nI wz) aBk (nI bz) aFc), (zaI aTp cTp 100 fTp), (zaR aHs cHs 8 fHs), (zaI aWk cWk 6 fWk), (zaI aBk cBk 12 fBk), (zaI aFc cFc 6 fFc), (zo10ririliiriririr kp kTp (nI kts) kHl (nI knh) (lN kee) kmi ksn kHs (nI kn) kWk (nI kwz) kBk (nI kbz) kFc), (zaI kTp kcTp 100 kfTp), (zaR kHs kcHs 8 kfHs), (zaI kWk kcWk 6 kfWk), (zaI kBk kcBk 12 kfBk), (zaI kFc kcFc 6 kfFc), (zo7iirrrriviii bl esg (nI ecl) eW eA eE eC cdd etv szz att (nI em)), (zaI eW ceW 10 feW), (zaI eA ceA 10 feA), (zaI eE ceE 10 feE), (zaI eC ceC 100 feC), (zo4rrir go gR gO (nI lk) gS), (zaI gR cR 8 fR), (zaI gO cO 8 fO), (zo5iiii gS 0 (nI i0) 0 scl), (zo2lirrr ch ft fr dr tO hO), (zaI dr cD 36 fD), (zaR tO cTO 3 (fun i => if i < 3 then some (rt i) else none)), (zaL (rt 0) cT 36 ft0), (zaL (rt 1) cT 36 ft1), (zaL (rt 2) cT 36 ft2), (zaR hO cHO 8 (fun i => if i < 8 then some (rh i) else none)), (zaI (rh 0) cH 36 g0), (zaI (rh 1) cH 36 g1), (zaI (rh 2) cH 36 g2), (zaI (rh 3) cH 36 g3), (zaI (rh 4) cH 36 g4), (zaI (rh 5) cH 36 g5), (zaI (rh 6) cH 36 g6), (zaI (rh 7) cH 36 g7)]) (F := [(zo13rrirrrr h0 sc kp ik bl go ch bo), (zo4rrir go gR gO (nI lk) gS), (zaI gR cR 8 fR), (zaI gO cO 8 fO), (zo10ririliiriririr sc aTp (nI ts) aHl (nI nh) (lN ee) mi sn aHs (nI n) aWk (nI wz) aBk (nI bz) aFc), (zaR aHs cHs 8 fHs), (zaI aFc cFc 6 fFc), (zaI aBk cBk 12 fBk)]) (T := LB) [0, 18, 19, 20, 1, 3, 6, 5] rfl
  have hPc := bl_sub (F := [(zo13rrirrrr h0 sc kp ik bl go ch bo), (zo4rrir go gR gO (nI lk) gS), (zaI gR cR 8 fR), (zaI gO cO 8 fO), (zo10ririliiriririr sc aTp (nI ts) aHl (nI nh) (lN ee) mi sn aHs (nI n) aWk (nI wz) aBk (nI bz) aFc), (zaR aHs cHs 8 fHs), (zaI aFc cFc 6 fFc), (zaI aBk cBk 12 fBk)]) hP [0, 18, 19, 20, 1, 3, 6, 5] rfl
  refine ⟨_, _, _, c_xLooked l dC dI gd kA h0 sc kp bl go ch bo aTp aHl aHs aWk aBk aFc bW bA bE bC gR gO gS ts nh n wz bz lk cl mi sn sg hcd hsz hat nmb ik (lN ee) cHs cBk cFc cbW cbA cbE cbC cR cO fBk fFc fbW fbA fbE fbC fR fO yk yv yc fHs yi ya tpv hC 0 s.heap.size oHs oN zcl zE zC oYv oYc hlk oBz oBk zH oYt, ⟨rfl, rfl, hPc, (K_mem hK hTF).sub [14, 15, 1, 4, 3] rfl, bl_Dsub hD [0, 18, 19, 20, 1, 3, 6, 5] (by decide) rfl, hGA.1.call va_S.rf rfl (State.WarmedH.refl s) (bl_A hwc), hGA.2.1.call va_S.rf rfl (State.WarmedH.refl s) (bl_A hwc), hGA.2.2.1.call va_S.rf rfl (State.WarmedH.refl s) (bl_A hwc), hZ.at (K_mem hK hTH) hwc, hHs.at (K_mem hK (fun _ q => absurd q List.not_mem_nil)) hwc⟩, fun o t hQ => ?_, fun q hq => bl_A hwc q hq⟩
  obtain ⟨⟨r, u9, rfl, hpost, hB⟩, hz, hkp⟩ := hQ
  obtain ⟨lk9, fR9, fO9, fFc9⟩ := u9
  try dsimp only at hpost hB
  obtain ⟨hP1, hK1, hD1⟩ := hB
  have hJ := bl_gen (F' := [(zo13rrirrrr h0 sc kp ik bl go ch bo), (zo10ririliiriririr sc aTp (nI ts) aHl (nI nh) (lN ee) mi sn aHs (nI n) aWk (nI wz) aBk (nI bz) aFc), (zaI aTp cTp 100 fTp), (zaR aHs cHs 8 fHs), (zaI aWk cWk 6 fWk), (zaI aBk cBk 12 fBk), (zaI aFc cFc 6 fFc9), (zo10ririliiriririr kp kTp (nI kts) kHl (nI knh) (lN kee) kmi ksn kHs (nI kn) kWk (nI kwz) kBk (nI kbz) kFc), (zaI kTp kcTp 100 kfTp), (zaR kHs kcHs 8 kfHs), (zaI kWk kcWk 6 kfWk), (zaI kBk kcBk 12 kfBk), (zaI kFc kcFc 6 kfFc), (zo7iirrrriviii bl esg (nI ecl) eW eA eE eC cdd etv szz att (nI em)), (zaI eW ceW 10 feW), (zaI eA ceA 10 feA), (zaI eE ceE 10 feE), (zaI eC ceC 100 feC), (zo4rrir go gR gO (nI lk9) gS), (zaI gR cR 8 fR9), (zaI gO cO 8 fO9), (zo5iiii gS 0 (nI i0) 0 scl), (zo2lirrr ch ft fr dr tO hO), (zaI dr cD 36 fD), (zaR tO cTO 3 (fun i => if i < 3 then some (rt i) else none)), (zaL (rt 0) cT 36 ft0), (zaL (rt 1) cT 36 ft1), (zaL (rt 2) cT 36 ft2), (zaR hO cHO 8 (fun i => if i < 8 then some (rh i) else none)), (zaI (rh 0) cH 36 g0), (zaI (rh 1) cH 36 g1), (zaI (rh 2) cH 36 g2), (zaI (rh 3) cH 36 g3), (zaI (rh 4) cH 36 g4), (zaI (rh 5) cH 36 g5), (zaI (rh 6) cH 36 g6), (zaI (rh 7) cH 36 g7)]) hP hD [0, 18, 19, 20, 1, 3, 6, 5] rfl hkp hP1 hD1 [some 0, some 4, none, some 5, none, some 7, some 6, none, none, none, none, none, none, none, none, none, none, none, some 1, some 2, some 3, none, none, none, none, none, none, none, none, none, none, none, none, none, none, none, none] [0, 18, 19, 20, 1, 3, 6, 5] rfl (Or.inl rfl) rfl
  have hX := D_mem hJ.2
  exact ⟨⟨r, (ik, (n, wz, bz, mi, sn, yk, yv, yc, nh, ts, tc, hC, ee), (kn, kwz, kbz, kmi, ksn, kyk, kyv, kyc, knh, kts, ktc, khC, kee), tl), rfl, rfl, _, T, (fun M9 k9 => k9 sc kp bl go ch bo aTp ts aHl nh ee mi sn aHs n aWk wz aBk bz aFc cTp fTp cHs fHs cWk fWk cBk fBk cFc (fFc9) kTp kts kHl knh kee kmi ksn kHs kn kWk kwz kBk kbz kFc kcTp kfTp kcHs kfHs kcWk kfWk kcBk kfBk kcFc kfFc esg ecl eW eA eE eC cdd etv szz att em ceW feW ceA feA ceE feE ceC feC gR gO (lk9) gS cR (fR9) cO (fO9) i0 scl ft fr dr tO hO cD fD cTO rt cT ft0 ft1 ft2 cHO rh cH g0 g1 g2 g3 g4 g5 g6 g7 sg cl bW bA bE bC hcd tpv hsz hat nmb cbW fbW cbA fbA cbE fbE cbC fbC ksg kcl kbW kbA kbE kbC khcd ktpv khsz khat knmb kcbW kfbW kcbA kfbA kcbE kfbE kcbC kfbC yi ya yk yv yc kyi kya kyk kyv kyc tc ktc hC khC LB rfl (hLB) hJ.1 ⟨hJ.2.1, fun _ _ _ => trivial⟩ (hTF) (hTH) (hTK) ⟨oTs, oNh, oN, oWz, oBz, oHs, oHn, oYk, oYv, oWk, oBk, oYt, oTx, oEe, oMi, oYc⟩ ⟨koTs, koNh, koN, koWz, koBz, koHs, koHn, koYk, koYv, koWk, koBk, koYt, koTx, koEe, koMi, koYc⟩ (hpost) ⟨zcl, zE, zC, zH⟩ ⟨kzcl, kzE, kzC, kzH⟩ ⟨hcl, hem, zeE, zeC⟩ (hZ.kept hkp hwc hX) (hZk.kept hkp hwc hX) (hHs.kept hkp hwc hX) (hHk.kept hkp hwc hX) rfl rfl), hJ.2, fun p hp => Or.inl hp⟩, hz, fun q h1 h2 => hkp q h1 (fun h => h2 (bl_A hwc _ h))⟩

set_option maxHeartbeats 4000000 in
set_option maxRecDepth 100000 in
theorem w_build (l : Launch) (dC : Nat → ClassId) (dI : Nat → Nat → Nat) (gd : Nat → Nat) (kA : Nat) (ad : Nat → Nat) (cB bS : Nat) (sK sV : Nat → Nat) (Y : Nat → Prop) (ik : Int32) (vs kvs : VS) (tl : List Nat) (T : List (ClassId × FieldType)) (h0 : Nat) (X : va_W) (x : Int32) (y : Int32) (z : Int32) (sz : Nat) : Met l yX11_build wsX11_build ({ frames := 8, cells := 0, slots := 0, locals := 176 } : Room) (va_Pc [.ref h0, .int x, .int y, .int z] (fun U => U.heap.size = sz ∧ XI dC dI ad bS Y ik vs kvs tl T h0 X U.heap ∧ va_K (dC, dI) vwCl T U ∧ (∀ c ∈ X, ¬ Y c.1) ∧ (∀ q, sz ≤ q → ¬ Y q) ∧ GA gd kA ad cB bS sK sV (va_A X sz) U)) (va_Qi (fun (r : Int32) (u : Int32 × VS × VS × List Nat) => r = bdR (vs.1) (vs.2.2.2.2.2.1) (vs.2.2.2.2.2.2.1) (vs.2.2.2.2.2.2.2.1) (vs.2.2.2.2.2.2.2.2.2.2.2.1) (vs.2.2.2.1) (vs.2.2.2.2.1) x y z ∧ u = (ik, vs, kvs, tl)) (fun (u : Int32 × VS × VS × List Nat) (t : State) => ∃ (X1 : va_W) (T1 : List (ClassId × FieldType)), XI dC dI ad bS Y u.1 u.2.1 u.2.2.1 u.2.2.2 T1 h0 X1 t.heap ∧ va_D (va_A X sz) X1 ∧ ∀ p ∈ T1, p ∈ T ∨ va_K (dC, dI) vwCl [p] t) (va_A X sz)) 0 0 (va_A X sz) := by
  refine met_wrap (fun args s hPc => ?_)
  obtain ⟨rfl, rfl, hXI, hK, hY1, hY2, hGA⟩ := hPc
  have hXI0 := hXI
  refine hXI _ (fun sc kp bl go ch bo aTp ts aHl nh ee mi sn aHs n aWk wz aBk bz aFc cTp fTp cHs fHs cWk fWk cBk fBk cFc fFc kTp kts kHl knh kee kmi ksn kHs kn kWk kwz kBk kbz kFc kcTp kfTp kcHs kfHs kcWk kfWk kcBk kfBk kcFc kfFc esg ecl eW eA eE eC cdd etv szz att em ceW feW ceA feA ceE feE ceC feC gR gO lk gS cR fR cO fO i0 scl ft fr dr tO hO cD fD cTO rt cT ft0 ft1 ft2 cHO rh cH g0 g1 g2 g3 g4 g5 g6 g7 sg cl bW bA bE bC hcd tpv hsz hat nmb cbW fbW cbA fbA cbE fbE cbC fbC ksg kcl kbW kbA kbE kbC khcd ktpv khsz khat knmb kcbW kfbW kcbA kfbA kcbE kfbE kcbC kfbC yi ya yk yv yc kyi kya kyk kyv kyc tc ktc hC khC LB hX hLB hP hD hTF hTH hTK hq1 hq2 hlk hq3 hq4 hq5 hZ hZk hHs hHk hvs hkv => ?_)
  subst hvs
  subst hkv
  obtain ⟨oTs, oNh, oN, oWz, oBz, oHs, oHn, oYk, oYv, oWk, oBk, oYt, oTx, oEe, oMi, oYc⟩ := hq1
  obtain ⟨koTs, koNh, koN, koWz, koBz, koHs, koHn, koYk, koYv, koWk, koBk, koYt, koTx, koEe, koMi, koYc⟩ := hq2
  obtain ⟨zcl, zE, zC, zH⟩ := hq3
  obtain ⟨kzcl, kzE, kzC, kzH⟩ := hq4
  obtain ⟨hcl, hem, zeE, zeC⟩ := hq5
  subst hX
  have hwc := bl_mem (G := [(zo13rrirrrr h0 sc kp ik bl go ch bo), (zo10ririliiriririr sc aTp (nI ts) aHl (nI nh) (lN ee) mi sn aHs (nI n) aWk (nI wz) aBk (nI bz) aFc), (zaI aTp cTp 100 fTp), (zaR aHs cHs 8 fHs), (zaI aWk cWk 6 fWk), (zaI aBk cBk 12 fBk), (zaI aFc cFc 6 fFc), (zo10ririliiriririr kp kTp (nI kts) kHl (nI knh) (lN kee) kmi ksn kHs (nI kn) kWk (nI kwz) kBk (nI kbz) kFc), (zaI kTp kcTp 100 kfTp), (zaR kHs kcHs 8 kfHs), (zaI kWk kcWk 6 kfWk), (zaI kBk kcBk 12 kfBk), (zaI kFc kcFc 6 kfFc), (zo7iirrrriviii bl esg (nI ecl) eW eA eE eC cdd etv szz att (nI em)), (zaI eW ceW 10 feW), (zaI eA ceA 10 feA), (zaI eE ceE 10 feE), (zaI eC ceC 100 feC), (zo4rrir go gR gO (nI lk) gS), (zaI gR cR 8 fR), (zaI gO cO 8 fO), (zo5iiii gS 0 (nI i0) 0 scl), (zo2lirrr ch ft fr dr tO hO), (zaI dr cD 36 fD), (zaR tO cTO 3 (fun i => if i < 3 then some (rt i) else none)), (zaL (rt 0) cT 36 ft0), (zaL (rt 1) cT 36 ft1), (zaL (rt 2) cT 36 ft2), (zaR hO cHO 8 (fun i => if i < 8 then some (rh i) else none)), (zaI (rh 0) cH 36 g0), (zaI (rh 1) cH 36 g1), (zaI (rh 2) cH 36 g2), (zaI (rh 3) cH 36 g3), (zaI (rh 4) cH 36 g4), (zaI (rh 5) cH 36 g5), (zaI (rh 6) cH 36 g6), (zaI (rh 7) cH 36 g7)]) (F := [(zo13rrirrrr h0 sc kp ik bl go ch bo), (zo4rrir go gR gO (nI lk) gS), (zaI gR cR 8 fR), (zaI gO cO 8 fO), (zo5iiii gS 0 (nI i0) 0 scl), (zo10ririliiriririr sc aTp (nI ts) aHl (nI nh) (lN ee) mi sn aHs (nI n) aWk (nI wz) aBk (nI bz) aFc), (zaR aHs cHs 8 fHs), (zaI aFc cFc 6 fFc)]) (T := LB) [0, 18, 19, 20, 21, 1, 3, 6] rfl
  have hPc := bl_sub (F := [(zo13rrirrrr h0 sc kp ik bl go ch bo), (zo4rrir go gR gO (nI lk) gS), (zaI gR cR 8 fR), (zaI gO cO 8 fO), (zo5iiii gS 0 (nI i0) 0 scl), (zo10ririliiriririr sc aTp (nI ts) aHl (nI nh) (lN ee) mi sn aHs (nI n) aWk (nI wz) aBk (nI bz) aFc), (zaR aHs cHs 8 fHs), (zaI aFc cFc 6 fFc)]) hP [0, 18, 19, 20, 21, 1, 3, 6] rfl
  refine ⟨_, _, _, c_xBuild l dC dI gd kA h0 sc kp bl go ch bo aTp aHl aHs aWk aBk aFc bW bA bE bC gR gO gS ts nh n wz bz lk cl i0 mi sn sg hcd hsz hat nmb scl ik x y z (lN ee) cHs cFc cbW cbA cbE cbC cR cO fFc fbW fbA fbE fbC fR fO yk yv yc fHs yi ya tpv hC s.heap.size oHs oN zcl zE zC oYv oYc hlk zH oYt, ⟨rfl, rfl, hPc, (K_mem hK hTF).sub [14, 15, 1, 4] rfl, bl_Dsub hD [0, 18, 19, 20, 21, 1, 3, 6] (by decide) rfl, hGA.1.call va_S.rf rfl (State.WarmedH.refl s) (bl_A hwc), hGA.2.1.call va_S.rf rfl (State.WarmedH.refl s) (bl_A hwc), hGA.2.2.1.call va_S.rf rfl (State.WarmedH.refl s) (bl_A hwc), hZ.at (K_mem hK hTH) hwc, hHs.at (K_mem hK (fun _ q => absurd q List.not_mem_nil)) hwc⟩, fun o t hQ => ?_, fun q hq => bl_A hwc q hq⟩
  obtain ⟨⟨r, u9, rfl, hpost, hB⟩, hz, hkp⟩ := hQ
  obtain ⟨lk9, fR9, fO9, fFc9, i09, scl9⟩ := u9
  try dsimp only at hpost hB
  obtain ⟨hP1, hK1, hD1⟩ := hB
  obtain ⟨hp1, hp2⟩ := hpost
  have hJ := bl_gen (F' := [(zo13rrirrrr h0 sc kp ik bl go ch bo), (zo10ririliiriririr sc aTp (nI ts) aHl (nI nh) (lN ee) mi sn aHs (nI n) aWk (nI wz) aBk (nI bz) aFc), (zaI aTp cTp 100 fTp), (zaR aHs cHs 8 fHs), (zaI aWk cWk 6 fWk), (zaI aBk cBk 12 fBk), (zaI aFc cFc 6 fFc9), (zo10ririliiriririr kp kTp (nI kts) kHl (nI knh) (lN kee) kmi ksn kHs (nI kn) kWk (nI kwz) kBk (nI kbz) kFc), (zaI kTp kcTp 100 kfTp), (zaR kHs kcHs 8 kfHs), (zaI kWk kcWk 6 kfWk), (zaI kBk kcBk 12 kfBk), (zaI kFc kcFc 6 kfFc), (zo7iirrrriviii bl esg (nI ecl) eW eA eE eC cdd etv szz att (nI em)), (zaI eW ceW 10 feW), (zaI eA ceA 10 feA), (zaI eE ceE 10 feE), (zaI eC ceC 100 feC), (zo4rrir go gR gO (nI lk9) gS), (zaI gR cR 8 fR9), (zaI gO cO 8 fO9), (zo5iiii gS 0 (nI i09) 0 scl9), (zo2lirrr ch ft fr dr tO hO), (zaI dr cD 36 fD), (zaR tO cTO 3 (fun i => if i < 3 then some (rt i) else none)), (zaL (rt 0) cT 36 ft0), (zaL (rt 1) cT 36 ft1), (zaL (rt 2) cT 36 ft2), (zaR hO cHO 8 (fun i => if i < 8 then some (rh i) else none)), (zaI (rh 0) cH 36 g0), (zaI (rh 1) cH 36 g1), (zaI (rh 2) cH 36 g2), (zaI (rh 3) cH 36 g3), (zaI (rh 4) cH 36 g4), (zaI (rh 5) cH 36 g5), (zaI (rh 6) cH 36 g6), (zaI (rh 7) cH 36 g7)]) hP hD [0, 18, 19, 20, 21, 1, 3, 6] rfl hkp hP1 hD1 [some 0, some 5, none, some 6, none, none, some 7, none, none, none, none, none, none, none, none, none, none, none, some 1, some 2, some 3, some 4, none, none, none, none, none, none, none, none, none, none, none, none, none, none, none] [0, 18, 19, 20, 21, 1, 3, 6] rfl (Or.inl rfl) rfl
  have hX := D_mem hJ.2
  exact ⟨⟨r, (ik, (n, wz, bz, mi, sn, yk, yv, yc, nh, ts, tc, hC, ee), (kn, kwz, kbz, kmi, ksn, kyk, kyv, kyc, knh, kts, ktc, khC, kee), tl), rfl, ⟨hp2, rfl⟩, _, T, (fun M9 k9 => k9 sc kp bl go ch bo aTp ts aHl nh ee mi sn aHs n aWk wz aBk bz aFc cTp fTp cHs fHs cWk fWk cBk fBk cFc (fFc9) kTp kts kHl knh kee kmi ksn kHs kn kWk kwz kBk kbz kFc kcTp kfTp kcHs kfHs kcWk kfWk kcBk kfBk kcFc kfFc esg ecl eW eA eE eC cdd etv szz att em ceW feW ceA feA ceE feE ceC feC gR gO (lk9) gS cR (fR9) cO (fO9) (i09) (scl9) ft fr dr tO hO cD fD cTO rt cT ft0 ft1 ft2 cHO rh cH g0 g1 g2 g3 g4 g5 g6 g7 sg cl bW bA bE bC hcd tpv hsz hat nmb cbW fbW cbA fbA cbE fbE cbC fbC ksg kcl kbW kbA kbE kbC khcd ktpv khsz khat knmb kcbW kfbW kcbA kfbA kcbE kfbE kcbC kfbC yi ya yk yv yc kyi kya kyk kyv kyc tc ktc hC khC LB rfl (hLB) hJ.1 ⟨hJ.2.1, fun _ _ _ => trivial⟩ (hTF) (hTH) (hTK) ⟨oTs, oNh, oN, oWz, oBz, oHs, oHn, oYk, oYv, oWk, oBk, oYt, oTx, oEe, oMi, oYc⟩ ⟨koTs, koNh, koN, koWz, koBz, koHs, koHn, koYk, koYv, koWk, koBk, koYt, koTx, koEe, koMi, koYc⟩ (hp1) ⟨zcl, zE, zC, zH⟩ ⟨kzcl, kzE, kzC, kzH⟩ ⟨hcl, hem, zeE, zeC⟩ (hZ.kept hkp hwc hX) (hZk.kept hkp hwc hX) (hHs.kept hkp hwc hX) (hHk.kept hkp hwc hX) rfl rfl), hJ.2, fun p hp => Or.inl hp⟩, hz, fun q h1 h2 => hkp q h1 (fun h => h2 (bl_A hwc _ h))⟩

set_option maxHeartbeats 4000000 in
set_option maxRecDepth 100000 in
theorem w_walk (l : Launch) (dC : Nat → ClassId) (dI : Nat → Nat → Nat) (gd : Nat → Nat) (kA : Nat) (ad : Nat → Nat) (cB bS : Nat) (sK sV : Nat → Nat) (Y : Nat → Prop) (ik : Int32) (vs kvs : VS) (tl : List Nat) (T : List (ClassId × FieldType)) (h0 : Nat) (X : va_W) (x : Int32) (sz : Nat) : Met l yX11_walk wsX11_walk ({ frames := 0, cells := 0, slots := 0, locals := 0 } : Room) (va_Pc [.ref h0, .int x] (fun U => U.heap.size = sz ∧ XI dC dI ad bS Y ik vs kvs tl T h0 X U.heap ∧ va_K (dC, dI) vwCl T U ∧ (∀ c ∈ X, ¬ Y c.1) ∧ (∀ q, sz ≤ q → ¬ Y q) ∧ GA gd kA ad cB bS sK sV (va_A X sz) U)) (va_Qi (fun (r : Int32) (u : Int32 × VS × VS × List Nat) => r = wkR (vs.2.1) x ∧ u = (ik, (vs.1, wkN (vs.2.1) x, vs.2.2.1, vs.2.2.2.1, vs.2.2.2.2.1, vs.2.2.2.2.2.1, vs.2.2.2.2.2.2.1, vs.2.2.2.2.2.2.2.1, vs.2.2.2.2.2.2.2.2.1, vs.2.2.2.2.2.2.2.2.2.1, vs.2.2.2.2.2.2.2.2.2.2.1, vs.2.2.2.2.2.2.2.2.2.2.2.1, vs.2.2.2.2.2.2.2.2.2.2.2.2), kvs, tl)) (fun (u : Int32 × VS × VS × List Nat) (t : State) => ∃ (X1 : va_W) (T1 : List (ClassId × FieldType)), XI dC dI ad bS Y u.1 u.2.1 u.2.2.1 u.2.2.2 T1 h0 X1 t.heap ∧ va_D (va_A X sz) X1 ∧ ∀ p ∈ T1, p ∈ T ∨ va_K (dC, dI) vwCl [p] t) (va_A X sz)) 0 0 (va_A X sz) := by
  refine met_wrap (fun args s hPc => ?_)
  obtain ⟨rfl, rfl, hXI, hK, hY1, hY2, hGA⟩ := hPc
  have hXI0 := hXI
  refine hXI _ (fun sc kp bl go ch bo aTp ts aHl nh ee mi sn aHs n aWk wz aBk bz aFc cTp fTp cHs fHs cWk fWk cBk fBk cFc fFc kTp kts kHl knh kee kmi ksn kHs kn kWk kwz kBk kbz kFc kcTp kfTp kcHs kfHs kcWk kfWk kcBk kfBk kcFc kfFc esg ecl eW eA eE eC cdd etv szz att em ceW feW ceA feA ceE feE ceC feC gR gO lk gS cR fR cO fO i0 scl ft fr dr tO hO cD fD cTO rt cT ft0 ft1 ft2 cHO rh cH g0 g1 g2 g3 g4 g5 g6 g7 sg cl bW bA bE bC hcd tpv hsz hat nmb cbW fbW cbA fbA cbE fbE cbC fbC ksg kcl kbW kbA kbE kbC khcd ktpv khsz khat knmb kcbW kfbW kcbA kfbA kcbE kfbE kcbC kfbC yi ya yk yv yc kyi kya kyk kyv kyc tc ktc hC khC LB hX hLB hP hD hTF hTH hTK hq1 hq2 hlk hq3 hq4 hq5 hZ hZk hHs hHk hvs hkv => ?_)
  subst hvs
  subst hkv
  obtain ⟨oTs, oNh, oN, oWz, oBz, oHs, oHn, oYk, oYv, oWk, oBk, oYt, oTx, oEe, oMi, oYc⟩ := hq1
  obtain ⟨koTs, koNh, koN, koWz, koBz, koHs, koHn, koYk, koYv, koWk, koBk, koYt, koTx, koEe, koMi, koYc⟩ := hq2
  obtain ⟨zcl, zE, zC, zH⟩ := hq3
  obtain ⟨kzcl, kzE, kzC, kzH⟩ := hq4
  obtain ⟨hcl, hem, zeE, zeC⟩ := hq5
  subst hX
  have hwc := bl_mem (G := [(zo13rrirrrr h0 sc kp ik bl go ch bo), (zo10ririliiriririr sc aTp (nI ts) aHl (nI nh) (lN ee) mi sn aHs (nI n) aWk (nI wz) aBk (nI bz) aFc), (zaI aTp cTp 100 fTp), (zaR aHs cHs 8 fHs), (zaI aWk cWk 6 fWk), (zaI aBk cBk 12 fBk), (zaI aFc cFc 6 fFc), (zo10ririliiriririr kp kTp (nI kts) kHl (nI knh) (lN kee) kmi ksn kHs (nI kn) kWk (nI kwz) kBk (nI kbz) kFc), (zaI kTp kcTp 100 kfTp), (zaR kHs kcHs 8 kfHs), (zaI kWk kcWk 6 kfWk), (zaI kBk kcBk 12 kfBk), (zaI kFc kcFc 6 kfFc), (zo7iirrrriviii bl esg (nI ecl) eW eA eE eC cdd etv szz att (nI em)), (zaI eW ceW 10 feW), (zaI eA ceA 10 feA), (zaI eE ceE 10 feE), (zaI eC ceC 100 feC), (zo4rrir go gR gO (nI lk) gS), (zaI gR cR 8 fR), (zaI gO cO 8 fO), (zo5iiii gS 0 (nI i0) 0 scl), (zo2lirrr ch ft fr dr tO hO), (zaI dr cD 36 fD), (zaR tO cTO 3 (fun i => if i < 3 then some (rt i) else none)), (zaL (rt 0) cT 36 ft0), (zaL (rt 1) cT 36 ft1), (zaL (rt 2) cT 36 ft2), (zaR hO cHO 8 (fun i => if i < 8 then some (rh i) else none)), (zaI (rh 0) cH 36 g0), (zaI (rh 1) cH 36 g1), (zaI (rh 2) cH 36 g2), (zaI (rh 3) cH 36 g3), (zaI (rh 4) cH 36 g4), (zaI (rh 5) cH 36 g5), (zaI (rh 6) cH 36 g6), (zaI (rh 7) cH 36 g7)]) (F := [(zo13rrirrrr h0 sc kp ik bl go ch bo), (zo10ririliiriririr sc aTp (nI ts) aHl (nI nh) (lN ee) mi sn aHs (nI n) aWk (nI wz) aBk (nI bz) aFc), (zaI aWk cWk 6 fWk)]) (T := LB) [0, 1, 4] rfl
  have hPc := bl_sub (F := [(zo13rrirrrr h0 sc kp ik bl go ch bo), (zo10ririliiriririr sc aTp (nI ts) aHl (nI nh) (lN ee) mi sn aHs (nI n) aWk (nI wz) aBk (nI bz) aFc), (zaI aWk cWk 6 fWk)]) hP [0, 1, 4] rfl
  refine ⟨_, _, _, c_xWalk l dC dI h0 sc kp bl go ch bo aTp aHl aHs aWk aBk aFc ts nh n wz bz mi sn ik x (lN ee) cWk fWk 0 s.heap.size oWz oWk, ⟨rfl, rfl, hPc, (K_mem hK hTF).sub [2] rfl, bl_Dsub hD [0, 1, 4] (by decide) rfl⟩, fun o t hQ => ?_, fun q hq => bl_A hwc q hq⟩
  obtain ⟨⟨r, u9, rfl, hpost, hB⟩, hz, hkp⟩ := hQ
  obtain ⟨wz9, fWk9⟩ := u9
  try dsimp only at hpost hB
  obtain ⟨hP1, hK1, hD1⟩ := hB
  obtain ⟨h1, h2, h3, h4⟩ := hpost
  have hJ := bl_gen (F' := [(zo13rrirrrr h0 sc kp ik bl go ch bo), (zo10ririliiriririr sc aTp (nI ts) aHl (nI nh) (lN ee) mi sn aHs (nI n) aWk (nI wz9) aBk (nI bz) aFc), (zaI aTp cTp 100 fTp), (zaR aHs cHs 8 fHs), (zaI aWk cWk 6 fWk9), (zaI aBk cBk 12 fBk), (zaI aFc cFc 6 fFc), (zo10ririliiriririr kp kTp (nI kts) kHl (nI knh) (lN kee) kmi ksn kHs (nI kn) kWk (nI kwz) kBk (nI kbz) kFc), (zaI kTp kcTp 100 kfTp), (zaR kHs kcHs 8 kfHs), (zaI kWk kcWk 6 kfWk), (zaI kBk kcBk 12 kfBk), (zaI kFc kcFc 6 kfFc), (zo7iirrrriviii bl esg (nI ecl) eW eA eE eC cdd etv szz att (nI em)), (zaI eW ceW 10 feW), (zaI eA ceA 10 feA), (zaI eE ceE 10 feE), (zaI eC ceC 100 feC), (zo4rrir go gR gO (nI lk) gS), (zaI gR cR 8 fR), (zaI gO cO 8 fO), (zo5iiii gS 0 (nI i0) 0 scl), (zo2lirrr ch ft fr dr tO hO), (zaI dr cD 36 fD), (zaR tO cTO 3 (fun i => if i < 3 then some (rt i) else none)), (zaL (rt 0) cT 36 ft0), (zaL (rt 1) cT 36 ft1), (zaL (rt 2) cT 36 ft2), (zaR hO cHO 8 (fun i => if i < 8 then some (rh i) else none)), (zaI (rh 0) cH 36 g0), (zaI (rh 1) cH 36 g1), (zaI (rh 2) cH 36 g2), (zaI (rh 3) cH 36 g3), (zaI (rh 4) cH 36 g4), (zaI (rh 5) cH 36 g5), (zaI (rh 6) cH 36 g6), (zaI (rh 7) cH 36 g7)]) hP hD [0, 1, 4] rfl hkp hP1 hD1 [some 0, some 1, none, none, some 2, none, none, none, none, none, none, none, none, none, none, none, none, none, none, none, none, none, none, none, none, none, none, none, none, none, none, none, none, none, none, none, none] [0, 1, 4] rfl (Or.inl rfl) rfl
  have hX := D_mem hJ.2
  exact ⟨⟨r, (ik, (n, wz9, bz, mi, sn, yk, yv, yc, nh, ts, tc, hC, ee), (kn, kwz, kbz, kmi, ksn, kyk, kyv, kyc, knh, kts, ktc, khC, kee), tl), rfl, ⟨h3, by subst h4; rfl⟩, _, T, (fun M9 k9 => k9 sc kp bl go ch bo aTp ts aHl nh ee mi sn aHs n aWk (wz9) aBk bz aFc cTp fTp cHs fHs cWk (fWk9) cBk fBk cFc fFc kTp kts kHl knh kee kmi ksn kHs kn kWk kwz kBk kbz kFc kcTp kfTp kcHs kfHs kcWk kfWk kcBk kfBk kcFc kfFc esg ecl eW eA eE eC cdd etv szz att em ceW feW ceA feA ceE feE ceC feC gR gO lk gS cR fR cO fO i0 scl ft fr dr tO hO cD fD cTO rt cT ft0 ft1 ft2 cHO rh cH g0 g1 g2 g3 g4 g5 g6 g7 sg cl bW bA bE bC hcd tpv hsz hat nmb cbW fbW cbA fbA cbE fbE cbC fbC ksg kcl kbW kbA kbE kbC khcd ktpv khsz khat knmb kcbW kfbW kcbA kfbA kcbE kfbE kcbC kfbC yi ya yk yv yc kyi kya kyk kyv kyc tc ktc hC khC LB rfl (hLB) hJ.1 ⟨hJ.2.1, fun _ _ _ => trivial⟩ (hTF) (hTH) (hTK) ⟨oTs, oNh, oN, h1, oBz, oHs, oHn, oYk, oYv, h2, oBk, oYt, oTx, oEe, oMi, oYc⟩ ⟨koTs, koNh, koN, koWz, koBz, koHs, koHn, koYk, koYv, koWk, koBk, koYt, koTx, koEe, koMi, koYc⟩ (hlk) ⟨zcl, zE, zC, zH⟩ ⟨kzcl, kzE, kzC, kzH⟩ ⟨hcl, hem, zeE, zeC⟩ (hZ.kept hkp hwc hX) (hZk.kept hkp hwc hX) (hHs.kept hkp hwc hX) (hHk.kept hkp hwc hX) rfl rfl), hJ.2, fun p hp => Or.inl hp⟩, hz, fun q h1 h2 => hkp q h1 (fun h => h2 (bl_A hwc _ h))⟩

set_option maxHeartbeats 4000000 in
set_option maxRecDepth 100000 in
theorem w_book (l : Launch) (dC : Nat → ClassId) (dI : Nat → Nat → Nat) (gd : Nat → Nat) (kA : Nat) (ad : Nat → Nat) (cB bS : Nat) (sK sV : Nat → Nat) (Y : Nat → Prop) (ik : Int32) (vs kvs : VS) (tl : List Nat) (T : List (ClassId × FieldType)) (h0 : Nat) (X : va_W) (x : Int32) (sz : Nat) : Met l yX11_book wsX11_book ({ frames := 1, cells := 0, slots := 0, locals := 21 } : Room) (va_Pc [.ref h0, .int x] (fun U => U.heap.size = sz ∧ XI dC dI ad bS Y ik vs kvs tl T h0 X U.heap ∧ va_K (dC, dI) vwCl T U ∧ (∀ c ∈ X, ¬ Y c.1) ∧ (∀ q, sz ≤ q → ¬ Y q) ∧ GA gd kA ad cB bS sK sV (va_A X sz) U)) (va_Qi (fun (r : Int32) (u : Int32 × VS × VS × List Nat) => r = bkR (vs.1) (vs.2.2.1) x ∧ u = (ik, (vs.1, vs.2.1, bkN (vs.1) (vs.2.2.1) x, vs.2.2.2.1, vs.2.2.2.2.1, vs.2.2.2.2.2.1, vs.2.2.2.2.2.2.1, vs.2.2.2.2.2.2.2.1, vs.2.2.2.2.2.2.2.2.1, vs.2.2.2.2.2.2.2.2.2.1, vs.2.2.2.2.2.2.2.2.2.2.1, vs.2.2.2.2.2.2.2.2.2.2.2.1, vs.2.2.2.2.2.2.2.2.2.2.2.2), kvs, tl)) (fun (u : Int32 × VS × VS × List Nat) (t : State) => ∃ (X1 : va_W) (T1 : List (ClassId × FieldType)), XI dC dI ad bS Y u.1 u.2.1 u.2.2.1 u.2.2.2 T1 h0 X1 t.heap ∧ va_D (va_A X sz) X1 ∧ ∀ p ∈ T1, p ∈ T ∨ va_K (dC, dI) vwCl [p] t) (va_A X sz)) 0 0 (va_A X sz) := by
  refine met_wrap (fun args s hPc => ?_)
  obtain ⟨rfl, rfl, hXI, hK, hY1, hY2, hGA⟩ := hPc
  have hXI0 := hXI
  refine hXI _ (fun sc kp bl go ch bo aTp ts aHl nh ee mi sn aHs n aWk wz aBk bz aFc cTp fTp cHs fHs cWk fWk cBk fBk cFc fFc kTp kts kHl knh kee kmi ksn kHs kn kWk kwz kBk kbz kFc kcTp kfTp kcHs kfHs kcWk kfWk kcBk kfBk kcFc kfFc esg ecl eW eA eE eC cdd etv szz att em ceW feW ceA feA ceE feE ceC feC gR gO lk gS cR fR cO fO i0 scl ft fr dr tO hO cD fD cTO rt cT ft0 ft1 ft2 cHO rh cH g0 g1 g2 g3 g4 g5 g6 g7 sg cl bW bA bE bC hcd tpv hsz hat nmb cbW fbW cbA fbA cbE fbE cbC fbC ksg kcl kbW kbA kbE kbC khcd ktpv khsz khat knmb kcbW kfbW kcbA kfbA kcbE kfbE kcbC kfbC yi ya yk yv yc kyi kya kyk kyv kyc tc ktc hC khC LB hX hLB hP hD hTF hTH hTK hq1 hq2 hlk hq3 hq4 hq5 hZ hZk hHs hHk hvs hkv => ?_)
  subst hvs
  subst hkv
  obtain ⟨oTs, oNh, oN, oWz, oBz, oHs, oHn, oYk, oYv, oWk, oBk, oYt, oTx, oEe, oMi, oYc⟩ := hq1
  obtain ⟨koTs, koNh, koN, koWz, koBz, koHs, koHn, koYk, koYv, koWk, koBk, koYt, koTx, koEe, koMi, koYc⟩ := hq2
  obtain ⟨zcl, zE, zC, zH⟩ := hq3
  obtain ⟨kzcl, kzE, kzC, kzH⟩ := hq4
  obtain ⟨hcl, hem, zeE, zeC⟩ := hq5
  subst hX
  have hwc := bl_mem (G := [(zo13rrirrrr h0 sc kp ik bl go ch bo), (zo10ririliiriririr sc aTp (nI ts) aHl (nI nh) (lN ee) mi sn aHs (nI n) aWk (nI wz) aBk (nI bz) aFc), (zaI aTp cTp 100 fTp), (zaR aHs cHs 8 fHs), (zaI aWk cWk 6 fWk), (zaI aBk cBk 12 fBk), (zaI aFc cFc 6 fFc), (zo10ririliiriririr kp kTp (nI kts) kHl (nI knh) (lN kee) kmi ksn kHs (nI kn) kWk (nI kwz) kBk (nI kbz) kFc), (zaI kTp kcTp 100 kfTp), (zaR kHs kcHs 8 kfHs), (zaI kWk kcWk 6 kfWk), (zaI kBk kcBk 12 kfBk), (zaI kFc kcFc 6 kfFc), (zo7iirrrriviii bl esg (nI ecl) eW eA eE eC cdd etv szz att (nI em)), (zaI eW ceW 10 feW), (zaI eA ceA 10 feA), (zaI eE ceE 10 feE), (zaI eC ceC 100 feC), (zo4rrir go gR gO (nI lk) gS), (zaI gR cR 8 fR), (zaI gO cO 8 fO), (zo5iiii gS 0 (nI i0) 0 scl), (zo2lirrr ch ft fr dr tO hO), (zaI dr cD 36 fD), (zaR tO cTO 3 (fun i => if i < 3 then some (rt i) else none)), (zaL (rt 0) cT 36 ft0), (zaL (rt 1) cT 36 ft1), (zaL (rt 2) cT 36 ft2), (zaR hO cHO 8 (fun i => if i < 8 then some (rh i) else none)), (zaI (rh 0) cH 36 g0), (zaI (rh 1) cH 36 g1), (zaI (rh 2) cH 36 g2), (zaI (rh 3) cH 36 g3), (zaI (rh 4) cH 36 g4), (zaI (rh 5) cH 36 g5), (zaI (rh 6) cH 36 g6), (zaI (rh 7) cH 36 g7)]) (F := [(zo13rrirrrr h0 sc kp ik bl go ch bo), (zo10ririliiriririr sc aTp (nI ts) aHl (nI nh) (lN ee) mi sn aHs (nI n) aWk (nI wz) aBk (nI bz) aFc), (zaR aHs cHs 8 fHs), (zaI aBk cBk 12 fBk)]) (T := LB) [0, 1, 3, 5] rfl
  have hPc := bl_sub (F := [(zo13rrirrrr h0 sc kp ik bl go ch bo), (zo10ririliiriririr sc aTp (nI ts) aHl (nI nh) (lN ee) mi sn aHs (nI n) aWk (nI wz) aBk (nI bz) aFc), (zaR aHs cHs 8 fHs), (zaI aBk cBk 12 fBk)]) hP [0, 1, 3, 5] rfl
  refine ⟨_, _, _, c_xBook l dC dI h0 sc kp bl go ch bo aTp aHl aHs aWk aBk aFc ts nh n wz bz mi sn ik x (lN ee) cHs cBk fBk fHs 0 ya s.heap.size oHs oN oBz oBk, ⟨rfl, rfl, hPc, (K_mem hK hTF).sub [1, 3] rfl, bl_Dsub hD [0, 1, 3, 5] (by decide) rfl⟩, fun o t hQ => ?_, fun q hq => bl_A hwc q hq⟩
  obtain ⟨⟨r, u9, rfl, hpost, hB⟩, hz, hkp⟩ := hQ
  obtain ⟨bz9, fBk9⟩ := u9
  try dsimp only at hpost hB
  obtain ⟨hP1, hK1, hD1⟩ := hB
  obtain ⟨h1, h2, h3, h4⟩ := hpost
  have hJ := bl_gen (F' := [(zo13rrirrrr h0 sc kp ik bl go ch bo), (zo10ririliiriririr sc aTp (nI ts) aHl (nI nh) (lN ee) mi sn aHs (nI n) aWk (nI wz) aBk (nI bz9) aFc), (zaI aTp cTp 100 fTp), (zaR aHs cHs 8 fHs), (zaI aWk cWk 6 fWk), (zaI aBk cBk 12 fBk9), (zaI aFc cFc 6 fFc), (zo10ririliiriririr kp kTp (nI kts) kHl (nI knh) (lN kee) kmi ksn kHs (nI kn) kWk (nI kwz) kBk (nI kbz) kFc), (zaI kTp kcTp 100 kfTp), (zaR kHs kcHs 8 kfHs), (zaI kWk kcWk 6 kfWk), (zaI kBk kcBk 12 kfBk), (zaI kFc kcFc 6 kfFc), (zo7iirrrriviii bl esg (nI ecl) eW eA eE eC cdd etv szz att (nI em)), (zaI eW ceW 10 feW), (zaI eA ceA 10 feA), (zaI eE ceE 10 feE), (zaI eC ceC 100 feC), (zo4rrir go gR gO (nI lk) gS), (zaI gR cR 8 fR), (zaI gO cO 8 fO), (zo5iiii gS 0 (nI i0) 0 scl), (zo2lirrr ch ft fr dr tO hO), (zaI dr cD 36 fD), (zaR tO cTO 3 (fun i => if i < 3 then some (rt i) else none)), (zaL (rt 0) cT 36 ft0), (zaL (rt 1) cT 36 ft1), (zaL (rt 2) cT 36 ft2), (zaR hO cHO 8 (fun i => if i < 8 then some (rh i) else none)), (zaI (rh 0) cH 36 g0), (zaI (rh 1) cH 36 g1), (zaI (rh 2) cH 36 g2), (zaI (rh 3) cH 36 g3), (zaI (rh 4) cH 36 g4), (zaI (rh 5) cH 36 g5), (zaI (rh 6) cH 36 g6), (zaI (rh 7) cH 36 g7)]) hP hD [0, 1, 3, 5] rfl hkp hP1 hD1 [some 0, some 1, none, some 2, none, some 3, none, none, none, none, none, none, none, none, none, none, none, none, none, none, none, none, none, none, none, none, none, none, none, none, none, none, none, none, none, none, none] [0, 1, 3, 5] rfl (Or.inl rfl) rfl
  have hX := D_mem hJ.2
  exact ⟨⟨r, (ik, (n, wz, bz9, mi, sn, yk, yv, yc, nh, ts, tc, hC, ee), (kn, kwz, kbz, kmi, ksn, kyk, kyv, kyc, knh, kts, ktc, khC, kee), tl), rfl, ⟨h3, by subst h4; rfl⟩, _, T, (fun M9 k9 => k9 sc kp bl go ch bo aTp ts aHl nh ee mi sn aHs n aWk wz aBk (bz9) aFc cTp fTp cHs fHs cWk fWk cBk (fBk9) cFc fFc kTp kts kHl knh kee kmi ksn kHs kn kWk kwz kBk kbz kFc kcTp kfTp kcHs kfHs kcWk kfWk kcBk kfBk kcFc kfFc esg ecl eW eA eE eC cdd etv szz att em ceW feW ceA feA ceE feE ceC feC gR gO lk gS cR fR cO fO i0 scl ft fr dr tO hO cD fD cTO rt cT ft0 ft1 ft2 cHO rh cH g0 g1 g2 g3 g4 g5 g6 g7 sg cl bW bA bE bC hcd tpv hsz hat nmb cbW fbW cbA fbA cbE fbE cbC fbC ksg kcl kbW kbA kbE kbC khcd ktpv khsz khat knmb kcbW kfbW kcbA kfbA kcbE kfbE kcbC kfbC yi ya yk yv yc kyi kya kyk kyv kyc tc ktc hC khC LB rfl (hLB) hJ.1 ⟨hJ.2.1, fun _ _ _ => trivial⟩ (hTF) (hTH) (hTK) ⟨oTs, oNh, oN, oWz, h1, oHs, oHn, oYk, oYv, oWk, h2, oYt, oTx, oEe, oMi, oYc⟩ ⟨koTs, koNh, koN, koWz, koBz, koHs, koHn, koYk, koYv, koWk, koBk, koYt, koTx, koEe, koMi, koYc⟩ (hlk) ⟨zcl, zE, zC, zH⟩ ⟨kzcl, kzE, kzC, kzH⟩ ⟨hcl, hem, zeE, zeC⟩ (hZ.kept hkp hwc hX) (hZk.kept hkp hwc hX) (hHs.kept hkp hwc hX) (hHk.kept hkp hwc hX) rfl rfl), hJ.2, fun p hp => Or.inl hp⟩, hz, fun q h1 h2 => hkp q h1 (fun h => h2 (bl_A hwc _ h))⟩
end mg19a
section mg19a

theorem up_yt {n ci : Nat} {x : Int32} {yi : Nat → Nat} {yk : Nat → Int32} (h : ∀ k0, k0 < n → hpT (yi k0) (yk k0)) (hx : hpT ci x) : ∀ k0, k0 < n + 1 → hpT ((fun k => if k = n then ci else yi k) k0) ((fun k => if k = n then x else yk k) k0) := by
  intro k0 hk
  by_cases q : k0 = n
  · simp only [if_pos q]; exact hx
  · simp only [if_neg q]; exact h k0 (by omega)

set_option maxHeartbeats 4000000 in
set_option maxRecDepth 100000 in
theorem w_image (l : Launch) (dC : Nat → ClassId) (dI : Nat → Nat → Nat) (gd : Nat → Nat) (kA : Nat) (ad : Nat → Nat) (cB bS : Nat) (sK sV : Nat → Nat) (Y : Nat → Prop) (ik : Int32) (vs kvs : VS) (tl : List Nat) (T : List (ClassId × FieldType)) (h0 : Nat) (X : va_W)  (sz : Nat) : Met l yX11_image wsX11_image ({ frames := 2, cells := 0, slots := 0, locals := 82 } : Room) (va_Pc [.ref h0] (fun U => U.heap.size = sz ∧ XI dC dI ad bS Y ik vs kvs tl T h0 X U.heap ∧ va_K (dC, dI) vwCl T U ∧ (∀ c ∈ X, ¬ Y c.1) ∧ (∀ q, sz ≤ q → ¬ Y q) ∧ GA gd kA ad cB bS sK sV (va_A X sz) U)) (va_Qi (fun (r : Int32) (u : Int32 × VS × VS × List Nat) => r = nI (vs.1) ∧ u = (1, vs, vs, tl)) (fun (u : Int32 × VS × VS × List Nat) (t : State) => ∃ (X1 : va_W) (T1 : List (ClassId × FieldType)), XI dC dI ad bS Y u.1 u.2.1 u.2.2.1 u.2.2.2 T1 h0 X1 t.heap ∧ va_D (va_A X sz) X1 ∧ ∀ p ∈ T1, p ∈ T ∨ va_K (dC, dI) vwCl [p] t) (va_A X sz)) 0 0 (va_A X sz) := by
  refine met_wrap (fun args s hPc => ?_)
  obtain ⟨rfl, rfl, hXI, hK, hY1, hY2, hGA⟩ := hPc
  have hXI0 := hXI
  refine hXI _ (fun sc kp bl go ch bo aTp ts aHl nh ee mi sn aHs n aWk wz aBk bz aFc cTp fTp cHs fHs cWk fWk cBk fBk cFc fFc kTp kts kHl knh kee kmi ksn kHs kn kWk kwz kBk kbz kFc kcTp kfTp kcHs kfHs kcWk kfWk kcBk kfBk kcFc kfFc esg ecl eW eA eE eC cdd etv szz att em ceW feW ceA feA ceE feE ceC feC gR gO lk gS cR fR cO fO i0 scl ft fr dr tO hO cD fD cTO rt cT ft0 ft1 ft2 cHO rh cH g0 g1 g2 g3 g4 g5 g6 g7 sg cl bW bA bE bC hcd tpv hsz hat nmb cbW fbW cbA fbA cbE fbE cbC fbC ksg kcl kbW kbA kbE kbC khcd ktpv khsz khat knmb kcbW kfbW kcbA kfbA kcbE kfbE kcbC kfbC yi ya yk yv yc kyi kya kyk kyv kyc tc ktc hC khC LB hX hLB hP hD hTF hTH hTK hq1 hq2 hlk hq3 hq4 hq5 hZ hZk hHs hHk hvs hkv => ?_)
  subst hvs
  subst hkv
  obtain ⟨oTs, oNh, oN, oWz, oBz, oHs, oHn, oYk, oYv, oWk, oBk, oYt, oTx, oEe, oMi, oYc⟩ := hq1
  obtain ⟨koTs, koNh, koN, koWz, koBz, koHs, koHn, koYk, koYv, koWk, koBk, koYt, koTx, koEe, koMi, koYc⟩ := hq2
  obtain ⟨zcl, zE, zC, zH⟩ := hq3
  obtain ⟨kzcl, kzE, kzC, kzH⟩ := hq4
  obtain ⟨hcl, hem, zeE, zeC⟩ := hq5
  subst hX
  have hwc := bl_mem (G := [(zo13rrirrrr h0 sc kp ik bl go ch bo), (zo10ririliiriririr sc aTp (nI ts) aHl (nI nh) (lN ee) mi sn aHs (nI n) aWk (nI wz) aBk (nI bz) aFc), (zaI aTp cTp 100 fTp), (zaR aHs cHs 8 fHs), (zaI aWk cWk 6 fWk), (zaI aBk cBk 12 fBk), (zaI aFc cFc 6 fFc), (zo10ririliiriririr kp kTp (nI kts) kHl (nI knh) (lN kee) kmi ksn kHs (nI kn) kWk (nI kwz) kBk (nI kbz) kFc), (zaI kTp kcTp 100 kfTp), (zaR kHs kcHs 8 kfHs), (zaI kWk kcWk 6 kfWk), (zaI kBk kcBk 12 kfBk), (zaI kFc kcFc 6 kfFc), (zo7iirrrriviii bl esg (nI ecl) eW eA eE eC cdd etv szz att (nI em)), (zaI eW ceW 10 feW), (zaI eA ceA 10 feA), (zaI eE ceE 10 feE), (zaI eC ceC 100 feC), (zo4rrir go gR gO (nI lk) gS), (zaI gR cR 8 fR), (zaI gO cO 8 fO), (zo5iiii gS 0 (nI i0) 0 scl), (zo2lirrr ch ft fr dr tO hO), (zaI dr cD 36 fD), (zaR tO cTO 3 (fun i => if i < 3 then some (rt i) else none)), (zaL (rt 0) cT 36 ft0), (zaL (rt 1) cT 36 ft1), (zaL (rt 2) cT 36 ft2), (zaR hO cHO 8 (fun i => if i < 8 then some (rh i) else none)), (zaI (rh 0) cH 36 g0), (zaI (rh 1) cH 36 g1), (zaI (rh 2) cH 36 g2), (zaI (rh 3) cH 36 g3), (zaI (rh 4) cH 36 g4), (zaI (rh 5) cH 36 g5), (zaI (rh 6) cH 36 g6), (zaI (rh 7) cH 36 g7)]) (F := [(zo13rrirrrr h0 sc kp ik bl go ch bo), (zo10ririliiriririr kp kTp (nI kts) kHl (nI knh) (lN kee) kmi ksn kHs (nI kn) kWk (nI kwz) kBk (nI kbz) kFc), (zaI kTp kcTp 100 kfTp), (zaR kHs kcHs 8 kfHs), (zaI kWk kcWk 6 kfWk), (zaI kBk kcBk 12 kfBk), (zo10ririliiriririr sc aTp (nI ts) aHl (nI nh) (lN ee) mi sn aHs (nI n) aWk (nI wz) aBk (nI bz) aFc), (zaI aTp cTp 100 fTp), (zaR aHs cHs 8 fHs), (zaI aWk cWk 6 fWk), (zaI aBk cBk 12 fBk)]) (T := LB) [0, 7, 8, 9, 10, 11, 1, 2, 3, 4, 5] rfl
  have hPc := bl_sub (F := [(zo13rrirrrr h0 sc kp ik bl go ch bo), (zo10ririliiriririr kp kTp (nI kts) kHl (nI knh) (lN kee) kmi ksn kHs (nI kn) kWk (nI kwz) kBk (nI kbz) kFc), (zaI kTp kcTp 100 kfTp), (zaR kHs kcHs 8 kfHs), (zaI kWk kcWk 6 kfWk), (zaI kBk kcBk 12 kfBk), (zo10ririliiriririr sc aTp (nI ts) aHl (nI nh) (lN ee) mi sn aHs (nI n) aWk (nI wz) aBk (nI bz) aFc), (zaI aTp cTp 100 fTp), (zaR aHs cHs 8 fHs), (zaI aWk cWk 6 fWk), (zaI aBk cBk 12 fBk)]) hP [0, 7, 8, 9, 10, 11, 1, 2, 3, 4, 5] rfl
  refine ⟨_, _, _, c_xImage l dC dI bS h0 sc kp bl go ch bo aTp aHl aHs aWk aBk aFc kTp kHl kHs kWk kBk kFc ts nh n wz bz kn kts knh kwz kbz mi sn kmi ksn ik (lN ee) (lN kee) cTp cHs cWk cBk kcTp kcHs kcWk kcBk fTp fWk fBk kfTp kfWk kfBk yk yv yc fHs kfHs yi ya s.heap.size oHs oN oHn, ⟨rfl, rfl, hPc, (K_mem hK hTF).sub [5, 6, 7, 8, 0, 1, 2, 3] rfl, bl_Dsub hD [0, 7, 8, 9, 10, 11, 1, 2, 3, 4, 5] (by decide) rfl, hGA.2.2.2.2.2.1.call va_S.rf rfl (State.WarmedH.refl s) (bl_A hwc), hHs.at (K_mem hK (fun _ q => absurd q List.not_mem_nil)) hwc⟩, fun o t hQ => ?_, fun q hq => bl_A hwc q hq⟩
  obtain ⟨⟨r, u9, rfl, hpost, hB⟩, hz, hkp⟩ := hQ
  obtain ⟨ik9, kts9, kHl9, knh9, ked9, kmi9, ksn9, kn9, kwz9, kbz9, kfTp9, kfHs9, kfWk9, kfBk9⟩ := u9
  try dsimp only at hpost hB
  obtain ⟨hP1, hK1, hD1⟩ := hB
  obtain ⟨er, e0, e1, e2, e3, e4, e5, e6, e7, e8, e9, eTp, eHs, eWk, eBk⟩ := hpost
  obtain rfl := e0
  obtain rfl := (e1).symm
  obtain rfl := (e2).symm
  obtain rfl := (e3).symm
  obtain rfl := (e4).symm
  obtain rfl := (e5).symm
  obtain rfl := (e6).symm
  obtain rfl := (e7).symm
  obtain rfl := (e8).symm
  obtain rfl := (e9).symm
  have hJ := bl_gen (F' := [(zo13rrirrrr h0 sc kp 1 bl go ch bo), (zo10ririliiriririr sc aTp (nI ts) aHl (nI nh) (lN ee) mi sn aHs (nI n) aWk (nI wz) aBk (nI bz) aFc), (zaI aTp cTp 100 fTp), (zaR aHs cHs 8 fHs), (zaI aWk cWk 6 fWk), (zaI aBk cBk 12 fBk), (zaI aFc cFc 6 fFc), (zo10ririliiriririr kp kTp (nI ts) aHl (nI nh) (lN ee) mi sn kHs (nI n) kWk (nI wz) kBk (nI bz) kFc), (zaI kTp kcTp 100 kfTp9), (zaR kHs kcHs 8 kfHs9), (zaI kWk kcWk 6 kfWk9), (zaI kBk kcBk 12 kfBk9), (zaI kFc kcFc 6 kfFc), (zo7iirrrriviii bl esg (nI ecl) eW eA eE eC cdd etv szz att (nI em)), (zaI eW ceW 10 feW), (zaI eA ceA 10 feA), (zaI eE ceE 10 feE), (zaI eC ceC 100 feC), (zo4rrir go gR gO (nI lk) gS), (zaI gR cR 8 fR), (zaI gO cO 8 fO), (zo5iiii gS 0 (nI i0) 0 scl), (zo2lirrr ch ft fr dr tO hO), (zaI dr cD 36 fD), (zaR tO cTO 3 (fun i => if i < 3 then some (rt i) else none)), (zaL (rt 0) cT 36 ft0), (zaL (rt 1) cT 36 ft1), (zaL (rt 2) cT 36 ft2), (zaR hO cHO 8 (fun i => if i < 8 then some (rh i) else none)), (zaI (rh 0) cH 36 g0), (zaI (rh 1) cH 36 g1), (zaI (rh 2) cH 36 g2), (zaI (rh 3) cH 36 g3), (zaI (rh 4) cH 36 g4), (zaI (rh 5) cH 36 g5), (zaI (rh 6) cH 36 g6), (zaI (rh 7) cH 36 g7)]) hP hD [0, 7, 8, 9, 10, 11, 1, 2, 3, 4, 5] rfl hkp hP1 hD1 [some 0, some 6, some 7, some 8, some 9, some 10, none, some 1, some 2, some 3, some 4, some 5, none, none, none, none, none, none, none, none, none, none, none, none, none, none, none, none, none, none, none, none, none, none, none, none, none] [0, 7, 8, 9, 10, 11, 1, 2, 3, 4, 5] rfl (Or.inl rfl) rfl
  have hX := D_mem hJ.2
  exact ⟨⟨r, (1, (n, wz, bz, mi, sn, yk, yv, yc, nh, ts, tc, hC, ee), (n, wz, bz, mi, sn, yk, yv, yc, nh, ts, tc, hC, ee), tl), rfl, ⟨er, rfl⟩, _, T, (fun M9 k9 => k9 sc kp bl go ch bo aTp ts aHl nh ee mi sn aHs n aWk wz aBk bz aFc cTp fTp cHs fHs cWk fWk cBk fBk cFc fFc kTp (ts) (aHl) (nh) (ee) (mi) (sn) kHs (n) kWk (wz) kBk (bz) kFc kcTp (kfTp9) kcHs (kfHs9) kcWk (kfWk9) kcBk (kfBk9) kcFc kfFc esg ecl eW eA eE eC cdd etv szz att em ceW feW ceA feA ceE feE ceC feC gR gO lk gS cR fR cO fO i0 scl ft fr dr tO hO cD fD cTO rt cT ft0 ft1 ft2 cHO rh cH g0 g1 g2 g3 g4 g5 g6 g7 sg cl bW bA bE bC hcd tpv hsz hat nmb cbW fbW cbA fbA cbE fbE cbC fbC (sg) (cl) (bW) (bA) (bE) (bC) (hcd) (tpv) (hsz) (hat) (nmb) (cbW) (fbW) (cbA) (fbA) (cbE) (fbE) (cbC) (fbC) yi ya yk yv yc (yi) (ya) (yk) (yv) (yc) tc (tc) hC (hC) LB rfl (hLB) hJ.1 ⟨hJ.2.1, fun _ _ _ => trivial⟩ (hTF) (hTH) (hTH) ⟨oTs, oNh, oN, oWz, oBz, oHs, oHn, oYk, oYv, oWk, oBk, oYt, oTx, oEe, oMi, oYc⟩ ⟨oTs, oNh, oN, oWz, oBz, fun k0 h0 => (eHs k0 (by omega)).trans (oHs k0 h0), fun k0 h0 h1 => (eHs k0 h1).trans (oHn k0 h0 h1), oYk, oYv, fun k0 h0 => by rw [eWk k0 h0]; exact oWk k0 h0, fun k0 h0 => by rw [eBk k0 h0]; exact oBk k0 h0, oYt, TX_of oTx (fun p hp => eTp p (by omega)), oEe, oMi, oYc⟩ (hlk) ⟨zcl, zE, zC, zH⟩ ⟨zcl, zE, zC, zH⟩ ⟨hcl, hem, zeE, zeC⟩ (hZ.kept hkp hwc hX) (hZ.kept hkp hwc hX) (hHs.kept hkp hwc hX) (hHs.kept hkp hwc hX) rfl rfl), hJ.2, fun p hp => Or.inl hp⟩, hz, fun q h1 h2 => hkp q h1 (fun h => h2 (bl_A hwc _ h))⟩

set_option maxHeartbeats 4000000 in
set_option maxRecDepth 100000 in
theorem w_undo (l : Launch) (dC : Nat → ClassId) (dI : Nat → Nat → Nat) (gd : Nat → Nat) (kA : Nat) (ad : Nat → Nat) (cB bS : Nat) (sK sV : Nat → Nat) (Y : Nat → Prop) (ik : Int32) (vs kvs : VS) (tl : List Nat) (T : List (ClassId × FieldType)) (h0 : Nat) (X : va_W)  (sz : Nat) : Met l yX11_undo wsX11_undo ({ frames := 2, cells := 0, slots := 0, locals := 82 } : Room) (va_Pc [.ref h0] (fun U => U.heap.size = sz ∧ XI dC dI ad bS Y ik vs kvs tl T h0 X U.heap ∧ va_K (dC, dI) vwCl T U ∧ (∀ c ∈ X, ¬ Y c.1) ∧ (∀ q, sz ≤ q → ¬ Y q) ∧ GA gd kA ad cB bS sK sV (va_A X sz) U)) (va_Qi (fun (r : Int32) (u : Int32 × VS × VS × List Nat) => (ik = 0 ∧ r = -3 ∧ u = (ik, vs, kvs, tl)) ∨ (¬ ik = 0 ∧ r = nI (kvs.1) ∧ u = (ik, kvs, kvs, tl))) (fun (u : Int32 × VS × VS × List Nat) (t : State) => ∃ (X1 : va_W) (T1 : List (ClassId × FieldType)), XI dC dI ad bS Y u.1 u.2.1 u.2.2.1 u.2.2.2 T1 h0 X1 t.heap ∧ va_D (va_A X sz) X1 ∧ ∀ p ∈ T1, p ∈ T ∨ va_K (dC, dI) vwCl [p] t) (va_A X sz)) 0 0 (va_A X sz) := by
  refine met_wrap (fun args s hPc => ?_)
  obtain ⟨rfl, rfl, hXI, hK, hY1, hY2, hGA⟩ := hPc
  have hXI0 := hXI
  refine hXI _ (fun sc kp bl go ch bo aTp ts aHl nh ee mi sn aHs n aWk wz aBk bz aFc cTp fTp cHs fHs cWk fWk cBk fBk cFc fFc kTp kts kHl knh kee kmi ksn kHs kn kWk kwz kBk kbz kFc kcTp kfTp kcHs kfHs kcWk kfWk kcBk kfBk kcFc kfFc esg ecl eW eA eE eC cdd etv szz att em ceW feW ceA feA ceE feE ceC feC gR gO lk gS cR fR cO fO i0 scl ft fr dr tO hO cD fD cTO rt cT ft0 ft1 ft2 cHO rh cH g0 g1 g2 g3 g4 g5 g6 g7 sg cl bW bA bE bC hcd tpv hsz hat nmb cbW fbW cbA fbA cbE fbE cbC fbC ksg kcl kbW kbA kbE kbC khcd ktpv khsz khat knmb kcbW kfbW kcbA kfbA kcbE kfbE kcbC kfbC yi ya yk yv yc kyi kya kyk kyv kyc tc ktc hC khC LB hX hLB hP hD hTF hTH hTK hq1 hq2 hlk hq3 hq4 hq5 hZ hZk hHs hHk hvs hkv => ?_)
  subst hvs
  subst hkv
  obtain ⟨oTs, oNh, oN, oWz, oBz, oHs, oHn, oYk, oYv, oWk, oBk, oYt, oTx, oEe, oMi, oYc⟩ := hq1
  obtain ⟨koTs, koNh, koN, koWz, koBz, koHs, koHn, koYk, koYv, koWk, koBk, koYt, koTx, koEe, koMi, koYc⟩ := hq2
  obtain ⟨zcl, zE, zC, zH⟩ := hq3
  obtain ⟨kzcl, kzE, kzC, kzH⟩ := hq4
  obtain ⟨hcl, hem, zeE, zeC⟩ := hq5
  subst hX
  have hwc := bl_mem (G := [(zo13rrirrrr h0 sc kp ik bl go ch bo), (zo10ririliiriririr sc aTp (nI ts) aHl (nI nh) (lN ee) mi sn aHs (nI n) aWk (nI wz) aBk (nI bz) aFc), (zaI aTp cTp 100 fTp), (zaR aHs cHs 8 fHs), (zaI aWk cWk 6 fWk), (zaI aBk cBk 12 fBk), (zaI aFc cFc 6 fFc), (zo10ririliiriririr kp kTp (nI kts) kHl (nI knh) (lN kee) kmi ksn kHs (nI kn) kWk (nI kwz) kBk (nI kbz) kFc), (zaI kTp kcTp 100 kfTp), (zaR kHs kcHs 8 kfHs), (zaI kWk kcWk 6 kfWk), (zaI kBk kcBk 12 kfBk), (zaI kFc kcFc 6 kfFc), (zo7iirrrriviii bl esg (nI ecl) eW eA eE eC cdd etv szz att (nI em)), (zaI eW ceW 10 feW), (zaI eA ceA 10 feA), (zaI eE ceE 10 feE), (zaI eC ceC 100 feC), (zo4rrir go gR gO (nI lk) gS), (zaI gR cR 8 fR), (zaI gO cO 8 fO), (zo5iiii gS 0 (nI i0) 0 scl), (zo2lirrr ch ft fr dr tO hO), (zaI dr cD 36 fD), (zaR tO cTO 3 (fun i => if i < 3 then some (rt i) else none)), (zaL (rt 0) cT 36 ft0), (zaL (rt 1) cT 36 ft1), (zaL (rt 2) cT 36 ft2), (zaR hO cHO 8 (fun i => if i < 8 then some (rh i) else none)), (zaI (rh 0) cH 36 g0), (zaI (rh 1) cH 36 g1), (zaI (rh 2) cH 36 g2), (zaI (rh 3) cH 36 g3), (zaI (rh 4) cH 36 g4), (zaI (rh 5) cH 36 g5), (zaI (rh 6) cH 36 g6), (zaI (rh 7) cH 36 g7)]) (F := [(zo13rrirrrr h0 sc kp ik bl go ch bo), (zo10ririliiriririr kp kTp (nI kts) kHl (nI knh) (lN kee) kmi ksn kHs (nI kn) kWk (nI kwz) kBk (nI kbz) kFc), (zaI kTp kcTp 100 kfTp), (zaR kHs kcHs 8 kfHs), (zaI kWk kcWk 6 kfWk), (zaI kBk kcBk 12 kfBk), (zo10ririliiriririr sc aTp (nI ts) aHl (nI nh) (lN ee) mi sn aHs (nI n) aWk (nI wz) aBk (nI bz) aFc), (zaI aTp cTp 100 fTp), (zaR aHs cHs 8 fHs), (zaI aWk cWk 6 fWk), (zaI aBk cBk 12 fBk)]) (T := LB) [0, 7, 8, 9, 10, 11, 1, 2, 3, 4, 5] rfl
  have hPc := bl_sub (F := [(zo13rrirrrr h0 sc kp ik bl go ch bo), (zo10ririliiriririr kp kTp (nI kts) kHl (nI knh) (lN kee) kmi ksn kHs (nI kn) kWk (nI kwz) kBk (nI kbz) kFc), (zaI kTp kcTp 100 kfTp), (zaR kHs kcHs 8 kfHs), (zaI kWk kcWk 6 kfWk), (zaI kBk kcBk 12 kfBk), (zo10ririliiriririr sc aTp (nI ts) aHl (nI nh) (lN ee) mi sn aHs (nI n) aWk (nI wz) aBk (nI bz) aFc), (zaI aTp cTp 100 fTp), (zaR aHs cHs 8 fHs), (zaI aWk cWk 6 fWk), (zaI aBk cBk 12 fBk)]) hP [0, 7, 8, 9, 10, 11, 1, 2, 3, 4, 5] rfl
  refine ⟨_, _, _, c_xUndo l dC dI bS h0 sc kp bl go ch bo aTp aHl aHs aWk aBk aFc kTp kHl kHs kWk kBk kFc ts nh n wz bz kn kts knh kwz kbz mi sn kmi ksn ik (lN ee) (lN kee) cTp cHs cWk cBk kcTp kcHs kcWk kcBk fTp fWk fBk kfTp kfWk kfBk kyk kyv kyc fHs kfHs kyi kya s.heap.size koHs koN koHn, ⟨rfl, rfl, hPc, (K_mem hK hTF).sub [5, 6, 7, 8, 0, 1, 2, 3] rfl, bl_Dsub hD [0, 7, 8, 9, 10, 11, 1, 2, 3, 4, 5] (by decide) rfl, hGA.2.2.2.2.2.1.call va_S.rf rfl (State.WarmedH.refl s) (bl_A hwc), hHk.at (K_mem hK (fun _ q => absurd q List.not_mem_nil)) hwc⟩, fun o t hQ => ?_, fun q hq => bl_A hwc q hq⟩
  obtain ⟨⟨r, u9, rfl, hpost, hB⟩, hz, hkp⟩ := hQ
  obtain ⟨ts9, aHl9, nh9, ed9, mi9, sn9, n9, wz9, bz9, fTp9, fHs9, fWk9, fBk9⟩ := u9
  try dsimp only at hpost hB
  obtain ⟨hP1, hK1, hD1⟩ := hB
  rcases hpost with ⟨hik, er, e1, e2, e3, e4, e5, e6, e7, e8, e9, e10, e11, e12, e13⟩ | ⟨hik, er, e1, e2, e3, e4, e5, e6, e7, e8, e9, eTp, eHs, eWk, eBk⟩
  · skip
    obtain rfl := (e1).symm
    obtain rfl := (e2).symm
    obtain rfl := (e3).symm
    obtain rfl := (e4).symm
    obtain rfl := (e5).symm
    obtain rfl := (e6).symm
    obtain rfl := (e7).symm
    obtain rfl := (e8).symm
    obtain rfl := (e9).symm
    obtain rfl := (e10).symm
    obtain rfl := (e11).symm
    obtain rfl := (e12).symm
    obtain rfl := (e13).symm
    have hJ := bl_gen (F' := [(zo13rrirrrr h0 sc kp ik bl go ch bo), (zo10ririliiriririr sc aTp (nI ts) aHl (nI nh) (lN ee) mi sn aHs (nI n) aWk (nI wz) aBk (nI bz) aFc), (zaI aTp cTp 100 fTp), (zaR aHs cHs 8 fHs), (zaI aWk cWk 6 fWk), (zaI aBk cBk 12 fBk), (zaI aFc cFc 6 fFc), (zo10ririliiriririr kp kTp (nI kts) kHl (nI knh) (lN kee) kmi ksn kHs (nI kn) kWk (nI kwz) kBk (nI kbz) kFc), (zaI kTp kcTp 100 kfTp), (zaR kHs kcHs 8 kfHs), (zaI kWk kcWk 6 kfWk), (zaI kBk kcBk 12 kfBk), (zaI kFc kcFc 6 kfFc), (zo7iirrrriviii bl esg (nI ecl) eW eA eE eC cdd etv szz att (nI em)), (zaI eW ceW 10 feW), (zaI eA ceA 10 feA), (zaI eE ceE 10 feE), (zaI eC ceC 100 feC), (zo4rrir go gR gO (nI lk) gS), (zaI gR cR 8 fR), (zaI gO cO 8 fO), (zo5iiii gS 0 (nI i0) 0 scl), (zo2lirrr ch ft fr dr tO hO), (zaI dr cD 36 fD), (zaR tO cTO 3 (fun i => if i < 3 then some (rt i) else none)), (zaL (rt 0) cT 36 ft0), (zaL (rt 1) cT 36 ft1), (zaL (rt 2) cT 36 ft2), (zaR hO cHO 8 (fun i => if i < 8 then some (rh i) else none)), (zaI (rh 0) cH 36 g0), (zaI (rh 1) cH 36 g1), (zaI (rh 2) cH 36 g2), (zaI (rh 3) cH 36 g3), (zaI (rh 4) cH 36 g4), (zaI (rh 5) cH 36 g5), (zaI (rh 6) cH 36 g6), (zaI (rh 7) cH 36 g7)]) hP hD [0, 7, 8, 9, 10, 11, 1, 2, 3, 4, 5] rfl hkp hP1 hD1 [some 0, some 6, some 7, some 8, some 9, some 10, none, some 1, some 2, some 3, some 4, some 5, none, none, none, none, none, none, none, none, none, none, none, none, none, none, none, none, none, none, none, none, none, none, none, none, none] [0, 7, 8, 9, 10, 11, 1, 2, 3, 4, 5] rfl (Or.inl rfl) rfl
    have hX := D_mem hJ.2
    exact ⟨⟨r, (ik, (n, wz, bz, mi, sn, yk, yv, yc, nh, ts, tc, hC, ee), (kn, kwz, kbz, kmi, ksn, kyk, kyv, kyc, knh, kts, ktc, khC, kee), tl), rfl, Or.inl ⟨hik, er, rfl⟩, _, T, (fun M9 k9 => k9 sc kp bl go ch bo aTp ts aHl nh ee mi sn aHs n aWk wz aBk bz aFc cTp fTp cHs fHs cWk fWk cBk fBk cFc fFc kTp kts kHl knh kee kmi ksn kHs kn kWk kwz kBk kbz kFc kcTp kfTp kcHs kfHs kcWk kfWk kcBk kfBk kcFc kfFc esg ecl eW eA eE eC cdd etv szz att em ceW feW ceA feA ceE feE ceC feC gR gO lk gS cR fR cO fO i0 scl ft fr dr tO hO cD fD cTO rt cT ft0 ft1 ft2 cHO rh cH g0 g1 g2 g3 g4 g5 g6 g7 sg cl bW bA bE bC hcd tpv hsz hat nmb cbW fbW cbA fbA cbE fbE cbC fbC ksg kcl kbW kbA kbE kbC khcd ktpv khsz khat knmb kcbW kfbW kcbA kfbA kcbE kfbE kcbC kfbC yi ya yk yv yc kyi kya kyk kyv kyc tc ktc hC khC LB rfl (hLB) hJ.1 ⟨hJ.2.1, fun _ _ _ => trivial⟩ (hTF) (hTH) (hTK) ⟨oTs, oNh, oN, oWz, oBz, oHs, oHn, oYk, oYv, oWk, oBk, oYt, oTx, oEe, oMi, oYc⟩ ⟨koTs, koNh, koN, koWz, koBz, koHs, koHn, koYk, koYv, koWk, koBk, koYt, koTx, koEe, koMi, koYc⟩ (hlk) ⟨zcl, zE, zC, zH⟩ ⟨kzcl, kzE, kzC, kzH⟩ ⟨hcl, hem, zeE, zeC⟩ (hZ.kept hkp hwc hX) (hZk.kept hkp hwc hX) (hHs.kept hkp hwc hX) (hHk.kept hkp hwc hX) rfl rfl), hJ.2, fun p hp => Or.inl hp⟩, hz, fun q h1 h2 => hkp q h1 (fun h => h2 (bl_A hwc _ h))⟩
  · skip
    obtain rfl := (e1).symm
    obtain rfl := (e2).symm
    obtain rfl := (e3).symm
    obtain rfl := (e4).symm
    obtain rfl := (e5).symm
    obtain rfl := (e6).symm
    obtain rfl := (e7).symm
    obtain rfl := (e8).symm
    obtain rfl := (e9).symm
    have hJ := bl_gen (F' := [(zo13rrirrrr h0 sc kp ik bl go ch bo), (zo10ririliiriririr sc aTp (nI kts) kHl (nI knh) (lN kee) kmi ksn aHs (nI kn) aWk (nI kwz) aBk (nI kbz) aFc), (zaI aTp cTp 100 fTp9), (zaR aHs cHs 8 fHs9), (zaI aWk cWk 6 fWk9), (zaI aBk cBk 12 fBk9), (zaI aFc cFc 6 fFc), (zo10ririliiriririr kp kTp (nI kts) kHl (nI knh) (lN kee) kmi ksn kHs (nI kn) kWk (nI kwz) kBk (nI kbz) kFc), (zaI kTp kcTp 100 kfTp), (zaR kHs kcHs 8 kfHs), (zaI kWk kcWk 6 kfWk), (zaI kBk kcBk 12 kfBk), (zaI kFc kcFc 6 kfFc), (zo7iirrrriviii bl esg (nI ecl) eW eA eE eC cdd etv szz att (nI em)), (zaI eW ceW 10 feW), (zaI eA ceA 10 feA), (zaI eE ceE 10 feE), (zaI eC ceC 100 feC), (zo4rrir go gR gO (nI lk) gS), (zaI gR cR 8 fR), (zaI gO cO 8 fO), (zo5iiii gS 0 (nI i0) 0 scl), (zo2lirrr ch ft fr dr tO hO), (zaI dr cD 36 fD), (zaR tO cTO 3 (fun i => if i < 3 then some (rt i) else none)), (zaL (rt 0) cT 36 ft0), (zaL (rt 1) cT 36 ft1), (zaL (rt 2) cT 36 ft2), (zaR hO cHO 8 (fun i => if i < 8 then some (rh i) else none)), (zaI (rh 0) cH 36 g0), (zaI (rh 1) cH 36 g1), (zaI (rh 2) cH 36 g2), (zaI (rh 3) cH 36 g3), (zaI (rh 4) cH 36 g4), (zaI (rh 5) cH 36 g5), (zaI (rh 6) cH 36 g6), (zaI (rh 7) cH 36 g7)]) hP hD [0, 7, 8, 9, 10, 11, 1, 2, 3, 4, 5] rfl hkp hP1 hD1 [some 0, some 6, some 7, some 8, some 9, some 10, none, some 1, some 2, some 3, some 4, some 5, none, none, none, none, none, none, none, none, none, none, none, none, none, none, none, none, none, none, none, none, none, none, none, none, none] [0, 7, 8, 9, 10, 11, 1, 2, 3, 4, 5] rfl (Or.inl rfl) rfl
    have hX := D_mem hJ.2
    exact ⟨⟨r, (ik, (kn, kwz, kbz, kmi, ksn, kyk, kyv, kyc, knh, kts, ktc, khC, kee), (kn, kwz, kbz, kmi, ksn, kyk, kyv, kyc, knh, kts, ktc, khC, kee), tl), rfl, Or.inr ⟨hik, er, rfl⟩, _, T, (fun M9 k9 => k9 sc kp bl go ch bo aTp (kts) (kHl) (knh) (kee) (kmi) (ksn) aHs (kn) aWk (kwz) aBk (kbz) aFc cTp (fTp9) cHs (fHs9) cWk (fWk9) cBk (fBk9) cFc fFc kTp kts kHl knh kee kmi ksn kHs kn kWk kwz kBk kbz kFc kcTp kfTp kcHs kfHs kcWk kfWk kcBk kfBk kcFc kfFc esg ecl eW eA eE eC cdd etv szz att em ceW feW ceA feA ceE feE ceC feC gR gO lk gS cR fR cO fO i0 scl ft fr dr tO hO cD fD cTO rt cT ft0 ft1 ft2 cHO rh cH g0 g1 g2 g3 g4 g5 g6 g7 (ksg) (kcl) (kbW) (kbA) (kbE) (kbC) (khcd) (ktpv) (khsz) (khat) (knmb) (kcbW) (kfbW) (kcbA) (kfbA) (kcbE) (kfbE) (kcbC) (kfbC) ksg kcl kbW kbA kbE kbC khcd ktpv khsz khat knmb kcbW kfbW kcbA kfbA kcbE kfbE kcbC kfbC (kyi) (kya) (kyk) (kyv) (kyc) kyi kya kyk kyv kyc (ktc) ktc (khC) khC LB rfl (hLB) hJ.1 ⟨hJ.2.1, fun _ _ _ => trivial⟩ (hTF) (hTK) (hTK) ⟨koTs, koNh, koN, koWz, koBz, fun k0 h0 => (eHs k0 (by omega)).trans (koHs k0 h0), fun k0 h0 h1 => (eHs k0 h1).trans (koHn k0 h0 h1), koYk, koYv, fun k0 h0 => by rw [eWk k0 h0]; exact koWk k0 h0, fun k0 h0 => by rw [eBk k0 h0]; exact koBk k0 h0, koYt, TX_of koTx (fun p hp => eTp p (by omega)), koEe, koMi, koYc⟩ ⟨koTs, koNh, koN, koWz, koBz, koHs, koHn, koYk, koYv, koWk, koBk, koYt, koTx, koEe, koMi, koYc⟩ (hlk) ⟨kzcl, kzE, kzC, kzH⟩ ⟨kzcl, kzE, kzC, kzH⟩ ⟨hcl, hem, zeE, zeC⟩ (hZk.kept hkp hwc hX) (hZk.kept hkp hwc hX) (hHk.kept hkp hwc hX) (hHk.kept hkp hwc hX) rfl rfl), hJ.2, fun p hp => Or.inl hp⟩, hz, fun q h1 h2 => hkp q h1 (fun h => h2 (bl_A hwc _ h))⟩

set_option maxHeartbeats 4000000 in
set_option maxRecDepth 100000 in
theorem w_heap (l : Launch) (dC : Nat → ClassId) (dI : Nat → Nat → Nat) (gd : Nat → Nat) (kA : Nat) (ad : Nat → Nat) (cB bS : Nat) (sK sV : Nat → Nat) (Y : Nat → Prop) (ik : Int32) (vs kvs : VS) (tl : List Nat) (T : List (ClassId × FieldType)) (h0 : Nat) (X : va_W) (x : Int32) (y : Int32) (z : Int32) (sz : Nat) : Met l yX11_heap wsX11_heap ({ frames := 5, cells := 1, slots := 4, locals := 107 } : Room) (va_Pc [.ref h0, .int x, .int y, .int z] (fun U => U.heap.size = sz ∧ XI dC dI ad bS Y ik vs kvs tl T h0 X U.heap ∧ va_K (dC, dI) vwCl T U ∧ (∀ c ∈ X, ¬ Y c.1) ∧ (∀ q, sz ≤ q → ¬ Y q) ∧ GA gd kA ad cB bS sK sV (va_A X sz) U)) (va_Qi (fun (r : Int32) (u : Int32 × VS × VS × List Nat) => r = hpR (vs.1) (vs.2.2.2.2.2.2.2.1) x y z ∧ u = (ik, hpF vs x y z, kvs, tl)) (fun (u : Int32 × VS × VS × List Nat) (t : State) => ∃ (X1 : va_W) (T1 : List (ClassId × FieldType)), XI dC dI ad bS Y u.1 u.2.1 u.2.2.1 u.2.2.2 T1 h0 X1 t.heap ∧ va_D (va_A X sz) X1 ∧ ∀ p ∈ T1, p ∈ T ∨ va_K (dC, dI) vwCl [p] t) (va_A X sz)) 1 4 (va_A X sz) := by
  refine met_wrap (fun args s hPc => ?_)
  obtain ⟨rfl, rfl, hXI, hK, hY1, hY2, hGA⟩ := hPc
  have hXI0 := hXI
  refine hXI _ (fun sc kp bl go ch bo aTp ts aHl nh ee mi sn aHs n aWk wz aBk bz aFc cTp fTp cHs fHs cWk fWk cBk fBk cFc fFc kTp kts kHl knh kee kmi ksn kHs kn kWk kwz kBk kbz kFc kcTp kfTp kcHs kfHs kcWk kfWk kcBk kfBk kcFc kfFc esg ecl eW eA eE eC cdd etv szz att em ceW feW ceA feA ceE feE ceC feC gR gO lk gS cR fR cO fO i0 scl ft fr dr tO hO cD fD cTO rt cT ft0 ft1 ft2 cHO rh cH g0 g1 g2 g3 g4 g5 g6 g7 sg cl bW bA bE bC hcd tpv hsz hat nmb cbW fbW cbA fbA cbE fbE cbC fbC ksg kcl kbW kbA kbE kbC khcd ktpv khsz khat knmb kcbW kfbW kcbA kfbA kcbE kfbE kcbC kfbC yi ya yk yv yc kyi kya kyk kyv kyc tc ktc hC khC LB hX hLB hP hD hTF hTH hTK hq1 hq2 hlk hq3 hq4 hq5 hZ hZk hHs hHk hvs hkv => ?_)
  subst hvs
  subst hkv
  obtain ⟨oTs, oNh, oN, oWz, oBz, oHs, oHn, oYk, oYv, oWk, oBk, oYt, oTx, oEe, oMi, oYc⟩ := hq1
  obtain ⟨koTs, koNh, koN, koWz, koBz, koHs, koHn, koYk, koYv, koWk, koBk, koYt, koTx, koEe, koMi, koYc⟩ := hq2
  obtain ⟨zcl, zE, zC, zH⟩ := hq3
  obtain ⟨kzcl, kzE, kzC, kzH⟩ := hq4
  obtain ⟨hcl, hem, zeE, zeC⟩ := hq5
  subst hX
  have hwc := bl_mem (G := [(zo13rrirrrr h0 sc kp ik bl go ch bo), (zo10ririliiriririr sc aTp (nI ts) aHl (nI nh) (lN ee) mi sn aHs (nI n) aWk (nI wz) aBk (nI bz) aFc), (zaI aTp cTp 100 fTp), (zaR aHs cHs 8 fHs), (zaI aWk cWk 6 fWk), (zaI aBk cBk 12 fBk), (zaI aFc cFc 6 fFc), (zo10ririliiriririr kp kTp (nI kts) kHl (nI knh) (lN kee) kmi ksn kHs (nI kn) kWk (nI kwz) kBk (nI kbz) kFc), (zaI kTp kcTp 100 kfTp), (zaR kHs kcHs 8 kfHs), (zaI kWk kcWk 6 kfWk), (zaI kBk kcBk 12 kfBk), (zaI kFc kcFc 6 kfFc), (zo7iirrrriviii bl esg (nI ecl) eW eA eE eC cdd etv szz att (nI em)), (zaI eW ceW 10 feW), (zaI eA ceA 10 feA), (zaI eE ceE 10 feE), (zaI eC ceC 100 feC), (zo4rrir go gR gO (nI lk) gS), (zaI gR cR 8 fR), (zaI gO cO 8 fO), (zo5iiii gS 0 (nI i0) 0 scl), (zo2lirrr ch ft fr dr tO hO), (zaI dr cD 36 fD), (zaR tO cTO 3 (fun i => if i < 3 then some (rt i) else none)), (zaL (rt 0) cT 36 ft0), (zaL (rt 1) cT 36 ft1), (zaL (rt 2) cT 36 ft2), (zaR hO cHO 8 (fun i => if i < 8 then some (rh i) else none)), (zaI (rh 0) cH 36 g0), (zaI (rh 1) cH 36 g1), (zaI (rh 2) cH 36 g2), (zaI (rh 3) cH 36 g3), (zaI (rh 4) cH 36 g4), (zaI (rh 5) cH 36 g5), (zaI (rh 6) cH 36 g6), (zaI (rh 7) cH 36 g7)]) (F := [(zo13rrirrrr h0 sc kp ik bl go ch bo), (zo10ririliiriririr sc aTp (nI ts) aHl (nI nh) (lN ee) mi sn aHs (nI n) aWk (nI wz) aBk (nI bz) aFc), (zaR aHs cHs 8 fHs)]) (T := LB) [0, 1, 3] rfl
  have hPc := bl_sub (F := [(zo13rrirrrr h0 sc kp ik bl go ch bo), (zo10ririliiriririr sc aTp (nI ts) aHl (nI nh) (lN ee) mi sn aHs (nI n) aWk (nI wz) aBk (nI bz) aFc), (zaR aHs cHs 8 fHs)]) hP [0, 1, 3] rfl
  refine ⟨_, _, _, c_xHeap l dC dI bS h0 sc kp bl go ch bo aTp aHl aHs aWk aBk aFc ts nh n wz bz mi sn ik x y z (lN ee) cHs yk yv yc fHs yi ya s.heap.size oHs oN, ⟨rfl, rfl, hPc, (K_mem hK hTF).sub [1] rfl, bl_Dsub hD [0, 1, 3] (by decide) rfl, hGA.2.2.2.2.2.1.call va_S.rf rfl (State.WarmedH.refl s) (bl_A hwc), hHs.at (K_mem hK (fun _ q => absurd q List.not_mem_nil)) hwc⟩, fun o t hQ => ?_, fun q hq => bl_A hwc q hq⟩
  obtain ⟨⟨r, u9, rfl, hpost, hB⟩, hz, hkp⟩ := hQ
  obtain ⟨n9, fHs9, L9, K9⟩ := u9
  try dsimp only at hpost hB
  obtain ⟨hP1, hK1, hD1⟩ := hB
  obtain ⟨hr9, hpost⟩ := hpost
  rcases hpost with ⟨hlt, e1, e2, e3, e4⟩ | ⟨hge, h8, e1, e4, ci, qn, kk, jv, jc, e3, hci, e2, hk7, hv9, hc36, ex, ey, ez⟩
  · skip
    obtain rfl := e1.symm
    obtain rfl := e2.symm
    subst e3
    have hJ := bl_gen (F' := [(zo13rrirrrr h0 sc kp ik bl go ch bo), (zo10ririliiriririr sc aTp (nI ts) aHl (nI nh) (lN ee) mi sn aHs (nI n) aWk (nI wz) aBk (nI bz) aFc), (zaI aTp cTp 100 fTp), (zaR aHs cHs 8 fHs), (zaI aWk cWk 6 fWk), (zaI aBk cBk 12 fBk), (zaI aFc cFc 6 fFc), (zo10ririliiriririr kp kTp (nI kts) kHl (nI knh) (lN kee) kmi ksn kHs (nI kn) kWk (nI kwz) kBk (nI kbz) kFc), (zaI kTp kcTp 100 kfTp), (zaR kHs kcHs 8 kfHs), (zaI kWk kcWk 6 kfWk), (zaI kBk kcBk 12 kfBk), (zaI kFc kcFc 6 kfFc), (zo7iirrrriviii bl esg (nI ecl) eW eA eE eC cdd etv szz att (nI em)), (zaI eW ceW 10 feW), (zaI eA ceA 10 feA), (zaI eE ceE 10 feE), (zaI eC ceC 100 feC), (zo4rrir go gR gO (nI lk) gS), (zaI gR cR 8 fR), (zaI gO cO 8 fO), (zo5iiii gS 0 (nI i0) 0 scl), (zo2lirrr ch ft fr dr tO hO), (zaI dr cD 36 fD), (zaR tO cTO 3 (fun i => if i < 3 then some (rt i) else none)), (zaL (rt 0) cT 36 ft0), (zaL (rt 1) cT 36 ft1), (zaL (rt 2) cT 36 ft2), (zaR hO cHO 8 (fun i => if i < 8 then some (rh i) else none)), (zaI (rh 0) cH 36 g0), (zaI (rh 1) cH 36 g1), (zaI (rh 2) cH 36 g2), (zaI (rh 3) cH 36 g3), (zaI (rh 4) cH 36 g4), (zaI (rh 5) cH 36 g5), (zaI (rh 6) cH 36 g6), (zaI (rh 7) cH 36 g7)]) hP hD [0, 1, 3] rfl hkp hP1 hD1 [some 0, some 1, none, some 2, none, none, none, none, none, none, none, none, none, none, none, none, none, none, none, none, none, none, none, none, none, none, none, none, none, none, none, none, none, none, none, none, none] [0, 1, 3] rfl (Or.inl rfl) rfl
    have hX := D_mem hJ.2
    exact ⟨⟨r, (ik, (n, wz, bz, mi, sn, yk, yv, yc, nh, ts, tc, hC, ee), (kn, kwz, kbz, kmi, ksn, kyk, kyv, kyc, knh, kts, ktc, khC, kee), tl), rfl, ⟨hr9, u_eq (hpF_no (hp_lt hr9 hlt))⟩, _, T, (fun M9 k9 => k9 sc kp bl go ch bo aTp ts aHl nh ee mi sn aHs n aWk wz aBk bz aFc cTp fTp cHs fHs cWk fWk cBk fBk cFc fFc kTp kts kHl knh kee kmi ksn kHs kn kWk kwz kBk kbz kFc kcTp kfTp kcHs kfHs kcWk kfWk kcBk kfBk kcFc kfFc esg ecl eW eA eE eC cdd etv szz att em ceW feW ceA feA ceE feE ceC feC gR gO lk gS cR fR cO fO i0 scl ft fr dr tO hO cD fD cTO rt cT ft0 ft1 ft2 cHO rh cH g0 g1 g2 g3 g4 g5 g6 g7 sg cl bW bA bE bC hcd tpv hsz hat nmb cbW fbW cbA fbA cbE fbE cbC fbC ksg kcl kbW kbA kbE kbC khcd ktpv khsz khat knmb kcbW kfbW kcbA kfbA kcbE kfbE kcbC kfbC yi ya yk yv yc kyi kya kyk kyv kyc tc ktc hC khC LB rfl (hLB) hJ.1 ⟨hJ.2.1, fun _ _ _ => trivial⟩ (hTF) (hTH) (hTK) ⟨oTs, oNh, oN, oWz, oBz, oHs, oHn, oYk, oYv, oWk, oBk, oYt, oTx, oEe, oMi, oYc⟩ ⟨koTs, koNh, koN, koWz, koBz, koHs, koHn, koYk, koYv, koWk, koBk, koYt, koTx, koEe, koMi, koYc⟩ (hlk) ⟨zcl, zE, zC, zH⟩ ⟨kzcl, kzE, kzC, kzH⟩ ⟨hcl, hem, zeE, zeC⟩ (hZ.kept hkp hwc hX) (hZk.kept hkp hwc hX) (hHs.kept hkp hwc hX) (hHk.kept hkp hwc hX) rfl rfl), hJ.2, fun p hp => Or.inl hp⟩, hz, fun q h1 h2 => hkp q h1 (fun h => h2 (bl_A hwc _ h))⟩
  · skip
    subst e1
    subst e2
    subst e3
    subst ex
    subst ey
    subst ez
    have hnew := bl_fz (F' := [(zo13rrirrrr h0 sc kp ik bl go ch bo), (zo10ririliiriririr sc aTp (nI ts) aHl (nI nh) (lN ee) mi sn aHs (nI (n + 1)) aWk (nI wz) aBk (nI bz) aFc), (zaI aTp cTp 100 fTp), (zaR aHs cHs 8 (va_up fHs n (some qn))), (zaI aWk cWk 6 fWk), (zaI aBk cBk 12 fBk), (zaI aFc cFc 6 fFc), (zo10ririliiriririr kp kTp (nI kts) kHl (nI knh) (lN kee) kmi ksn kHs (nI kn) kWk (nI kwz) kBk (nI kbz) kFc), (zaI kTp kcTp 100 kfTp), (zaR kHs kcHs 8 kfHs), (zaI kWk kcWk 6 kfWk), (zaI kBk kcBk 12 kfBk), (zaI kFc kcFc 6 kfFc), (zo7iirrrriviii bl esg (nI ecl) eW eA eE eC cdd etv szz att (nI em)), (zaI eW ceW 10 feW), (zaI eA ceA 10 feA), (zaI eE ceE 10 feE), (zaI eC ceC 100 feC), (zo4rrir go gR gO (nI lk) gS), (zaI gR cR 8 fR), (zaI gO cO 8 fO), (zo5iiii gS 0 (nI i0) 0 scl), (zo2lirrr ch ft fr dr tO hO), (zaI dr cD 36 fD), (zaR tO cTO 3 (fun i => if i < 3 then some (rt i) else none)), (zaL (rt 0) cT 36 ft0), (zaL (rt 1) cT 36 ft1), (zaL (rt 2) cT 36 ft2), (zaR hO cHO 8 (fun i => if i < 8 then some (rh i) else none)), (zaI (rh 0) cH 36 g0), (zaI (rh 1) cH 36 g1), (zaI (rh 2) cH 36 g2), (zaI (rh 3) cH 36 g3), (zaI (rh 4) cH 36 g4), (zaI (rh 5) cH 36 g5), (zaI (rh 6) cH 36 g6), (zaI (rh 7) cH 36 g7)]) (ws := [(qn, .inr (ci, [.int (nI kk), .int (nI n), .int (nI jv), .int (nI jc)]))]) hP hD [0, 1, 3] rfl hP1 hD1 [some 0, some 1, none, some 2, none, none, none, none, none, none, none, none, none, none, none, none, none, none, none, none, none, none, none, none, none, none, none, none, none, none, none, none, none, none, none, none, none] [0, 1, 3] rfl (Or.inl rfl) rfl hY1 hY2 [3] rfl rfl
    have hJ := bl_gen (F' := [(zo13rrirrrr h0 sc kp ik bl go ch bo), (zo10ririliiriririr sc aTp (nI ts) aHl (nI nh) (lN ee) mi sn aHs (nI (n + 1)) aWk (nI wz) aBk (nI bz) aFc), (zaI aTp cTp 100 fTp), (zaR aHs cHs 8 (va_up fHs n (some qn))), (zaI aWk cWk 6 fWk), (zaI aBk cBk 12 fBk), (zaI aFc cFc 6 fFc), (zo10ririliiriririr kp kTp (nI kts) kHl (nI knh) (lN kee) kmi ksn kHs (nI kn) kWk (nI kwz) kBk (nI kbz) kFc), (zaI kTp kcTp 100 kfTp), (zaR kHs kcHs 8 kfHs), (zaI kWk kcWk 6 kfWk), (zaI kBk kcBk 12 kfBk), (zaI kFc kcFc 6 kfFc), (zo7iirrrriviii bl esg (nI ecl) eW eA eE eC cdd etv szz att (nI em)), (zaI eW ceW 10 feW), (zaI eA ceA 10 feA), (zaI eE ceE 10 feE), (zaI eC ceC 100 feC), (zo4rrir go gR gO (nI lk) gS), (zaI gR cR 8 fR), (zaI gO cO 8 fO), (zo5iiii gS 0 (nI i0) 0 scl), (zo2lirrr ch ft fr dr tO hO), (zaI dr cD 36 fD), (zaR tO cTO 3 (fun i => if i < 3 then some (rt i) else none)), (zaL (rt 0) cT 36 ft0), (zaL (rt 1) cT 36 ft1), (zaL (rt 2) cT 36 ft2), (zaR hO cHO 8 (fun i => if i < 8 then some (rh i) else none)), (zaI (rh 0) cH 36 g0), (zaI (rh 1) cH 36 g1), (zaI (rh 2) cH 36 g2), (zaI (rh 3) cH 36 g3), (zaI (rh 4) cH 36 g4), (zaI (rh 5) cH 36 g5), (zaI (rh 6) cH 36 g6), (zaI (rh 7) cH 36 g7)]) hP hD [0, 1, 3] rfl hkp hP1 hD1 [some 0, some 1, none, some 2, none, none, none, none, none, none, none, none, none, none, none, none, none, none, none, none, none, none, none, none, none, none, none, none, none, none, none, none, none, none, none, none, none] [0, 1, 3] rfl (Or.inl rfl) rfl
    have hX := D_mem hJ.2
    exact ⟨⟨r, (ik, (n + 1, wz, bz, mi, sn, (fun k => if k = n then nI kk else yk k), (fun k => if k = n then nI jv else yv k), (fun k => if k = n then nI jc else yc k), nh, ts, tc, hC, ee), (kn, kwz, kbz, kmi, ksn, kyk, kyv, kyc, knh, kts, ktc, khC, kee), tl), rfl, ⟨hr9, u_eq (hpF_yes (hp_ge hr9 hge))⟩, _, T, (fun M9 k9 => k9 sc kp bl go ch bo aTp ts aHl nh ee mi sn aHs (n + 1) aWk wz aBk bz aFc cTp fTp cHs (va_up fHs n (some qn)) cWk fWk cBk fBk cFc fFc kTp kts kHl knh kee kmi ksn kHs kn kWk kwz kBk kbz kFc kcTp kfTp kcHs kfHs kcWk kfWk kcBk kfBk kcFc kfFc esg ecl eW eA eE eC cdd etv szz att em ceW feW ceA feA ceE feE ceC feC gR gO lk gS cR fR cO fO i0 scl ft fr dr tO hO cD fD cTO rt cT ft0 ft1 ft2 cHO rh cH g0 g1 g2 g3 g4 g5 g6 g7 sg cl bW bA bE bC hcd tpv hsz hat nmb cbW fbW cbA fbA cbE fbE cbC fbC ksg kcl kbW kbA kbE kbC khcd ktpv khsz khat knmb kcbW kfbW kcbA kfbA kcbE kfbE kcbC kfbC ((fun k => if k = n then ci else yi k)) ((fun k => if k = n then qn else ya k)) ((fun k => if k = n then nI kk else yk k)) ((fun k => if k = n then nI jv else yv k)) ((fun k => if k = n then nI jc else yc k)) kyi kya kyk kyv kyc tc ktc hC khC LB rfl (hLB) hJ.1 ⟨hJ.2.1, fun _ _ _ => trivial⟩ (hTF) (hTH) (hTK) ⟨oTs, oNh, by omega, oWz, oBz, up_hs oHs, up_hn oHn, up_yk oYk hk7, up_yv oYv hv9, oWk, oBk, up_yt oYt hci.2, oTx, oEe, oMi, up_yk oYc hc36⟩ ⟨koTs, koNh, koN, koWz, koBz, koHs, koHn, koYk, koYv, koWk, koBk, koYt, koTx, koEe, koMi, koYc⟩ (hlk) ⟨zcl, zE, zC, zH⟩ ⟨kzcl, kzE, kzC, kzH⟩ ⟨hcl, hem, zeE, zeC⟩ (hZ.kept hkp hwc hX) (hZk.kept hkp hwc hX) (hs_add (hHs.kept hkp hwc hX) hci.1 hnew) (hHk.kept hkp hwc hX) rfl rfl), hJ.2, fun p hp => Or.inl hp⟩, hz, fun q h1 h2 => hkp q h1 (fun h => h2 (bl_A hwc _ h))⟩

theorem okLB.mono {ad : Nat → Nat} {bS bo : Nat} {T T1 : List (ClassId × FieldType)} {LB : va_W} {tl : List Nat} (h : okLB ad bS bo T LB tl) (hT : ∀ p ∈ T, p ∈ T1) : okLB ad bS bo T1 LB tl := by
  rcases h with h | ⟨mdc, aEl, cEl, sz_, fEl, h1, h2, h3⟩
  · exact Or.inl h
  · exact Or.inr ⟨mdc, aEl, cEl, sz_, fEl, h1, hT _ h2, h3⟩

set_option maxHeartbeats 4000000 in
set_option maxRecDepth 100000 in
theorem w_hill (l : Launch) (dC : Nat → ClassId) (dI : Nat → Nat → Nat) (gd : Nat → Nat) (kA : Nat) (ad : Nat → Nat) (cB bS : Nat) (sK sV : Nat → Nat) (Y : Nat → Prop) (ik : Int32) (vs kvs : VS) (tl : List Nat) (T : List (ClassId × FieldType)) (h0 : Nat) (X : va_W)  (sz : Nat) : Met l yX11_hill wsX11_hill ({ frames := 24, cells := 5, slots := 141, locals := 533 } : Room) (va_Pc [.ref h0] (fun U => U.heap.size = sz ∧ XI dC dI ad bS Y ik vs kvs tl T h0 X U.heap ∧ va_K (dC, dI) vwCl T U ∧ (∀ c ∈ X, ¬ Y c.1) ∧ (∀ q, sz ≤ q → ¬ Y q) ∧ GA gd kA ad cB bS sK sV (va_A X sz) U)) (va_Qi (fun (r : Int32) (u : Int32 × VS × VS × List Nat) => r = hlR (vs.2.2.2.2.2.2.2.2.1) (vs.2.2.2.2.2.2.2.2.2.1) (vs.2.2.2.2.2.2.2.2.2.2.1) ∧ u = (ik, hlF vs, kvs, tl)) (fun (u : Int32 × VS × VS × List Nat) (t : State) => ∃ (X1 : va_W) (T1 : List (ClassId × FieldType)), XI dC dI ad bS Y u.1 u.2.1 u.2.2.1 u.2.2.2 T1 h0 X1 t.heap ∧ va_D (va_A X sz) X1 ∧ ∀ p ∈ T1, p ∈ T ∨ va_K (dC, dI) vwCl [p] t) (va_A X sz)) 5 141 (va_A X sz) := by
  refine met_wrap (fun args s hPc => ?_)
  obtain ⟨rfl, rfl, hXI, hK, hY1, hY2, hGA⟩ := hPc
  have hXI0 := hXI
  refine hXI _ (fun sc kp bl go ch bo aTp ts aHl nh ee mi sn aHs n aWk wz aBk bz aFc cTp fTp cHs fHs cWk fWk cBk fBk cFc fFc kTp kts kHl knh kee kmi ksn kHs kn kWk kwz kBk kbz kFc kcTp kfTp kcHs kfHs kcWk kfWk kcBk kfBk kcFc kfFc esg ecl eW eA eE eC cdd etv szz att em ceW feW ceA feA ceE feE ceC feC gR gO lk gS cR fR cO fO i0 scl ft fr dr tO hO cD fD cTO rt cT ft0 ft1 ft2 cHO rh cH g0 g1 g2 g3 g4 g5 g6 g7 sg cl bW bA bE bC hcd tpv hsz hat nmb cbW fbW cbA fbA cbE fbE cbC fbC ksg kcl kbW kbA kbE kbC khcd ktpv khsz khat knmb kcbW kfbW kcbA kfbA kcbE kfbE kcbC kfbC yi ya yk yv yc kyi kya kyk kyv kyc tc ktc hC khC LB hX hLB hP hD hTF hTH hTK hq1 hq2 hlk hq3 hq4 hq5 hZ hZk hHs hHk hvs hkv => ?_)
  subst hvs
  subst hkv
  obtain ⟨oTs, oNh, oN, oWz, oBz, oHs, oHn, oYk, oYv, oWk, oBk, oYt, oTx, oEe, oMi, oYc⟩ := hq1
  obtain ⟨koTs, koNh, koN, koWz, koBz, koHs, koHn, koYk, koYv, koWk, koBk, koYt, koTx, koEe, koMi, koYc⟩ := hq2
  obtain ⟨zcl, zE, zC, zH⟩ := hq3
  obtain ⟨kzcl, kzE, kzC, kzH⟩ := hq4
  obtain ⟨hcl, hem, zeE, zeC⟩ := hq5
  subst hX
  have hwc := bl_mem (G := [(zo13rrirrrr h0 sc kp ik bl go ch bo), (zo10ririliiriririr sc aTp (nI ts) aHl (nI nh) (lN ee) mi sn aHs (nI n) aWk (nI wz) aBk (nI bz) aFc), (zaI aTp cTp 100 fTp), (zaR aHs cHs 8 fHs), (zaI aWk cWk 6 fWk), (zaI aBk cBk 12 fBk), (zaI aFc cFc 6 fFc), (zo10ririliiriririr kp kTp (nI kts) kHl (nI knh) (lN kee) kmi ksn kHs (nI kn) kWk (nI kwz) kBk (nI kbz) kFc), (zaI kTp kcTp 100 kfTp), (zaR kHs kcHs 8 kfHs), (zaI kWk kcWk 6 kfWk), (zaI kBk kcBk 12 kfBk), (zaI kFc kcFc 6 kfFc), (zo7iirrrriviii bl esg (nI ecl) eW eA eE eC cdd etv szz att (nI em)), (zaI eW ceW 10 feW), (zaI eA ceA 10 feA), (zaI eE ceE 10 feE), (zaI eC ceC 100 feC), (zo4rrir go gR gO (nI lk) gS), (zaI gR cR 8 fR), (zaI gO cO 8 fO), (zo5iiii gS 0 (nI i0) 0 scl), (zo2lirrr ch ft fr dr tO hO), (zaI dr cD 36 fD), (zaR tO cTO 3 (fun i => if i < 3 then some (rt i) else none)), (zaL (rt 0) cT 36 ft0), (zaL (rt 1) cT 36 ft1), (zaL (rt 2) cT 36 ft2), (zaR hO cHO 8 (fun i => if i < 8 then some (rh i) else none)), (zaI (rh 0) cH 36 g0), (zaI (rh 1) cH 36 g1), (zaI (rh 2) cH 36 g2), (zaI (rh 3) cH 36 g3), (zaI (rh 4) cH 36 g4), (zaI (rh 5) cH 36 g5), (zaI (rh 6) cH 36 g6), (zaI (rh 7) cH 36 g7)]) (F := [(zo13rrirrrr h0 sc kp ik bl go ch bo), (zo10ririliiriririr sc aTp (nI ts) aHl (nI nh) (lN ee) mi sn aHs (nI n) aWk (nI wz) aBk (nI bz) aFc), (zaI aTp cTp 100 fTp), (zo7iirrrriviii bl esg (nI ecl) eW eA eE eC cdd etv szz att (nI em)), (zaI eW ceW 10 feW), (zaI eA ceA 10 feA), (zaI eE ceE 10 feE), (zaI eC ceC 100 feC)]) (T := LB) [0, 1, 2, 13, 14, 15, 16, 17] rfl
  have hPc := bl_sub (F := [(zo13rrirrrr h0 sc kp ik bl go ch bo), (zo10ririliiriririr sc aTp (nI ts) aHl (nI nh) (lN ee) mi sn aHs (nI n) aWk (nI wz) aBk (nI bz) aFc), (zaI aTp cTp 100 fTp), (zo7iirrrriviii bl esg (nI ecl) eW eA eE eC cdd etv szz att (nI em)), (zaI eW ceW 10 feW), (zaI eA ceA 10 feA), (zaI eE ceE 10 feE), (zaI eC ceC 100 feC)]) hP [0, 1, 2, 13, 14, 15, 16, 17] rfl
  refine ⟨_, _, _, c_xHill l dC dI sK sV h0 sc kp bl go ch bo aTp aHl aHs aWk aBk aFc eW eA eE eC ts nh n wz bz ecl mi sn cdd szz att ik esg (lN ee) cTp ceW ceA ceE ceC fTp feW feA feE feC etv em tc s.heap.size oNh oTs hcl hem zeE zeC oTx, ⟨rfl, rfl, hPc, (K_mem hK hTF).sub [0, 10, 11, 12, 13] rfl, bl_Dsub hD [0, 1, 2, 13, 14, 15, 16, 17] (by decide) rfl, hGA.2.2.2.2.2.2.call va_S.rf rfl (State.WarmedH.refl s) (bl_A hwc)⟩, fun o t hQ => ?_, fun q hq => bl_A hwc q hq⟩
  obtain ⟨⟨r, u9, rfl, hpost, hB⟩, hz, hkp⟩ := hQ
  obtain ⟨bl9, ts9, aHl9, nh9, L9, K9⟩ := u9
  try dsimp only at hpost hB
  obtain ⟨hP1, hK1, hD1⟩ := hB
  obtain ⟨hn5, ht9, esg7, ecl7, cdd7, etv7, szz7, att7, em7, feW7, feA7, feE7, feC7, hc7, v1_, v2_, v3_, v4_⟩ := hpost
  rcases hc7 with ⟨e1, e2, e3, e4, e5, hres⟩ | ⟨e2, e3, ⟨hlt5, e6, er, C0, eC0, hC0⟩, qW, qA, qE, qC, cqW, cqA, cqE, cqC, e4, e5⟩
  · skip
    obtain rfl := e1.symm
    obtain rfl := e2.symm
    obtain rfl := e3.symm
    subst e4
    subst e5
    rcases hres with ⟨h5, er, e6⟩ | ⟨h5, e6, q0, er, eC0⟩
    · skip
      obtain rfl := e6.symm
      have hJ := bl_gen (F' := [(zo13rrirrrr h0 sc kp ik bl go ch bo), (zo10ririliiriririr sc aTp (nI ts) aHl (nI nh) (lN ee) mi sn aHs (nI n) aWk (nI wz) aBk (nI bz) aFc), (zaI aTp cTp 100 fTp), (zaR aHs cHs 8 fHs), (zaI aWk cWk 6 fWk), (zaI aBk cBk 12 fBk), (zaI aFc cFc 6 fFc), (zo10ririliiriririr kp kTp (nI kts) kHl (nI knh) (lN kee) kmi ksn kHs (nI kn) kWk (nI kwz) kBk (nI kbz) kFc), (zaI kTp kcTp 100 kfTp), (zaR kHs kcHs 8 kfHs), (zaI kWk kcWk 6 kfWk), (zaI kBk kcBk 12 kfBk), (zaI kFc kcFc 6 kfFc), (zo7iirrrriviii bl esg7 (nI ecl7) eW eA eE eC cdd7 etv7 szz7 att7 (nI em7)), (zaI eW ceW 10 feW7), (zaI eA ceA 10 feA7), (zaI eE ceE 10 feE7), (zaI eC ceC 100 feC7), (zo4rrir go gR gO (nI lk) gS), (zaI gR cR 8 fR), (zaI gO cO 8 fO), (zo5iiii gS 0 (nI i0) 0 scl), (zo2lirrr ch ft fr dr tO hO), (zaI dr cD 36 fD), (zaR tO cTO 3 (fun i => if i < 3 then some (rt i) else none)), (zaL (rt 0) cT 36 ft0), (zaL (rt 1) cT 36 ft1), (zaL (rt 2) cT 36 ft2), (zaR hO cHO 8 (fun i => if i < 8 then some (rh i) else none)), (zaI (rh 0) cH 36 g0), (zaI (rh 1) cH 36 g1), (zaI (rh 2) cH 36 g2), (zaI (rh 3) cH 36 g3), (zaI (rh 4) cH 36 g4), (zaI (rh 5) cH 36 g5), (zaI (rh 6) cH 36 g6), (zaI (rh 7) cH 36 g7)]) hP hD [0, 1, 2, 13, 14, 15, 16, 17] rfl hkp hP1 hD1 [some 0, some 1, some 2, none, none, none, none, none, none, none, none, none, none, some 3, some 4, some 5, some 6, some 7, none, none, none, none, none, none, none, none, none, none, none, none, none, none, none, none, none, none, none] [0, 1, 2, 13, 14, 15, 16, 17] rfl (Or.inl rfl) rfl
      have hX := D_mem hJ.2
      exact ⟨⟨r, (ik, (n, wz, bz, mi, sn, yk, yv, yc, nh, ts, tc, hC, ee), (kn, kwz, kbz, kmi, ksn, kyk, kyv, kyc, knh, kts, ktc, khC, kee), tl), rfl, ⟨er.trans (hlR_5 h5), u_eq (hlF_5 h5)⟩, _, T, (fun M9 k9 => k9 sc kp bl go ch bo aTp ts aHl nh ee mi sn aHs n aWk wz aBk bz aFc cTp fTp cHs fHs cWk fWk cBk fBk cFc fFc kTp kts kHl knh kee kmi ksn kHs kn kWk kwz kBk kbz kFc kcTp kfTp kcHs kfHs kcWk kfWk kcBk kfBk kcFc kfFc (esg7) (ecl7) eW eA eE eC (cdd7) (etv7) (szz7) (att7) (em7) ceW (feW7) ceA (feA7) ceE (feE7) ceC (feC7) gR gO lk gS cR fR cO fO i0 scl ft fr dr tO hO cD fD cTO rt cT ft0 ft1 ft2 cHO rh cH g0 g1 g2 g3 g4 g5 g6 g7 sg cl bW bA bE bC hcd tpv hsz hat nmb cbW fbW cbA fbA cbE fbE cbC fbC ksg kcl kbW kbA kbE kbC khcd ktpv khsz khat knmb kcbW kfbW kcbA kfbA kcbE kfbE kcbC kfbC yi ya yk yv yc kyi kya kyk kyv kyc tc ktc hC khC LB rfl (hLB) hJ.1 ⟨hJ.2.1, fun _ _ _ => trivial⟩ (hTF) (hTH) (hTK) ⟨oTs, oNh, oN, oWz, oBz, oHs, oHn, oYk, oYv, oWk, oBk, oYt, oTx, oEe, oMi, oYc⟩ ⟨koTs, koNh, koN, koWz, koBz, koHs, koHn, koYk, koYv, koWk, koBk, koYt, koTx, koEe, koMi, koYc⟩ (hlk) ⟨zcl, zE, zC, zH⟩ ⟨kzcl, kzE, kzC, kzH⟩ ⟨v1_, v2_, v3_, v4_⟩ (hZ.kept hkp hwc hX) (hZk.kept hkp hwc hX) (hHs.kept hkp hwc hX) (hHk.kept hkp hwc hX) rfl rfl), hJ.2, fun p hp => Or.inl hp⟩, hz, fun q h1 h2 => hkp q h1 (fun h => h2 (bl_A hwc _ h))⟩
    · skip
      subst e6
      have hJ := bl_gen (F' := [(zo13rrirrrr h0 sc kp ik bl go ch bo), (zo10ririliiriririr sc aTp (nI 0) aHl (nI nh) (lN ee) mi sn aHs (nI n) aWk (nI wz) aBk (nI bz) aFc), (zaI aTp cTp 100 fTp), (zaR aHs cHs 8 fHs), (zaI aWk cWk 6 fWk), (zaI aBk cBk 12 fBk), (zaI aFc cFc 6 fFc), (zo10ririliiriririr kp kTp (nI kts) kHl (nI knh) (lN kee) kmi ksn kHs (nI kn) kWk (nI kwz) kBk (nI kbz) kFc), (zaI kTp kcTp 100 kfTp), (zaR kHs kcHs 8 kfHs), (zaI kWk kcWk 6 kfWk), (zaI kBk kcBk 12 kfBk), (zaI kFc kcFc 6 kfFc), (zo7iirrrriviii bl esg7 (nI ecl7) eW eA eE eC cdd7 etv7 szz7 att7 (nI em7)), (zaI eW ceW 10 feW7), (zaI eA ceA 10 feA7), (zaI eE ceE 10 feE7), (zaI eC ceC 100 feC7), (zo4rrir go gR gO (nI lk) gS), (zaI gR cR 8 fR), (zaI gO cO 8 fO), (zo5iiii gS 0 (nI i0) 0 scl), (zo2lirrr ch ft fr dr tO hO), (zaI dr cD 36 fD), (zaR tO cTO 3 (fun i => if i < 3 then some (rt i) else none)), (zaL (rt 0) cT 36 ft0), (zaL (rt 1) cT 36 ft1), (zaL (rt 2) cT 36 ft2), (zaR hO cHO 8 (fun i => if i < 8 then some (rh i) else none)), (zaI (rh 0) cH 36 g0), (zaI (rh 1) cH 36 g1), (zaI (rh 2) cH 36 g2), (zaI (rh 3) cH 36 g3), (zaI (rh 4) cH 36 g4), (zaI (rh 5) cH 36 g5), (zaI (rh 6) cH 36 g6), (zaI (rh 7) cH 36 g7)]) hP hD [0, 1, 2, 13, 14, 15, 16, 17] rfl hkp hP1 hD1 [some 0, some 1, some 2, none, none, none, none, none, none, none, none, none, none, some 3, some 4, some 5, some 6, some 7, none, none, none, none, none, none, none, none, none, none, none, none, none, none, none, none, none, none, none] [0, 1, 2, 13, 14, 15, 16, 17] rfl (Or.inl rfl) rfl
      have hX := D_mem hJ.2
      exact ⟨⟨r, (ik, (n, wz, bz, mi, sn, yk, yv, yc, nh, 0, (fun _ => 0), hC, ee), (kn, kwz, kbz, kmi, ksn, kyk, kyv, kyc, knh, kts, ktc, khC, kee), tl), rfl, ⟨er.trans (hlR_b (show ¬ nh = 5 by omega) eC0), u_eq (hlF_b (show ¬ nh = 5 by omega) eC0)⟩, _, T, (fun M9 k9 => k9 sc kp bl go ch bo aTp (0) aHl nh ee mi sn aHs n aWk wz aBk bz aFc cTp fTp cHs fHs cWk fWk cBk fBk cFc fFc kTp kts kHl knh kee kmi ksn kHs kn kWk kwz kBk kbz kFc kcTp kfTp kcHs kfHs kcWk kfWk kcBk kfBk kcFc kfFc (esg7) (ecl7) eW eA eE eC (cdd7) (etv7) (szz7) (att7) (em7) ceW (feW7) ceA (feA7) ceE (feE7) ceC (feC7) gR gO lk gS cR fR cO fO i0 scl ft fr dr tO hO cD fD cTO rt cT ft0 ft1 ft2 cHO rh cH g0 g1 g2 g3 g4 g5 g6 g7 sg cl bW bA bE bC hcd tpv hsz hat nmb cbW fbW cbA fbA cbE fbE cbC fbC ksg kcl kbW kbA kbE kbC khcd ktpv khsz khat knmb kcbW kfbW kcbA kfbA kcbE kfbE kcbC kfbC yi ya yk yv yc kyi kya kyk kyv kyc ((fun _ => 0)) ktc hC khC LB rfl (hLB) hJ.1 ⟨hJ.2.1, fun _ _ _ => trivial⟩ (hTF) (hTH) (hTK) ⟨by omega, oNh, oN, oWz, oBz, oHs, oHn, oYk, oYv, oWk, oBk, oYt, TX_nil, oEe, oMi, oYc⟩ ⟨koTs, koNh, koN, koWz, koBz, koHs, koHn, koYk, koYv, koWk, koBk, koYt, koTx, koEe, koMi, koYc⟩ (hlk) ⟨zcl, zE, zC, zH⟩ ⟨kzcl, kzE, kzC, kzH⟩ ⟨v1_, v2_, v3_, v4_⟩ (hZ.kept hkp hwc hX) (hZk.kept hkp hwc hX) (hHs.kept hkp hwc hX) (hHk.kept hkp hwc hX) rfl rfl), hJ.2, fun p hp => Or.inl hp⟩, hz, fun q h1 h2 => hkp q h1 (fun h => h2 (bl_A hwc _ h))⟩
  · skip
    obtain rfl := e2.symm
    subst e3
    subst e4
    subst e5
    subst e6
    have hnew := bl_fz (F' := [(zo13rrirrrr h0 sc kp ik bl9 go ch bo), (zo10ririliiriririr sc aTp (nI 0) bl (nI (nh + 1)) (lN ee) mi sn aHs (nI n) aWk (nI wz) aBk (nI bz) aFc), (zaI aTp cTp 100 fTp), (zaR aHs cHs 8 fHs), (zaI aWk cWk 6 fWk), (zaI aBk cBk 12 fBk), (zaI aFc cFc 6 fFc), (zo10ririliiriririr kp kTp (nI kts) kHl (nI knh) (lN kee) kmi ksn kHs (nI kn) kWk (nI kwz) kBk (nI kbz) kFc), (zaI kTp kcTp 100 kfTp), (zaR kHs kcHs 8 kfHs), (zaI kWk kcWk 6 kfWk), (zaI kBk kcBk 12 kfBk), (zaI kFc kcFc 6 kfFc), (zo7iirrrriniii bl9 3 (nI 0) qW qA qE qC 0 0 0 (nI 0)), (zaI qW cqW 10 (fun _ => 0)), (zaI qA cqA 10 (fun _ => 0)), (zaI qE cqE 10 (fun _ => 0)), (zaI qC cqC 100 (fun _ => 0)), (zo4rrir go gR gO (nI lk) gS), (zaI gR cR 8 fR), (zaI gO cO 8 fO), (zo5iiii gS 0 (nI i0) 0 scl), (zo2lirrr ch ft fr dr tO hO), (zaI dr cD 36 fD), (zaR tO cTO 3 (fun i => if i < 3 then some (rt i) else none)), (zaL (rt 0) cT 36 ft0), (zaL (rt 1) cT 36 ft1), (zaL (rt 2) cT 36 ft2), (zaR hO cHO 8 (fun i => if i < 8 then some (rh i) else none)), (zaI (rh 0) cH 36 g0), (zaI (rh 1) cH 36 g1), (zaI (rh 2) cH 36 g2), (zaI (rh 3) cH 36 g3), (zaI (rh 4) cH 36 g4), (zaI (rh 5) cH 36 g5), (zaI (rh 6) cH 36 g6), (zaI (rh 7) cH 36 g7)]) (ws := [(zo7iirrrriviii bl esg7 (nI ecl7) eW eA eE eC cdd7 etv7 szz7 att7 (nI em7)), (zaI eW ceW 10 feW7), (zaI eA ceA 10 feA7), (zaI eE ceE 10 feE7), (zaI eC ceC 100 feC7)]) hP hD [0, 1, 2, 13, 14, 15, 16, 17] rfl hP1 hD1 [some 0, some 1, some 2, none, none, none, none, none, none, none, none, none, none, some 3, some 4, some 5, some 6, some 7, none, none, none, none, none, none, none, none, none, none, none, none, none, none, none, none, none, none, none] [0, 1, 2, 13, 14, 15, 16, 17] rfl (Or.inl rfl) rfl hY1 hY2 [8, 9, 10, 11, 12] rfl rfl
    have hJ := bl_gen (F' := [(zo13rrirrrr h0 sc kp ik bl9 go ch bo), (zo10ririliiriririr sc aTp (nI 0) bl (nI (nh + 1)) (lN ee) mi sn aHs (nI n) aWk (nI wz) aBk (nI bz) aFc), (zaI aTp cTp 100 fTp), (zaR aHs cHs 8 fHs), (zaI aWk cWk 6 fWk), (zaI aBk cBk 12 fBk), (zaI aFc cFc 6 fFc), (zo10ririliiriririr kp kTp (nI kts) kHl (nI knh) (lN kee) kmi ksn kHs (nI kn) kWk (nI kwz) kBk (nI kbz) kFc), (zaI kTp kcTp 100 kfTp), (zaR kHs kcHs 8 kfHs), (zaI kWk kcWk 6 kfWk), (zaI kBk kcBk 12 kfBk), (zaI kFc kcFc 6 kfFc), (zo7iirrrriniii bl9 3 (nI 0) qW qA qE qC 0 0 0 (nI 0)), (zaI qW cqW 10 (fun _ => 0)), (zaI qA cqA 10 (fun _ => 0)), (zaI qE cqE 10 (fun _ => 0)), (zaI qC cqC 100 (fun _ => 0)), (zo4rrir go gR gO (nI lk) gS), (zaI gR cR 8 fR), (zaI gO cO 8 fO), (zo5iiii gS 0 (nI i0) 0 scl), (zo2lirrr ch ft fr dr tO hO), (zaI dr cD 36 fD), (zaR tO cTO 3 (fun i => if i < 3 then some (rt i) else none)), (zaL (rt 0) cT 36 ft0), (zaL (rt 1) cT 36 ft1), (zaL (rt 2) cT 36 ft2), (zaR hO cHO 8 (fun i => if i < 8 then some (rh i) else none)), (zaI (rh 0) cH 36 g0), (zaI (rh 1) cH 36 g1), (zaI (rh 2) cH 36 g2), (zaI (rh 3) cH 36 g3), (zaI (rh 4) cH 36 g4), (zaI (rh 5) cH 36 g5), (zaI (rh 6) cH 36 g6), (zaI (rh 7) cH 36 g7)]) hP hD [0, 1, 2, 13, 14, 15, 16, 17] rfl hkp hP1 hD1 [some 0, some 1, some 2, none, none, none, none, none, none, none, none, none, none, some 3, some 4, some 5, some 6, some 7, none, none, none, none, none, none, none, none, none, none, none, none, none, none, none, none, none, none, none] [0, 1, 2, 13, 14, 15, 16, 17] rfl (Or.inl rfl) rfl
    have hX := D_mem hJ.2
    exact ⟨⟨r, (ik, (n, wz, bz, mi, sn, yk, yv, yc, nh + 1, 0, (fun _ => 0), C0, ee), (kn, kwz, kbz, kmi, ksn, kyk, kyv, kyc, knh, kts, ktc, khC, kee), tl), rfl, ⟨er.trans (hlR_g (show ¬ nh = 5 by omega) eC0), u_eq (hlF_g (show ¬ nh = 5 by omega) eC0)⟩, _, [(cqW, FieldType.int), (cqA, FieldType.int), (cqE, FieldType.int), (cqC, FieldType.int)] ++ T, (fun M9 k9 => k9 sc kp (bl9) go ch bo aTp (0) (bl) (nh + 1) ee mi sn aHs n aWk wz aBk bz aFc cTp fTp cHs fHs cWk fWk cBk fBk cFc fFc kTp kts kHl knh kee kmi ksn kHs kn kWk kwz kBk kbz kFc kcTp kfTp kcHs kfHs kcWk kfWk kcBk kfBk kcFc kfFc (3) (0) (qW) (qA) (qE) (qC) (0) (.null) (0) (0) (0) (cqW) ((fun _ => 0)) (cqA) ((fun _ => 0)) (cqE) ((fun _ => 0)) (cqC) ((fun _ => 0)) gR gO lk gS cR fR cO fO i0 scl ft fr dr tO hO cD fD cTO rt cT ft0 ft1 ft2 cHO rh cH g0 g1 g2 g3 g4 g5 g6 g7 (esg7) (ecl7) (eW) (eA) (eE) (eC) (cdd7) (etv7) (szz7) (att7) (nI em7) (ceW) (feW7) (ceA) (feA7) (ceE) (feE7) (ceC) (feC7) ksg kcl kbW kbA kbE kbC khcd ktpv khsz khat knmb kcbW kfbW kcbA kfbA kcbE kfbE kcbC kfbC yi ya yk yv yc kyi kya kyk kyv kyc ((fun _ => 0)) ktc (C0) khC LB rfl (hLB.mono (fun p hp => List.mem_append_right _ hp)) hJ.1 ⟨hJ.2.1, fun _ _ _ => trivial⟩ (fun p hp => by simp only [List.mem_cons, List.not_mem_nil, or_false] at hp; rcases hp with rfl | rfl | rfl | rfl | rfl | rfl | rfl | rfl | rfl | rfl | rfl | rfl | rfl | rfl | rfl | rfl | rfl | rfl | rfl | rfl | rfl | rfl | rfl | rfl | rfl | rfl | rfl | rfl | rfl | rfl; exact List.mem_append_right _ (hTF _ (by simp)); exact List.mem_append_right _ (hTF _ (by simp)); exact List.mem_append_right _ (hTF _ (by simp)); exact List.mem_append_right _ (hTF _ (by simp)); exact List.mem_append_right _ (hTF _ (by simp)); exact List.mem_append_right _ (hTF _ (by simp)); exact List.mem_append_right _ (hTF _ (by simp)); exact List.mem_append_right _ (hTF _ (by simp)); exact List.mem_append_right _ (hTF _ (by simp)); exact List.mem_append_right _ (hTF _ (by simp)); exact List.mem_append_left _ (by simp); exact List.mem_append_left _ (by simp); exact List.mem_append_left _ (by simp); exact List.mem_append_left _ (by simp); exact List.mem_append_right _ (hTF _ (by simp)); exact List.mem_append_right _ (hTF _ (by simp)); exact List.mem_append_right _ (hTF _ (by simp)); exact List.mem_append_right _ (hTF _ (by simp)); exact List.mem_append_right _ (hTF _ (by simp)); exact List.mem_append_right _ (hTF _ (by simp)); exact List.mem_append_right _ (hTF _ (by simp)); exact List.mem_append_right _ (hTF _ (by simp)); exact List.mem_append_right _ (hTF _ (by simp)); exact List.mem_append_right _ (hTF _ (by simp)); exact List.mem_append_right _ (hTF _ (by simp)); exact List.mem_append_right _ (hTF _ (by simp)); exact List.mem_append_right _ (hTF _ (by simp)); exact List.mem_append_right _ (hTF _ (by simp)); exact List.mem_append_right _ (hTF _ (by simp)); exact List.mem_append_right _ (hTF _ (by simp))) (fun p hp => by simp only [List.mem_cons, List.not_mem_nil, or_false] at hp; rcases hp with rfl | rfl | rfl | rfl <;> exact List.mem_append_right _ (hTF _ (by simp))) (fun p hp => List.mem_append_right _ (hTK p hp)) ⟨by omega, by omega, oN, oWz, oBz, oHs, oHn, oYk, oYv, oWk, oBk, oYt, TX_nil, oEe, oMi, oYc⟩ ⟨koTs, koNh, koN, koWz, koBz, koHs, koHn, koYk, koYv, koWk, koBk, koYt, koTx, koEe, koMi, koYc⟩ (hlk) ⟨v1_, v3_, v4_, hC0, wf_hl eC0⟩ ⟨kzcl, kzE, kzC, kzH⟩ ⟨by omega, by omega, fun k0 _ => ⟨0, by omega, rfl⟩, fun k0 _ => Or.inr (Or.inr (Or.inr ⟨0, by omega, rfl⟩))⟩ (hnew) (hZk.kept hkp hwc hX) (hHs.kept hkp hwc hX) (hHk.kept hkp hwc hX) rfl rfl), hJ.2, fun p hp => by rcases List.mem_append.mp hp with hp | hp; (simp only [List.mem_cons, List.not_mem_nil, or_false] at hp; rcases hp with rfl | rfl | rfl | rfl; exact Or.inr (hK1.sub [1] rfl); exact Or.inr (hK1.sub [2] rfl); exact Or.inr (hK1.sub [3] rfl); exact Or.inr (hK1.sub [4] rfl)); exact Or.inl hp⟩, hz, fun q h1 h2 => hkp q h1 (fun h => h2 (bl_A hwc _ h))⟩

set_option maxHeartbeats 4000000 in
set_option maxRecDepth 100000 in
theorem w_trace (l : Launch) (dC : Nat → ClassId) (dI : Nat → Nat → Nat) (gd : Nat → Nat) (kA : Nat) (ad : Nat → Nat) (cB bS : Nat) (sK sV : Nat → Nat) (Y : Nat → Prop) (ik : Int32) (vs kvs : VS) (tl : List Nat) (T : List (ClassId × FieldType)) (h0 : Nat) (X : va_W) (x : Int32) (sz : Nat) : Met l yX11_trace wsX11_trace ({ frames := 3, cells := 0, slots := 0, locals := 64 } : Room) (va_Pc [.ref h0, .int x] (fun U => U.heap.size = sz ∧ XI dC dI ad bS Y ik vs kvs tl T h0 X U.heap ∧ va_K (dC, dI) vwCl T U ∧ (∀ c ∈ X, ¬ Y c.1) ∧ (∀ q, sz ≤ q → ¬ Y q) ∧ GA gd kA ad cB bS sK sV (va_A X sz) U)) (va_Qi (fun (r : Int32) (u : Int32 × VS × VS × List Nat) => r = trR tl x ∧ u = (ik, vs, kvs, tl)) (fun (u : Int32 × VS × VS × List Nat) (t : State) => ∃ (X1 : va_W) (T1 : List (ClassId × FieldType)), XI dC dI ad bS Y u.1 u.2.1 u.2.2.1 u.2.2.2 T1 h0 X1 t.heap ∧ va_D (va_A X sz) X1 ∧ ∀ p ∈ T1, p ∈ T ∨ va_K (dC, dI) vwCl [p] t) (va_A X sz)) 0 0 (va_A X sz) := by
  refine met_wrap (fun args s hPc => ?_)
  obtain ⟨rfl, rfl, hXI, hK, hY1, hY2, hGA⟩ := hPc
  have hXI0 := hXI
  refine hXI _ (fun sc kp bl go ch bo aTp ts aHl nh ee mi sn aHs n aWk wz aBk bz aFc cTp fTp cHs fHs cWk fWk cBk fBk cFc fFc kTp kts kHl knh kee kmi ksn kHs kn kWk kwz kBk kbz kFc kcTp kfTp kcHs kfHs kcWk kfWk kcBk kfBk kcFc kfFc esg ecl eW eA eE eC cdd etv szz att em ceW feW ceA feA ceE feE ceC feC gR gO lk gS cR fR cO fO i0 scl ft fr dr tO hO cD fD cTO rt cT ft0 ft1 ft2 cHO rh cH g0 g1 g2 g3 g4 g5 g6 g7 sg cl bW bA bE bC hcd tpv hsz hat nmb cbW fbW cbA fbA cbE fbE cbC fbC ksg kcl kbW kbA kbE kbC khcd ktpv khsz khat knmb kcbW kfbW kcbA kfbA kcbE kfbE kcbC kfbC yi ya yk yv yc kyi kya kyk kyv kyc tc ktc hC khC LB hX hLB hP hD hTF hTH hTK hq1 hq2 hlk hq3 hq4 hq5 hZ hZk hHs hHk hvs hkv => ?_)
  subst hvs
  subst hkv
  obtain ⟨oTs, oNh, oN, oWz, oBz, oHs, oHn, oYk, oYv, oWk, oBk, oYt, oTx, oEe, oMi, oYc⟩ := hq1
  obtain ⟨koTs, koNh, koN, koWz, koBz, koHs, koHn, koYk, koYv, koWk, koBk, koYt, koTx, koEe, koMi, koYc⟩ := hq2
  obtain ⟨zcl, zE, zC, zH⟩ := hq3
  obtain ⟨kzcl, kzE, kzC, kzH⟩ := hq4
  obtain ⟨hcl, hem, zeE, zeC⟩ := hq5
  subst hX
  rcases hLB with ⟨mdc, rfl, rfl⟩ | ⟨mdc, aEl, cEl, sz_, fEl, rfl, hTE, hsz_, zL⟩
  · skip
    have hP : va_P (dC, dI) vwCl ([(zo13rrirrrr h0 sc kp ik bl go ch bo), (zo10ririliiriririr sc aTp (nI ts) aHl (nI nh) (lN ee) mi sn aHs (nI n) aWk (nI wz) aBk (nI bz) aFc), (zaI aTp cTp 100 fTp), (zaR aHs cHs 8 fHs), (zaI aWk cWk 6 fWk), (zaI aBk cBk 12 fBk), (zaI aFc cFc 6 fFc), (zo10ririliiriririr kp kTp (nI kts) kHl (nI knh) (lN kee) kmi ksn kHs (nI kn) kWk (nI kwz) kBk (nI kbz) kFc), (zaI kTp kcTp 100 kfTp), (zaR kHs kcHs 8 kfHs), (zaI kWk kcWk 6 kfWk), (zaI kBk kcBk 12 kfBk), (zaI kFc kcFc 6 kfFc), (zo7iirrrriviii bl esg (nI ecl) eW eA eE eC cdd etv szz att (nI em)), (zaI eW ceW 10 feW), (zaI eA ceA 10 feA), (zaI eE ceE 10 feE), (zaI eC ceC 100 feC), (zo4rrir go gR gO (nI lk) gS), (zaI gR cR 8 fR), (zaI gO cO 8 fO), (zo5iiii gS 0 (nI i0) 0 scl), (zo2lirrr ch ft fr dr tO hO), (zaI dr cD 36 fD), (zaR tO cTO 3 (fun i => if i < 3 then some (rt i) else none)), (zaL (rt 0) cT 36 ft0), (zaL (rt 1) cT 36 ft1), (zaL (rt 2) cT 36 ft2), (zaR hO cHO 8 (fun i => if i < 8 then some (rh i) else none)), (zaI (rh 0) cH 36 g0), (zaI (rh 1) cH 36 g1), (zaI (rh 2) cH 36 g2), (zaI (rh 3) cH 36 g3), (zaI (rh 4) cH 36 g4), (zaI (rh 5) cH 36 g5), (zaI (rh 6) cH 36 g6), (zaI (rh 7) cH 36 g7), (zo1iri bo mdc bS 0)] ++ []) s.heap := hP
    have hD : va_D (fun _ => True) ([(zo13rrirrrr h0 sc kp ik bl go ch bo), (zo10ririliiriririr sc aTp (nI ts) aHl (nI nh) (lN ee) mi sn aHs (nI n) aWk (nI wz) aBk (nI bz) aFc), (zaI aTp cTp 100 fTp), (zaR aHs cHs 8 fHs), (zaI aWk cWk 6 fWk), (zaI aBk cBk 12 fBk), (zaI aFc cFc 6 fFc), (zo10ririliiriririr kp kTp (nI kts) kHl (nI knh) (lN kee) kmi ksn kHs (nI kn) kWk (nI kwz) kBk (nI kbz) kFc), (zaI kTp kcTp 100 kfTp), (zaR kHs kcHs 8 kfHs), (zaI kWk kcWk 6 kfWk), (zaI kBk kcBk 12 kfBk), (zaI kFc kcFc 6 kfFc), (zo7iirrrriviii bl esg (nI ecl) eW eA eE eC cdd etv szz att (nI em)), (zaI eW ceW 10 feW), (zaI eA ceA 10 feA), (zaI eE ceE 10 feE), (zaI eC ceC 100 feC), (zo4rrir go gR gO (nI lk) gS), (zaI gR cR 8 fR), (zaI gO cO 8 fO), (zo5iiii gS 0 (nI i0) 0 scl), (zo2lirrr ch ft fr dr tO hO), (zaI dr cD 36 fD), (zaR tO cTO 3 (fun i => if i < 3 then some (rt i) else none)), (zaL (rt 0) cT 36 ft0), (zaL (rt 1) cT 36 ft1), (zaL (rt 2) cT 36 ft2), (zaR hO cHO 8 (fun i => if i < 8 then some (rh i) else none)), (zaI (rh 0) cH 36 g0), (zaI (rh 1) cH 36 g1), (zaI (rh 2) cH 36 g2), (zaI (rh 3) cH 36 g3), (zaI (rh 4) cH 36 g4), (zaI (rh 5) cH 36 g5), (zaI (rh 6) cH 36 g6), (zaI (rh 7) cH 36 g7), (zo1iri bo mdc bS 0)] ++ []) := hD
    have hwc := bl_mem (G := [(zo13rrirrrr h0 sc kp ik bl go ch bo), (zo10ririliiriririr sc aTp (nI ts) aHl (nI nh) (lN ee) mi sn aHs (nI n) aWk (nI wz) aBk (nI bz) aFc), (zaI aTp cTp 100 fTp), (zaR aHs cHs 8 fHs), (zaI aWk cWk 6 fWk), (zaI aBk cBk 12 fBk), (zaI aFc cFc 6 fFc), (zo10ririliiriririr kp kTp (nI kts) kHl (nI knh) (lN kee) kmi ksn kHs (nI kn) kWk (nI kwz) kBk (nI kbz) kFc), (zaI kTp kcTp 100 kfTp), (zaR kHs kcHs 8 kfHs), (zaI kWk kcWk 6 kfWk), (zaI kBk kcBk 12 kfBk), (zaI kFc kcFc 6 kfFc), (zo7iirrrriviii bl esg (nI ecl) eW eA eE eC cdd etv szz att (nI em)), (zaI eW ceW 10 feW), (zaI eA ceA 10 feA), (zaI eE ceE 10 feE), (zaI eC ceC 100 feC), (zo4rrir go gR gO (nI lk) gS), (zaI gR cR 8 fR), (zaI gO cO 8 fO), (zo5iiii gS 0 (nI i0) 0 scl), (zo2lirrr ch ft fr dr tO hO), (zaI dr cD 36 fD), (zaR tO cTO 3 (fun i => if i < 3 then some (rt i) else none)), (zaL (rt 0) cT 36 ft0), (zaL (rt 1) cT 36 ft1), (zaL (rt 2) cT 36 ft2), (zaR hO cHO 8 (fun i => if i < 8 then some (rh i) else none)), (zaI (rh 0) cH 36 g0), (zaI (rh 1) cH 36 g1), (zaI (rh 2) cH 36 g2), (zaI (rh 3) cH 36 g3), (zaI (rh 4) cH 36 g4), (zaI (rh 5) cH 36 g5), (zaI (rh 6) cH 36 g6), (zaI (rh 7) cH 36 g7), (zo1iri bo mdc bS 0)]) (F := [(zo13rrirrrr h0 sc kp ik bl go ch bo), (zo1iri bo mdc bS 0)]) (T := []) [0, 37] rfl
    have hPc := bl_sub (F := [(zo13rrirrrr h0 sc kp ik bl go ch bo), (zo1iri bo mdc bS 0)]) hP [0, 37] rfl
    refine ⟨_, _, _, c_xTrace0 l dC dI h0 sc kp bl go ch bo ik x bS mdc , ⟨rfl, hPc, (K_mem hK hTF).sub [] rfl⟩, fun o t hQ => ?_, fun q hq => hq.elim⟩
    obtain ⟨r, rfl, hpost, hh⟩ := hQ
    refine ⟨⟨r, (ik, (n, wz, bz, mi, sn, yk, yv, yc, nh, ts, tc, hC, ee), (kn, kwz, kbz, kmi, ksn, kyk, kyv, kyc, knh, kts, ktc, khC, kee), []), rfl, ⟨hpost.trans (tr_no (fun j hj => absurd hj (Nat.not_lt_zero j))), rfl⟩, _, T, by rw [hh]; exact hXI0, ⟨hD.1, fun k q hq => Or.inl ⟨k, q.2, hq⟩⟩, fun p hp => Or.inl hp⟩, by rw [hh]; exact Nat.le_refl _, fun q _ _ => by rw [hh]⟩
  · skip
    have hP : va_P (dC, dI) vwCl ([(zo13rrirrrr h0 sc kp ik bl go ch bo), (zo10ririliiriririr sc aTp (nI ts) aHl (nI nh) (lN ee) mi sn aHs (nI n) aWk (nI wz) aBk (nI bz) aFc), (zaI aTp cTp 100 fTp), (zaR aHs cHs 8 fHs), (zaI aWk cWk 6 fWk), (zaI aBk cBk 12 fBk), (zaI aFc cFc 6 fFc), (zo10ririliiriririr kp kTp (nI kts) kHl (nI knh) (lN kee) kmi ksn kHs (nI kn) kWk (nI kwz) kBk (nI kbz) kFc), (zaI kTp kcTp 100 kfTp), (zaR kHs kcHs 8 kfHs), (zaI kWk kcWk 6 kfWk), (zaI kBk kcBk 12 kfBk), (zaI kFc kcFc 6 kfFc), (zo7iirrrriviii bl esg (nI ecl) eW eA eE eC cdd etv szz att (nI em)), (zaI eW ceW 10 feW), (zaI eA ceA 10 feA), (zaI eE ceE 10 feE), (zaI eC ceC 100 feC), (zo4rrir go gR gO (nI lk) gS), (zaI gR cR 8 fR), (zaI gO cO 8 fO), (zo5iiii gS 0 (nI i0) 0 scl), (zo2lirrr ch ft fr dr tO hO), (zaI dr cD 36 fD), (zaR tO cTO 3 (fun i => if i < 3 then some (rt i) else none)), (zaL (rt 0) cT 36 ft0), (zaL (rt 1) cT 36 ft1), (zaL (rt 2) cT 36 ft2), (zaR hO cHO 8 (fun i => if i < 8 then some (rh i) else none)), (zaI (rh 0) cH 36 g0), (zaI (rh 1) cH 36 g1), (zaI (rh 2) cH 36 g2), (zaI (rh 3) cH 36 g3), (zaI (rh 4) cH 36 g4), (zaI (rh 5) cH 36 g5), (zaI (rh 6) cH 36 g6), (zaI (rh 7) cH 36 g7), (zo1iri bo mdc aEl (nI sz_)), (zaR aEl cEl 10 fEl)] ++ []) s.heap := hP
    have hD : va_D (fun _ => True) ([(zo13rrirrrr h0 sc kp ik bl go ch bo), (zo10ririliiriririr sc aTp (nI ts) aHl (nI nh) (lN ee) mi sn aHs (nI n) aWk (nI wz) aBk (nI bz) aFc), (zaI aTp cTp 100 fTp), (zaR aHs cHs 8 fHs), (zaI aWk cWk 6 fWk), (zaI aBk cBk 12 fBk), (zaI aFc cFc 6 fFc), (zo10ririliiriririr kp kTp (nI kts) kHl (nI knh) (lN kee) kmi ksn kHs (nI kn) kWk (nI kwz) kBk (nI kbz) kFc), (zaI kTp kcTp 100 kfTp), (zaR kHs kcHs 8 kfHs), (zaI kWk kcWk 6 kfWk), (zaI kBk kcBk 12 kfBk), (zaI kFc kcFc 6 kfFc), (zo7iirrrriviii bl esg (nI ecl) eW eA eE eC cdd etv szz att (nI em)), (zaI eW ceW 10 feW), (zaI eA ceA 10 feA), (zaI eE ceE 10 feE), (zaI eC ceC 100 feC), (zo4rrir go gR gO (nI lk) gS), (zaI gR cR 8 fR), (zaI gO cO 8 fO), (zo5iiii gS 0 (nI i0) 0 scl), (zo2lirrr ch ft fr dr tO hO), (zaI dr cD 36 fD), (zaR tO cTO 3 (fun i => if i < 3 then some (rt i) else none)), (zaL (rt 0) cT 36 ft0), (zaL (rt 1) cT 36 ft1), (zaL (rt 2) cT 36 ft2), (zaR hO cHO 8 (fun i => if i < 8 then some (rh i) else none)), (zaI (rh 0) cH 36 g0), (zaI (rh 1) cH 36 g1), (zaI (rh 2) cH 36 g2), (zaI (rh 3) cH 36 g3), (zaI (rh 4) cH 36 g4), (zaI (rh 5) cH 36 g5), (zaI (rh 6) cH 36 g6), (zaI (rh 7) cH 36 g7), (zo1iri bo mdc aEl (nI sz_)), (zaR aEl cEl 10 fEl)] ++ []) := hD
    have hwc := bl_mem (G := [(zo13rrirrrr h0 sc kp ik bl go ch bo), (zo10ririliiriririr sc aTp (nI ts) aHl (nI nh) (lN ee) mi sn aHs (nI n) aWk (nI wz) aBk (nI bz) aFc), (zaI aTp cTp 100 fTp), (zaR aHs cHs 8 fHs), (zaI aWk cWk 6 fWk), (zaI aBk cBk 12 fBk), (zaI aFc cFc 6 fFc), (zo10ririliiriririr kp kTp (nI kts) kHl (nI knh) (lN kee) kmi ksn kHs (nI kn) kWk (nI kwz) kBk (nI kbz) kFc), (zaI kTp kcTp 100 kfTp), (zaR kHs kcHs 8 kfHs), (zaI kWk kcWk 6 kfWk), (zaI kBk kcBk 12 kfBk), (zaI kFc kcFc 6 kfFc), (zo7iirrrriviii bl esg (nI ecl) eW eA eE eC cdd etv szz att (nI em)), (zaI eW ceW 10 feW), (zaI eA ceA 10 feA), (zaI eE ceE 10 feE), (zaI eC ceC 100 feC), (zo4rrir go gR gO (nI lk) gS), (zaI gR cR 8 fR), (zaI gO cO 8 fO), (zo5iiii gS 0 (nI i0) 0 scl), (zo2lirrr ch ft fr dr tO hO), (zaI dr cD 36 fD), (zaR tO cTO 3 (fun i => if i < 3 then some (rt i) else none)), (zaL (rt 0) cT 36 ft0), (zaL (rt 1) cT 36 ft1), (zaL (rt 2) cT 36 ft2), (zaR hO cHO 8 (fun i => if i < 8 then some (rh i) else none)), (zaI (rh 0) cH 36 g0), (zaI (rh 1) cH 36 g1), (zaI (rh 2) cH 36 g2), (zaI (rh 3) cH 36 g3), (zaI (rh 4) cH 36 g4), (zaI (rh 5) cH 36 g5), (zaI (rh 6) cH 36 g6), (zaI (rh 7) cH 36 g7), (zo1iri bo mdc aEl (nI sz_)), (zaR aEl cEl 10 fEl)]) (F := [(zo13rrirrrr h0 sc kp ik bl go ch bo), (zo1iri bo mdc aEl (nI sz_)), (zaR aEl cEl 10 fEl)]) (T := []) [0, 37, 38] rfl
    have hPc := bl_sub (F := [(zo13rrirrrr h0 sc kp ik bl go ch bo), (zo1iri bo mdc aEl (nI sz_)), (zaR aEl cEl 10 fEl)]) hP [0, 37, 38] rfl
    refine ⟨_, _, _, c_xTrace1 l dC dI ad cB bS h0 sc kp bl go ch bo aEl ik x cEl fEl sz_ mdc tl hsz_ zL, ⟨rfl, hPc, (K_mem hK (show ∀ p ∈ ([(cTp, .int), (cHs, .object "MistHeaps$Heap"), (cWk, .int), (cBk, .int), (cFc, .int), (kcTp, .int), (kcHs, .object "MistHeaps$Heap"), (kcWk, .int), (kcBk, .int), (kcFc, .int), (ceW, .int), (ceA, .int), (ceE, .int), (ceC, .int), (cR, .int), (cO, .int), (cD, .int), (cTO, .array .long), (cT, .long), (cT, .long), (cT, .long), (cHO, .array .int), (cH, .int), (cH, .int), (cH, .int), (cH, .int), (cH, .int), (cH, .int), (cH, .int), (cH, .int), (cEl, .object "java/lang/Object")] : List (ClassId × FieldType)), p ∈ T from fun p hp => by rcases List.mem_append.mp (show p ∈ [(cTp, .int), (cHs, .object "MistHeaps$Heap"), (cWk, .int), (cBk, .int), (cFc, .int), (kcTp, .int), (kcHs, .object "MistHeaps$Heap"), (kcWk, .int), (kcBk, .int), (kcFc, .int), (ceW, .int), (ceA, .int), (ceE, .int), (ceC, .int), (cR, .int), (cO, .int), (cD, .int), (cTO, .array .long), (cT, .long), (cT, .long), (cT, .long), (cHO, .array .int), (cH, .int), (cH, .int), (cH, .int), (cH, .int), (cH, .int), (cH, .int), (cH, .int), (cH, .int)] ++ [(cEl, .object "java/lang/Object")] from hp) with hp | hp; exact hTF p hp; (rw [List.mem_singleton.mp hp]; exact hTE))).sub [30] rfl, hGA.2.2.2.1.callF va_S.rf rfl (State.WarmedH.refl s)⟩, fun o t hQ => ?_, fun q hq => hq.elim⟩
    obtain ⟨r, rfl, hpost, hh⟩ := hQ
    refine ⟨⟨r, (ik, (n, wz, bz, mi, sn, yk, yv, yc, nh, ts, tc, hC, ee), (kn, kwz, kbz, kmi, ksn, kyk, kyv, kyc, knh, kts, ktc, khC, kee), tl), rfl, ⟨hpost, rfl⟩, _, T, by rw [hh]; exact hXI0, ⟨hD.1, fun k q hq => Or.inl ⟨k, q.2, hq⟩⟩, fun p hp => Or.inl hp⟩, by rw [hh]; exact Nat.le_refl _, fun q _ _ => by rw [hh]⟩

set_option maxHeartbeats 4000000 in
set_option maxRecDepth 100000 in
theorem w_count (l : Launch) (dC : Nat → ClassId) (dI : Nat → Nat → Nat) (gd : Nat → Nat) (kA : Nat) (ad : Nat → Nat) (cB bS : Nat) (sK sV : Nat → Nat) (Y : Nat → Prop) (ik : Int32) (vs kvs : VS) (tl : List Nat) (T : List (ClassId × FieldType)) (h0 : Nat) (X : va_W) (x : Int32) (sz : Nat) : Met l yX11_count wsX11_count ({ frames := 1, cells := 0, slots := 0, locals := 20 } : Room) (va_Pc [.ref h0, .int x] (fun U => U.heap.size = sz ∧ XI dC dI ad bS Y ik vs kvs tl T h0 X U.heap ∧ va_K (dC, dI) vwCl T U ∧ (∀ c ∈ X, ¬ Y c.1) ∧ (∀ q, sz ≤ q → ¬ Y q) ∧ GA gd kA ad cB bS sK sV (va_A X sz) U)) (va_Qi (fun (r : Int32) (u : Int32 × VS × VS × List Nat) => r = ctR (vs.1) (vs.2.2.2.2.2.2.2.2.1) (vs.2.1) (vs.2.2.1) (vs.2.2.2.2.2.2.2.2.2.1) tl x ∧ u = (ik, vs, kvs, tl)) (fun (u : Int32 × VS × VS × List Nat) (t : State) => ∃ (X1 : va_W) (T1 : List (ClassId × FieldType)), XI dC dI ad bS Y u.1 u.2.1 u.2.2.1 u.2.2.2 T1 h0 X1 t.heap ∧ va_D (va_A X sz) X1 ∧ ∀ p ∈ T1, p ∈ T ∨ va_K (dC, dI) vwCl [p] t) (va_A X sz)) 0 0 (va_A X sz) := by
  refine met_wrap (fun args s hPc => ?_)
  obtain ⟨rfl, rfl, hXI, hK, hY1, hY2, hGA⟩ := hPc
  have hXI0 := hXI
  refine hXI _ (fun sc kp bl go ch bo aTp ts aHl nh ee mi sn aHs n aWk wz aBk bz aFc cTp fTp cHs fHs cWk fWk cBk fBk cFc fFc kTp kts kHl knh kee kmi ksn kHs kn kWk kwz kBk kbz kFc kcTp kfTp kcHs kfHs kcWk kfWk kcBk kfBk kcFc kfFc esg ecl eW eA eE eC cdd etv szz att em ceW feW ceA feA ceE feE ceC feC gR gO lk gS cR fR cO fO i0 scl ft fr dr tO hO cD fD cTO rt cT ft0 ft1 ft2 cHO rh cH g0 g1 g2 g3 g4 g5 g6 g7 sg cl bW bA bE bC hcd tpv hsz hat nmb cbW fbW cbA fbA cbE fbE cbC fbC ksg kcl kbW kbA kbE kbC khcd ktpv khsz khat knmb kcbW kfbW kcbA kfbA kcbE kfbE kcbC kfbC yi ya yk yv yc kyi kya kyk kyv kyc tc ktc hC khC LB hX hLB hP hD hTF hTH hTK hq1 hq2 hlk hq3 hq4 hq5 hZ hZk hHs hHk hvs hkv => ?_)
  subst hvs
  subst hkv
  obtain ⟨oTs, oNh, oN, oWz, oBz, oHs, oHn, oYk, oYv, oWk, oBk, oYt, oTx, oEe, oMi, oYc⟩ := hq1
  obtain ⟨koTs, koNh, koN, koWz, koBz, koHs, koHn, koYk, koYv, koWk, koBk, koYt, koTx, koEe, koMi, koYc⟩ := hq2
  obtain ⟨zcl, zE, zC, zH⟩ := hq3
  obtain ⟨kzcl, kzE, kzC, kzH⟩ := hq4
  obtain ⟨hcl, hem, zeE, zeC⟩ := hq5
  subst hX
  rcases hLB with ⟨mdc, rfl, rfl⟩ | ⟨mdc, aEl, cEl, sz_, fEl, rfl, hTE, hsz_, zL⟩
  · skip
    have hP : va_P (dC, dI) vwCl ([(zo13rrirrrr h0 sc kp ik bl go ch bo), (zo10ririliiriririr sc aTp (nI ts) aHl (nI nh) (lN ee) mi sn aHs (nI n) aWk (nI wz) aBk (nI bz) aFc), (zaI aTp cTp 100 fTp), (zaR aHs cHs 8 fHs), (zaI aWk cWk 6 fWk), (zaI aBk cBk 12 fBk), (zaI aFc cFc 6 fFc), (zo10ririliiriririr kp kTp (nI kts) kHl (nI knh) (lN kee) kmi ksn kHs (nI kn) kWk (nI kwz) kBk (nI kbz) kFc), (zaI kTp kcTp 100 kfTp), (zaR kHs kcHs 8 kfHs), (zaI kWk kcWk 6 kfWk), (zaI kBk kcBk 12 kfBk), (zaI kFc kcFc 6 kfFc), (zo7iirrrriviii bl esg (nI ecl) eW eA eE eC cdd etv szz att (nI em)), (zaI eW ceW 10 feW), (zaI eA ceA 10 feA), (zaI eE ceE 10 feE), (zaI eC ceC 100 feC), (zo4rrir go gR gO (nI lk) gS), (zaI gR cR 8 fR), (zaI gO cO 8 fO), (zo5iiii gS 0 (nI i0) 0 scl), (zo2lirrr ch ft fr dr tO hO), (zaI dr cD 36 fD), (zaR tO cTO 3 (fun i => if i < 3 then some (rt i) else none)), (zaL (rt 0) cT 36 ft0), (zaL (rt 1) cT 36 ft1), (zaL (rt 2) cT 36 ft2), (zaR hO cHO 8 (fun i => if i < 8 then some (rh i) else none)), (zaI (rh 0) cH 36 g0), (zaI (rh 1) cH 36 g1), (zaI (rh 2) cH 36 g2), (zaI (rh 3) cH 36 g3), (zaI (rh 4) cH 36 g4), (zaI (rh 5) cH 36 g5), (zaI (rh 6) cH 36 g6), (zaI (rh 7) cH 36 g7), (zo1iri bo mdc bS 0)] ++ []) s.heap := hP
    have hD : va_D (fun _ => True) ([(zo13rrirrrr h0 sc kp ik bl go ch bo), (zo10ririliiriririr sc aTp (nI ts) aHl (nI nh) (lN ee) mi sn aHs (nI n) aWk (nI wz) aBk (nI bz) aFc), (zaI aTp cTp 100 fTp), (zaR aHs cHs 8 fHs), (zaI aWk cWk 6 fWk), (zaI aBk cBk 12 fBk), (zaI aFc cFc 6 fFc), (zo10ririliiriririr kp kTp (nI kts) kHl (nI knh) (lN kee) kmi ksn kHs (nI kn) kWk (nI kwz) kBk (nI kbz) kFc), (zaI kTp kcTp 100 kfTp), (zaR kHs kcHs 8 kfHs), (zaI kWk kcWk 6 kfWk), (zaI kBk kcBk 12 kfBk), (zaI kFc kcFc 6 kfFc), (zo7iirrrriviii bl esg (nI ecl) eW eA eE eC cdd etv szz att (nI em)), (zaI eW ceW 10 feW), (zaI eA ceA 10 feA), (zaI eE ceE 10 feE), (zaI eC ceC 100 feC), (zo4rrir go gR gO (nI lk) gS), (zaI gR cR 8 fR), (zaI gO cO 8 fO), (zo5iiii gS 0 (nI i0) 0 scl), (zo2lirrr ch ft fr dr tO hO), (zaI dr cD 36 fD), (zaR tO cTO 3 (fun i => if i < 3 then some (rt i) else none)), (zaL (rt 0) cT 36 ft0), (zaL (rt 1) cT 36 ft1), (zaL (rt 2) cT 36 ft2), (zaR hO cHO 8 (fun i => if i < 8 then some (rh i) else none)), (zaI (rh 0) cH 36 g0), (zaI (rh 1) cH 36 g1), (zaI (rh 2) cH 36 g2), (zaI (rh 3) cH 36 g3), (zaI (rh 4) cH 36 g4), (zaI (rh 5) cH 36 g5), (zaI (rh 6) cH 36 g6), (zaI (rh 7) cH 36 g7), (zo1iri bo mdc bS 0)] ++ []) := hD
    have hwc := bl_mem (G := [(zo13rrirrrr h0 sc kp ik bl go ch bo), (zo10ririliiriririr sc aTp (nI ts) aHl (nI nh) (lN ee) mi sn aHs (nI n) aWk (nI wz) aBk (nI bz) aFc), (zaI aTp cTp 100 fTp), (zaR aHs cHs 8 fHs), (zaI aWk cWk 6 fWk), (zaI aBk cBk 12 fBk), (zaI aFc cFc 6 fFc), (zo10ririliiriririr kp kTp (nI kts) kHl (nI knh) (lN kee) kmi ksn kHs (nI kn) kWk (nI kwz) kBk (nI kbz) kFc), (zaI kTp kcTp 100 kfTp), (zaR kHs kcHs 8 kfHs), (zaI kWk kcWk 6 kfWk), (zaI kBk kcBk 12 kfBk), (zaI kFc kcFc 6 kfFc), (zo7iirrrriviii bl esg (nI ecl) eW eA eE eC cdd etv szz att (nI em)), (zaI eW ceW 10 feW), (zaI eA ceA 10 feA), (zaI eE ceE 10 feE), (zaI eC ceC 100 feC), (zo4rrir go gR gO (nI lk) gS), (zaI gR cR 8 fR), (zaI gO cO 8 fO), (zo5iiii gS 0 (nI i0) 0 scl), (zo2lirrr ch ft fr dr tO hO), (zaI dr cD 36 fD), (zaR tO cTO 3 (fun i => if i < 3 then some (rt i) else none)), (zaL (rt 0) cT 36 ft0), (zaL (rt 1) cT 36 ft1), (zaL (rt 2) cT 36 ft2), (zaR hO cHO 8 (fun i => if i < 8 then some (rh i) else none)), (zaI (rh 0) cH 36 g0), (zaI (rh 1) cH 36 g1), (zaI (rh 2) cH 36 g2), (zaI (rh 3) cH 36 g3), (zaI (rh 4) cH 36 g4), (zaI (rh 5) cH 36 g5), (zaI (rh 6) cH 36 g6), (zaI (rh 7) cH 36 g7), (zo1iri bo mdc bS 0)]) (F := [(zo13rrirrrr h0 sc kp ik bl go ch bo), (zo10ririliiriririr sc aTp (nI ts) aHl (nI nh) (lN ee) mi sn aHs (nI n) aWk (nI wz) aBk (nI bz) aFc), (zo1iri bo mdc bS 0)]) (T := []) [0, 1, 37] rfl
    have hPc := bl_sub (F := [(zo13rrirrrr h0 sc kp ik bl go ch bo), (zo10ririliiriririr sc aTp (nI ts) aHl (nI nh) (lN ee) mi sn aHs (nI n) aWk (nI wz) aBk (nI bz) aFc), (zo1iri bo mdc bS 0)]) hP [0, 1, 37] rfl
    refine ⟨_, _, _, c_xCount0 l dC dI h0 sc kp bl go ch bo aTp aHl aHs aWk aBk aFc ts nh n wz bz mi sn ik x (lN ee) bS mdc , ⟨rfl, hPc, (K_mem hK hTF).sub [] rfl⟩, fun o t hQ => ?_, fun q hq => hq.elim⟩
    obtain ⟨r, rfl, hpost, hh⟩ := hQ
    refine ⟨⟨r, (ik, (n, wz, bz, mi, sn, yk, yv, yc, nh, ts, tc, hC, ee), (kn, kwz, kbz, kmi, ksn, kyk, kyv, kyc, knh, kts, ktc, khC, kee), []), rfl, ⟨hpost, rfl⟩, _, T, by rw [hh]; exact hXI0, ⟨hD.1, fun k q hq => Or.inl ⟨k, q.2, hq⟩⟩, fun p hp => Or.inl hp⟩, by rw [hh]; exact Nat.le_refl _, fun q _ _ => by rw [hh]⟩
  · skip
    have hP : va_P (dC, dI) vwCl ([(zo13rrirrrr h0 sc kp ik bl go ch bo), (zo10ririliiriririr sc aTp (nI ts) aHl (nI nh) (lN ee) mi sn aHs (nI n) aWk (nI wz) aBk (nI bz) aFc), (zaI aTp cTp 100 fTp), (zaR aHs cHs 8 fHs), (zaI aWk cWk 6 fWk), (zaI aBk cBk 12 fBk), (zaI aFc cFc 6 fFc), (zo10ririliiriririr kp kTp (nI kts) kHl (nI knh) (lN kee) kmi ksn kHs (nI kn) kWk (nI kwz) kBk (nI kbz) kFc), (zaI kTp kcTp 100 kfTp), (zaR kHs kcHs 8 kfHs), (zaI kWk kcWk 6 kfWk), (zaI kBk kcBk 12 kfBk), (zaI kFc kcFc 6 kfFc), (zo7iirrrriviii bl esg (nI ecl) eW eA eE eC cdd etv szz att (nI em)), (zaI eW ceW 10 feW), (zaI eA ceA 10 feA), (zaI eE ceE 10 feE), (zaI eC ceC 100 feC), (zo4rrir go gR gO (nI lk) gS), (zaI gR cR 8 fR), (zaI gO cO 8 fO), (zo5iiii gS 0 (nI i0) 0 scl), (zo2lirrr ch ft fr dr tO hO), (zaI dr cD 36 fD), (zaR tO cTO 3 (fun i => if i < 3 then some (rt i) else none)), (zaL (rt 0) cT 36 ft0), (zaL (rt 1) cT 36 ft1), (zaL (rt 2) cT 36 ft2), (zaR hO cHO 8 (fun i => if i < 8 then some (rh i) else none)), (zaI (rh 0) cH 36 g0), (zaI (rh 1) cH 36 g1), (zaI (rh 2) cH 36 g2), (zaI (rh 3) cH 36 g3), (zaI (rh 4) cH 36 g4), (zaI (rh 5) cH 36 g5), (zaI (rh 6) cH 36 g6), (zaI (rh 7) cH 36 g7), (zo1iri bo mdc aEl (nI sz_)), (zaR aEl cEl 10 fEl)] ++ []) s.heap := hP
    have hD : va_D (fun _ => True) ([(zo13rrirrrr h0 sc kp ik bl go ch bo), (zo10ririliiriririr sc aTp (nI ts) aHl (nI nh) (lN ee) mi sn aHs (nI n) aWk (nI wz) aBk (nI bz) aFc), (zaI aTp cTp 100 fTp), (zaR aHs cHs 8 fHs), (zaI aWk cWk 6 fWk), (zaI aBk cBk 12 fBk), (zaI aFc cFc 6 fFc), (zo10ririliiriririr kp kTp (nI kts) kHl (nI knh) (lN kee) kmi ksn kHs (nI kn) kWk (nI kwz) kBk (nI kbz) kFc), (zaI kTp kcTp 100 kfTp), (zaR kHs kcHs 8 kfHs), (zaI kWk kcWk 6 kfWk), (zaI kBk kcBk 12 kfBk), (zaI kFc kcFc 6 kfFc), (zo7iirrrriviii bl esg (nI ecl) eW eA eE eC cdd etv szz att (nI em)), (zaI eW ceW 10 feW), (zaI eA ceA 10 feA), (zaI eE ceE 10 feE), (zaI eC ceC 100 feC), (zo4rrir go gR gO (nI lk) gS), (zaI gR cR 8 fR), (zaI gO cO 8 fO), (zo5iiii gS 0 (nI i0) 0 scl), (zo2lirrr ch ft fr dr tO hO), (zaI dr cD 36 fD), (zaR tO cTO 3 (fun i => if i < 3 then some (rt i) else none)), (zaL (rt 0) cT 36 ft0), (zaL (rt 1) cT 36 ft1), (zaL (rt 2) cT 36 ft2), (zaR hO cHO 8 (fun i => if i < 8 then some (rh i) else none)), (zaI (rh 0) cH 36 g0), (zaI (rh 1) cH 36 g1), (zaI (rh 2) cH 36 g2), (zaI (rh 3) cH 36 g3), (zaI (rh 4) cH 36 g4), (zaI (rh 5) cH 36 g5), (zaI (rh 6) cH 36 g6), (zaI (rh 7) cH 36 g7), (zo1iri bo mdc aEl (nI sz_)), (zaR aEl cEl 10 fEl)] ++ []) := hD
    have hwc := bl_mem (G := [(zo13rrirrrr h0 sc kp ik bl go ch bo), (zo10ririliiriririr sc aTp (nI ts) aHl (nI nh) (lN ee) mi sn aHs (nI n) aWk (nI wz) aBk (nI bz) aFc), (zaI aTp cTp 100 fTp), (zaR aHs cHs 8 fHs), (zaI aWk cWk 6 fWk), (zaI aBk cBk 12 fBk), (zaI aFc cFc 6 fFc), (zo10ririliiriririr kp kTp (nI kts) kHl (nI knh) (lN kee) kmi ksn kHs (nI kn) kWk (nI kwz) kBk (nI kbz) kFc), (zaI kTp kcTp 100 kfTp), (zaR kHs kcHs 8 kfHs), (zaI kWk kcWk 6 kfWk), (zaI kBk kcBk 12 kfBk), (zaI kFc kcFc 6 kfFc), (zo7iirrrriviii bl esg (nI ecl) eW eA eE eC cdd etv szz att (nI em)), (zaI eW ceW 10 feW), (zaI eA ceA 10 feA), (zaI eE ceE 10 feE), (zaI eC ceC 100 feC), (zo4rrir go gR gO (nI lk) gS), (zaI gR cR 8 fR), (zaI gO cO 8 fO), (zo5iiii gS 0 (nI i0) 0 scl), (zo2lirrr ch ft fr dr tO hO), (zaI dr cD 36 fD), (zaR tO cTO 3 (fun i => if i < 3 then some (rt i) else none)), (zaL (rt 0) cT 36 ft0), (zaL (rt 1) cT 36 ft1), (zaL (rt 2) cT 36 ft2), (zaR hO cHO 8 (fun i => if i < 8 then some (rh i) else none)), (zaI (rh 0) cH 36 g0), (zaI (rh 1) cH 36 g1), (zaI (rh 2) cH 36 g2), (zaI (rh 3) cH 36 g3), (zaI (rh 4) cH 36 g4), (zaI (rh 5) cH 36 g5), (zaI (rh 6) cH 36 g6), (zaI (rh 7) cH 36 g7), (zo1iri bo mdc aEl (nI sz_)), (zaR aEl cEl 10 fEl)]) (F := [(zo13rrirrrr h0 sc kp ik bl go ch bo), (zo10ririliiriririr sc aTp (nI ts) aHl (nI nh) (lN ee) mi sn aHs (nI n) aWk (nI wz) aBk (nI bz) aFc), (zo1iri bo mdc aEl (nI sz_))]) (T := []) [0, 1, 37] rfl
    have hPc := bl_sub (F := [(zo13rrirrrr h0 sc kp ik bl go ch bo), (zo10ririliiriririr sc aTp (nI ts) aHl (nI nh) (lN ee) mi sn aHs (nI n) aWk (nI wz) aBk (nI bz) aFc), (zo1iri bo mdc aEl (nI sz_))]) hP [0, 1, 37] rfl
    refine ⟨_, _, _, c_xCount1 l dC dI h0 sc kp bl go ch bo aTp aHl aHs aWk aBk aFc aEl ts nh n wz bz mi sn ik x (lN ee) sz_ mdc tl zL.1, ⟨rfl, hPc, (K_mem hK (show ∀ p ∈ ([(cTp, .int), (cHs, .object "MistHeaps$Heap"), (cWk, .int), (cBk, .int), (cFc, .int), (kcTp, .int), (kcHs, .object "MistHeaps$Heap"), (kcWk, .int), (kcBk, .int), (kcFc, .int), (ceW, .int), (ceA, .int), (ceE, .int), (ceC, .int), (cR, .int), (cO, .int), (cD, .int), (cTO, .array .long), (cT, .long), (cT, .long), (cT, .long), (cHO, .array .int), (cH, .int), (cH, .int), (cH, .int), (cH, .int), (cH, .int), (cH, .int), (cH, .int), (cH, .int), (cEl, .object "java/lang/Object")] : List (ClassId × FieldType)), p ∈ T from fun p hp => by rcases List.mem_append.mp (show p ∈ [(cTp, .int), (cHs, .object "MistHeaps$Heap"), (cWk, .int), (cBk, .int), (cFc, .int), (kcTp, .int), (kcHs, .object "MistHeaps$Heap"), (kcWk, .int), (kcBk, .int), (kcFc, .int), (ceW, .int), (ceA, .int), (ceE, .int), (ceC, .int), (cR, .int), (cO, .int), (cD, .int), (cTO, .array .long), (cT, .long), (cT, .long), (cT, .long), (cHO, .array .int), (cH, .int), (cH, .int), (cH, .int), (cH, .int), (cH, .int), (cH, .int), (cH, .int), (cH, .int)] ++ [(cEl, .object "java/lang/Object")] from hp) with hp | hp; exact hTF p hp; (rw [List.mem_singleton.mp hp]; exact hTE))).sub [] rfl⟩, fun o t hQ => ?_, fun q hq => hq.elim⟩
    obtain ⟨r, rfl, hpost, hh⟩ := hQ
    refine ⟨⟨r, (ik, (n, wz, bz, mi, sn, yk, yv, yc, nh, ts, tc, hC, ee), (kn, kwz, kbz, kmi, ksn, kyk, kyv, kyc, knh, kts, ktc, khC, kee), tl), rfl, ⟨hpost, rfl⟩, _, T, by rw [hh]; exact hXI0, ⟨hD.1, fun k q hq => Or.inl ⟨k, q.2, hq⟩⟩, fun p hp => Or.inl hp⟩, by rw [hh]; exact Nat.le_refl _, fun q _ _ => by rw [hh]⟩

set_option maxHeartbeats 4000000 in
set_option maxRecDepth 100000 in
theorem w_act (l : Launch) (dC : Nat → ClassId) (dI : Nat → Nat → Nat) (gd : Nat → Nat) (kA : Nat) (ad : Nat → Nat) (cB bS : Nat) (sK sV : Nat → Nat) (Y : Nat → Prop) (ik : Int32) (vs kvs : VS) (tl : List Nat) (T : List (ClassId × FieldType)) (h0 : Nat) (X : va_W) (x : Int32) (y : Int32) (z : Int32) (sz : Nat) : Met l yX11_act wsX11_act ({ frames := 8, cells := 1, slots := 10, locals := 176 } : Room) (va_Pc [.ref h0, .int x, .int y, .int z] (fun U => U.heap.size = sz ∧ XI dC dI ad bS Y ik vs kvs tl T h0 X U.heap ∧ va_K (dC, dI) vwCl T U ∧ (∀ c ∈ X, ¬ Y c.1) ∧ (∀ q, sz ≤ q → ¬ Y q) ∧ GA gd kA ad cB bS sK sV (va_A X sz) U)) (va_Qi (fun (r : Int32) (u : Int32 × VS × VS × List Nat) => r = acR (vs.1) (vs.2.2.2.2.2.1) (vs.2.2.2.2.2.2.1) x y z ∧ u = (ik, vs, kvs, acT (vs.1) (vs.2.2.2.2.2.1) x y)) (fun (u : Int32 × VS × VS × List Nat) (t : State) => ∃ (X1 : va_W) (T1 : List (ClassId × FieldType)), XI dC dI ad bS Y u.1 u.2.1 u.2.2.1 u.2.2.2 T1 h0 X1 t.heap ∧ va_D (va_A X sz) X1 ∧ ∀ p ∈ T1, p ∈ T ∨ va_K (dC, dI) vwCl [p] t) (va_A X sz)) 1 10 (va_A X sz) := by
  refine met_wrap (fun args s hPc => ?_)
  obtain ⟨rfl, rfl, hXI, hK, hY1, hY2, hGA⟩ := hPc
  have hXI0 := hXI
  refine hXI _ (fun sc kp bl go ch bo aTp ts aHl nh ee mi sn aHs n aWk wz aBk bz aFc cTp fTp cHs fHs cWk fWk cBk fBk cFc fFc kTp kts kHl knh kee kmi ksn kHs kn kWk kwz kBk kbz kFc kcTp kfTp kcHs kfHs kcWk kfWk kcBk kfBk kcFc kfFc esg ecl eW eA eE eC cdd etv szz att em ceW feW ceA feA ceE feE ceC feC gR gO lk gS cR fR cO fO i0 scl ft fr dr tO hO cD fD cTO rt cT ft0 ft1 ft2 cHO rh cH g0 g1 g2 g3 g4 g5 g6 g7 sg cl bW bA bE bC hcd tpv hsz hat nmb cbW fbW cbA fbA cbE fbE cbC fbC ksg kcl kbW kbA kbE kbC khcd ktpv khsz khat knmb kcbW kfbW kcbA kfbA kcbE kfbE kcbC kfbC yi ya yk yv yc kyi kya kyk kyv kyc tc ktc hC khC LB hX hLB hP hD hTF hTH hTK hq1 hq2 hlk hq3 hq4 hq5 hZ hZk hHs hHk hvs hkv => ?_)
  subst hvs
  subst hkv
  obtain ⟨oTs, oNh, oN, oWz, oBz, oHs, oHn, oYk, oYv, oWk, oBk, oYt, oTx, oEe, oMi, oYc⟩ := hq1
  obtain ⟨koTs, koNh, koN, koWz, koBz, koHs, koHn, koYk, koYv, koWk, koBk, koYt, koTx, koEe, koMi, koYc⟩ := hq2
  obtain ⟨zcl, zE, zC, zH⟩ := hq3
  obtain ⟨kzcl, kzE, kzC, kzH⟩ := hq4
  obtain ⟨hcl, hem, zeE, zeC⟩ := hq5
  subst hX
  rcases hLB with ⟨mdc, rfl, rfl⟩ | ⟨mdc, aEl, cEl, sz_, fEl, rfl, hTE, hsz_, zL⟩
  · skip
    have hP : va_P (dC, dI) vwCl ([(zo13rrirrrr h0 sc kp ik bl go ch bo), (zo10ririliiriririr sc aTp (nI ts) aHl (nI nh) (lN ee) mi sn aHs (nI n) aWk (nI wz) aBk (nI bz) aFc), (zaI aTp cTp 100 fTp), (zaR aHs cHs 8 fHs), (zaI aWk cWk 6 fWk), (zaI aBk cBk 12 fBk), (zaI aFc cFc 6 fFc), (zo10ririliiriririr kp kTp (nI kts) kHl (nI knh) (lN kee) kmi ksn kHs (nI kn) kWk (nI kwz) kBk (nI kbz) kFc), (zaI kTp kcTp 100 kfTp), (zaR kHs kcHs 8 kfHs), (zaI kWk kcWk 6 kfWk), (zaI kBk kcBk 12 kfBk), (zaI kFc kcFc 6 kfFc), (zo7iirrrriviii bl esg (nI ecl) eW eA eE eC cdd etv szz att (nI em)), (zaI eW ceW 10 feW), (zaI eA ceA 10 feA), (zaI eE ceE 10 feE), (zaI eC ceC 100 feC), (zo4rrir go gR gO (nI lk) gS), (zaI gR cR 8 fR), (zaI gO cO 8 fO), (zo5iiii gS 0 (nI i0) 0 scl), (zo2lirrr ch ft fr dr tO hO), (zaI dr cD 36 fD), (zaR tO cTO 3 (fun i => if i < 3 then some (rt i) else none)), (zaL (rt 0) cT 36 ft0), (zaL (rt 1) cT 36 ft1), (zaL (rt 2) cT 36 ft2), (zaR hO cHO 8 (fun i => if i < 8 then some (rh i) else none)), (zaI (rh 0) cH 36 g0), (zaI (rh 1) cH 36 g1), (zaI (rh 2) cH 36 g2), (zaI (rh 3) cH 36 g3), (zaI (rh 4) cH 36 g4), (zaI (rh 5) cH 36 g5), (zaI (rh 6) cH 36 g6), (zaI (rh 7) cH 36 g7), (zo1iri bo mdc bS 0)] ++ []) s.heap := hP
    have hD : va_D (fun _ => True) ([(zo13rrirrrr h0 sc kp ik bl go ch bo), (zo10ririliiriririr sc aTp (nI ts) aHl (nI nh) (lN ee) mi sn aHs (nI n) aWk (nI wz) aBk (nI bz) aFc), (zaI aTp cTp 100 fTp), (zaR aHs cHs 8 fHs), (zaI aWk cWk 6 fWk), (zaI aBk cBk 12 fBk), (zaI aFc cFc 6 fFc), (zo10ririliiriririr kp kTp (nI kts) kHl (nI knh) (lN kee) kmi ksn kHs (nI kn) kWk (nI kwz) kBk (nI kbz) kFc), (zaI kTp kcTp 100 kfTp), (zaR kHs kcHs 8 kfHs), (zaI kWk kcWk 6 kfWk), (zaI kBk kcBk 12 kfBk), (zaI kFc kcFc 6 kfFc), (zo7iirrrriviii bl esg (nI ecl) eW eA eE eC cdd etv szz att (nI em)), (zaI eW ceW 10 feW), (zaI eA ceA 10 feA), (zaI eE ceE 10 feE), (zaI eC ceC 100 feC), (zo4rrir go gR gO (nI lk) gS), (zaI gR cR 8 fR), (zaI gO cO 8 fO), (zo5iiii gS 0 (nI i0) 0 scl), (zo2lirrr ch ft fr dr tO hO), (zaI dr cD 36 fD), (zaR tO cTO 3 (fun i => if i < 3 then some (rt i) else none)), (zaL (rt 0) cT 36 ft0), (zaL (rt 1) cT 36 ft1), (zaL (rt 2) cT 36 ft2), (zaR hO cHO 8 (fun i => if i < 8 then some (rh i) else none)), (zaI (rh 0) cH 36 g0), (zaI (rh 1) cH 36 g1), (zaI (rh 2) cH 36 g2), (zaI (rh 3) cH 36 g3), (zaI (rh 4) cH 36 g4), (zaI (rh 5) cH 36 g5), (zaI (rh 6) cH 36 g6), (zaI (rh 7) cH 36 g7), (zo1iri bo mdc bS 0)] ++ []) := hD
    have hwc := bl_mem (G := [(zo13rrirrrr h0 sc kp ik bl go ch bo), (zo10ririliiriririr sc aTp (nI ts) aHl (nI nh) (lN ee) mi sn aHs (nI n) aWk (nI wz) aBk (nI bz) aFc), (zaI aTp cTp 100 fTp), (zaR aHs cHs 8 fHs), (zaI aWk cWk 6 fWk), (zaI aBk cBk 12 fBk), (zaI aFc cFc 6 fFc), (zo10ririliiriririr kp kTp (nI kts) kHl (nI knh) (lN kee) kmi ksn kHs (nI kn) kWk (nI kwz) kBk (nI kbz) kFc), (zaI kTp kcTp 100 kfTp), (zaR kHs kcHs 8 kfHs), (zaI kWk kcWk 6 kfWk), (zaI kBk kcBk 12 kfBk), (zaI kFc kcFc 6 kfFc), (zo7iirrrriviii bl esg (nI ecl) eW eA eE eC cdd etv szz att (nI em)), (zaI eW ceW 10 feW), (zaI eA ceA 10 feA), (zaI eE ceE 10 feE), (zaI eC ceC 100 feC), (zo4rrir go gR gO (nI lk) gS), (zaI gR cR 8 fR), (zaI gO cO 8 fO), (zo5iiii gS 0 (nI i0) 0 scl), (zo2lirrr ch ft fr dr tO hO), (zaI dr cD 36 fD), (zaR tO cTO 3 (fun i => if i < 3 then some (rt i) else none)), (zaL (rt 0) cT 36 ft0), (zaL (rt 1) cT 36 ft1), (zaL (rt 2) cT 36 ft2), (zaR hO cHO 8 (fun i => if i < 8 then some (rh i) else none)), (zaI (rh 0) cH 36 g0), (zaI (rh 1) cH 36 g1), (zaI (rh 2) cH 36 g2), (zaI (rh 3) cH 36 g3), (zaI (rh 4) cH 36 g4), (zaI (rh 5) cH 36 g5), (zaI (rh 6) cH 36 g6), (zaI (rh 7) cH 36 g7), (zo1iri bo mdc bS 0)]) (F := [(zo13rrirrrr h0 sc kp ik bl go ch bo), (zo10ririliiriririr sc aTp (nI ts) aHl (nI nh) (lN ee) mi sn aHs (nI n) aWk (nI wz) aBk (nI bz) aFc), (zaR aHs cHs 8 fHs), (zo1iri bo mdc bS 0)]) (T := []) [0, 1, 3, 37] rfl
    have hPc := bl_sub (F := [(zo13rrirrrr h0 sc kp ik bl go ch bo), (zo10ririliiriririr sc aTp (nI ts) aHl (nI nh) (lN ee) mi sn aHs (nI n) aWk (nI wz) aBk (nI bz) aFc), (zaR aHs cHs 8 fHs), (zo1iri bo mdc bS 0)]) hP [0, 1, 3, 37] rfl
    refine ⟨_, _, _, c_xAct0 l dC dI ad cB bS h0 sc kp bl go ch bo aTp aHl aHs aWk aBk aFc ts nh n wz bz mi sn ik x y z (lN ee) cHs yk yv yc fHs yi ya mdc s.heap.size oHs oN oYt, ⟨rfl, rfl, hPc, (K_mem hK hTF).sub [1] rfl, bl_Dsub hD [0, 1, 3, 37] (by decide) rfl, hGA.2.2.2.1.call va_S.rf rfl (State.WarmedH.refl s) (bl_A hwc), hGA.2.2.2.2.1.call va_S.rf rfl (State.WarmedH.refl s) (bl_A hwc), hGA.2.1.call va_S.rf rfl (State.WarmedH.refl s) (bl_A hwc), hHs.at (K_mem hK (fun _ q => absurd q List.not_mem_nil)) hwc⟩, fun o t hQ => ?_, fun q hq => bl_A hwc q hq⟩
    obtain ⟨⟨r, u9, rfl, hpost, hB⟩, hz, hkp⟩ := hQ
    obtain ⟨L9, K9⟩ := u9
    try dsimp only at hpost hB
    obtain ⟨hP1, hK1, hD1⟩ := hB
    obtain ⟨hr9, hpost⟩ := hpost
    rcases hpost with ⟨mdc7, e1, e2, e5⟩ | ⟨mdc7, aEl7, cEl7, sz7, fEl7, e1, e2, v1_, v2_⟩
    · skip
      subst e1
      subst e2
      have hJ := bl_gen (F' := [(zo13rrirrrr h0 sc kp ik bl go ch bo), (zo10ririliiriririr sc aTp (nI ts) aHl (nI nh) (lN ee) mi sn aHs (nI n) aWk (nI wz) aBk (nI bz) aFc), (zaI aTp cTp 100 fTp), (zaR aHs cHs 8 fHs), (zaI aWk cWk 6 fWk), (zaI aBk cBk 12 fBk), (zaI aFc cFc 6 fFc), (zo10ririliiriririr kp kTp (nI kts) kHl (nI knh) (lN kee) kmi ksn kHs (nI kn) kWk (nI kwz) kBk (nI kbz) kFc), (zaI kTp kcTp 100 kfTp), (zaR kHs kcHs 8 kfHs), (zaI kWk kcWk 6 kfWk), (zaI kBk kcBk 12 kfBk), (zaI kFc kcFc 6 kfFc), (zo7iirrrriviii bl esg (nI ecl) eW eA eE eC cdd etv szz att (nI em)), (zaI eW ceW 10 feW), (zaI eA ceA 10 feA), (zaI eE ceE 10 feE), (zaI eC ceC 100 feC), (zo4rrir go gR gO (nI lk) gS), (zaI gR cR 8 fR), (zaI gO cO 8 fO), (zo5iiii gS 0 (nI i0) 0 scl), (zo2lirrr ch ft fr dr tO hO), (zaI dr cD 36 fD), (zaR tO cTO 3 (fun i => if i < 3 then some (rt i) else none)), (zaL (rt 0) cT 36 ft0), (zaL (rt 1) cT 36 ft1), (zaL (rt 2) cT 36 ft2), (zaR hO cHO 8 (fun i => if i < 8 then some (rh i) else none)), (zaI (rh 0) cH 36 g0), (zaI (rh 1) cH 36 g1), (zaI (rh 2) cH 36 g2), (zaI (rh 3) cH 36 g3), (zaI (rh 4) cH 36 g4), (zaI (rh 5) cH 36 g5), (zaI (rh 6) cH 36 g6), (zaI (rh 7) cH 36 g7), (zo1iri bo mdc7 bS 0)]) hP hD [0, 1, 3, 37] rfl hkp hP1 hD1 [some 0, some 1, none, some 2, none, none, none, none, none, none, none, none, none, none, none, none, none, none, none, none, none, none, none, none, none, none, none, none, none, none, none, none, none, none, none, none, none, some 3] [0, 1, 3, 37] rfl (Or.inr rfl) rfl
      have hX := D_mem hJ.2
      exact ⟨⟨r, (ik, (n, wz, bz, mi, sn, yk, yv, yc, nh, ts, tc, hC, ee), (kn, kwz, kbz, kmi, ksn, kyk, kyv, kyc, knh, kts, ktc, khC, kee), acT n yk x y), rfl, ⟨hr9, rfl⟩, _, T, (fun M9 k9 => k9 sc kp bl go ch bo aTp ts aHl nh ee mi sn aHs n aWk wz aBk bz aFc cTp fTp cHs fHs cWk fWk cBk fBk cFc fFc kTp kts kHl knh kee kmi ksn kHs kn kWk kwz kBk kbz kFc kcTp kfTp kcHs kfHs kcWk kfWk kcBk kfBk kcFc kfFc esg ecl eW eA eE eC cdd etv szz att em ceW feW ceA feA ceE feE ceC feC gR gO lk gS cR fR cO fO i0 scl ft fr dr tO hO cD fD cTO rt cT ft0 ft1 ft2 cHO rh cH g0 g1 g2 g3 g4 g5 g6 g7 sg cl bW bA bE bC hcd tpv hsz hat nmb cbW fbW cbA fbA cbE fbE cbC fbC ksg kcl kbW kbA kbE kbC khcd ktpv khsz khat knmb kcbW kfbW kcbA kfbA kcbE kfbE kcbC kfbC yi ya yk yv yc kyi kya kyk kyv kyc tc ktc hC khC [(zo1iri bo mdc7 bS 0)] rfl (Or.inl ⟨mdc7, rfl, e5⟩) hJ.1 ⟨hJ.2.1, fun _ _ _ => trivial⟩ (hTF) (hTH) (hTK) ⟨oTs, oNh, oN, oWz, oBz, oHs, oHn, oYk, oYv, oWk, oBk, oYt, oTx, oEe, oMi, oYc⟩ ⟨koTs, koNh, koN, koWz, koBz, koHs, koHn, koYk, koYv, koWk, koBk, koYt, koTx, koEe, koMi, koYc⟩ (hlk) ⟨zcl, zE, zC, zH⟩ ⟨kzcl, kzE, kzC, kzH⟩ ⟨hcl, hem, zeE, zeC⟩ (hZ.kept hkp hwc hX) (hZk.kept hkp hwc hX) (hHs.kept hkp hwc hX) (hHk.kept hkp hwc hX) rfl rfl), hJ.2, fun p hp => Or.inl hp⟩, hz, fun q h1 h2 => hkp q h1 (fun h => h2 (bl_A hwc _ h))⟩
    · skip
      subst e1
      subst e2
      have hJ := bl_gen (F' := [(zo13rrirrrr h0 sc kp ik bl go ch bo), (zo10ririliiriririr sc aTp (nI ts) aHl (nI nh) (lN ee) mi sn aHs (nI n) aWk (nI wz) aBk (nI bz) aFc), (zaI aTp cTp 100 fTp), (zaR aHs cHs 8 fHs), (zaI aWk cWk 6 fWk), (zaI aBk cBk 12 fBk), (zaI aFc cFc 6 fFc), (zo10ririliiriririr kp kTp (nI kts) kHl (nI knh) (lN kee) kmi ksn kHs (nI kn) kWk (nI kwz) kBk (nI kbz) kFc), (zaI kTp kcTp 100 kfTp), (zaR kHs kcHs 8 kfHs), (zaI kWk kcWk 6 kfWk), (zaI kBk kcBk 12 kfBk), (zaI kFc kcFc 6 kfFc), (zo7iirrrriviii bl esg (nI ecl) eW eA eE eC cdd etv szz att (nI em)), (zaI eW ceW 10 feW), (zaI eA ceA 10 feA), (zaI eE ceE 10 feE), (zaI eC ceC 100 feC), (zo4rrir go gR gO (nI lk) gS), (zaI gR cR 8 fR), (zaI gO cO 8 fO), (zo5iiii gS 0 (nI i0) 0 scl), (zo2lirrr ch ft fr dr tO hO), (zaI dr cD 36 fD), (zaR tO cTO 3 (fun i => if i < 3 then some (rt i) else none)), (zaL (rt 0) cT 36 ft0), (zaL (rt 1) cT 36 ft1), (zaL (rt 2) cT 36 ft2), (zaR hO cHO 8 (fun i => if i < 8 then some (rh i) else none)), (zaI (rh 0) cH 36 g0), (zaI (rh 1) cH 36 g1), (zaI (rh 2) cH 36 g2), (zaI (rh 3) cH 36 g3), (zaI (rh 4) cH 36 g4), (zaI (rh 5) cH 36 g5), (zaI (rh 6) cH 36 g6), (zaI (rh 7) cH 36 g7), (zo1iri bo mdc7 aEl7 (nI sz7)), (zaR aEl7 cEl7 10 fEl7)]) hP hD [0, 1, 3, 37] rfl hkp hP1 hD1 [some 0, some 1, none, some 2, none, none, none, none, none, none, none, none, none, none, none, none, none, none, none, none, none, none, none, none, none, none, none, none, none, none, none, none, none, none, none, none, none, some 3, some 4] [0, 1, 3, 37, 38] rfl (Or.inr rfl) rfl
      have hX := D_mem hJ.2
      exact ⟨⟨r, (ik, (n, wz, bz, mi, sn, yk, yv, yc, nh, ts, tc, hC, ee), (kn, kwz, kbz, kmi, ksn, kyk, kyv, kyc, knh, kts, ktc, khC, kee), acT n yk x y), rfl, ⟨hr9, rfl⟩, _, (cEl7, FieldType.object "java/lang/Object") :: T, (fun M9 k9 => k9 sc kp bl go ch bo aTp ts aHl nh ee mi sn aHs n aWk wz aBk bz aFc cTp fTp cHs fHs cWk fWk cBk fBk cFc fFc kTp kts kHl knh kee kmi ksn kHs kn kWk kwz kBk kbz kFc kcTp kfTp kcHs kfHs kcWk kfWk kcBk kfBk kcFc kfFc esg ecl eW eA eE eC cdd etv szz att em ceW feW ceA feA ceE feE ceC feC gR gO lk gS cR fR cO fO i0 scl ft fr dr tO hO cD fD cTO rt cT ft0 ft1 ft2 cHO rh cH g0 g1 g2 g3 g4 g5 g6 g7 sg cl bW bA bE bC hcd tpv hsz hat nmb cbW fbW cbA fbA cbE fbE cbC fbC ksg kcl kbW kbA kbE kbC khcd ktpv khsz khat knmb kcbW kfbW kcbA kfbA kcbE kfbE kcbC kfbC yi ya yk yv yc kyi kya kyk kyv kyc tc ktc hC khC [(zo1iri bo mdc7 aEl7 (nI sz7)), (zaR aEl7 cEl7 10 fEl7)] rfl (Or.inr ⟨mdc7, aEl7, cEl7, sz7, fEl7, rfl, List.mem_cons_self, v1_, v2_⟩) hJ.1 ⟨hJ.2.1, fun _ _ _ => trivial⟩ (fun p hp => List.mem_cons_of_mem _ (hTF p hp)) (fun p hp => List.mem_cons_of_mem _ (hTH p hp)) (fun p hp => List.mem_cons_of_mem _ (hTK p hp)) ⟨oTs, oNh, oN, oWz, oBz, oHs, oHn, oYk, oYv, oWk, oBk, oYt, oTx, oEe, oMi, oYc⟩ ⟨koTs, koNh, koN, koWz, koBz, koHs, koHn, koYk, koYv, koWk, koBk, koYt, koTx, koEe, koMi, koYc⟩ (hlk) ⟨zcl, zE, zC, zH⟩ ⟨kzcl, kzE, kzC, kzH⟩ ⟨hcl, hem, zeE, zeC⟩ (hZ.kept hkp hwc hX) (hZk.kept hkp hwc hX) (hHs.kept hkp hwc hX) (hHk.kept hkp hwc hX) rfl rfl), hJ.2, fun p hp => by rcases List.mem_cons.mp hp with rfl | hp; exact Or.inr (hK1.sub [1] rfl); exact Or.inl hp⟩, hz, fun q h1 h2 => hkp q h1 (fun h => h2 (bl_A hwc _ h))⟩
  · skip
    have hP : va_P (dC, dI) vwCl ([(zo13rrirrrr h0 sc kp ik bl go ch bo), (zo10ririliiriririr sc aTp (nI ts) aHl (nI nh) (lN ee) mi sn aHs (nI n) aWk (nI wz) aBk (nI bz) aFc), (zaI aTp cTp 100 fTp), (zaR aHs cHs 8 fHs), (zaI aWk cWk 6 fWk), (zaI aBk cBk 12 fBk), (zaI aFc cFc 6 fFc), (zo10ririliiriririr kp kTp (nI kts) kHl (nI knh) (lN kee) kmi ksn kHs (nI kn) kWk (nI kwz) kBk (nI kbz) kFc), (zaI kTp kcTp 100 kfTp), (zaR kHs kcHs 8 kfHs), (zaI kWk kcWk 6 kfWk), (zaI kBk kcBk 12 kfBk), (zaI kFc kcFc 6 kfFc), (zo7iirrrriviii bl esg (nI ecl) eW eA eE eC cdd etv szz att (nI em)), (zaI eW ceW 10 feW), (zaI eA ceA 10 feA), (zaI eE ceE 10 feE), (zaI eC ceC 100 feC), (zo4rrir go gR gO (nI lk) gS), (zaI gR cR 8 fR), (zaI gO cO 8 fO), (zo5iiii gS 0 (nI i0) 0 scl), (zo2lirrr ch ft fr dr tO hO), (zaI dr cD 36 fD), (zaR tO cTO 3 (fun i => if i < 3 then some (rt i) else none)), (zaL (rt 0) cT 36 ft0), (zaL (rt 1) cT 36 ft1), (zaL (rt 2) cT 36 ft2), (zaR hO cHO 8 (fun i => if i < 8 then some (rh i) else none)), (zaI (rh 0) cH 36 g0), (zaI (rh 1) cH 36 g1), (zaI (rh 2) cH 36 g2), (zaI (rh 3) cH 36 g3), (zaI (rh 4) cH 36 g4), (zaI (rh 5) cH 36 g5), (zaI (rh 6) cH 36 g6), (zaI (rh 7) cH 36 g7), (zo1iri bo mdc aEl (nI sz_)), (zaR aEl cEl 10 fEl)] ++ []) s.heap := hP
    have hD : va_D (fun _ => True) ([(zo13rrirrrr h0 sc kp ik bl go ch bo), (zo10ririliiriririr sc aTp (nI ts) aHl (nI nh) (lN ee) mi sn aHs (nI n) aWk (nI wz) aBk (nI bz) aFc), (zaI aTp cTp 100 fTp), (zaR aHs cHs 8 fHs), (zaI aWk cWk 6 fWk), (zaI aBk cBk 12 fBk), (zaI aFc cFc 6 fFc), (zo10ririliiriririr kp kTp (nI kts) kHl (nI knh) (lN kee) kmi ksn kHs (nI kn) kWk (nI kwz) kBk (nI kbz) kFc), (zaI kTp kcTp 100 kfTp), (zaR kHs kcHs 8 kfHs), (zaI kWk kcWk 6 kfWk), (zaI kBk kcBk 12 kfBk), (zaI kFc kcFc 6 kfFc), (zo7iirrrriviii bl esg (nI ecl) eW eA eE eC cdd etv szz att (nI em)), (zaI eW ceW 10 feW), (zaI eA ceA 10 feA), (zaI eE ceE 10 feE), (zaI eC ceC 100 feC), (zo4rrir go gR gO (nI lk) gS), (zaI gR cR 8 fR), (zaI gO cO 8 fO), (zo5iiii gS 0 (nI i0) 0 scl), (zo2lirrr ch ft fr dr tO hO), (zaI dr cD 36 fD), (zaR tO cTO 3 (fun i => if i < 3 then some (rt i) else none)), (zaL (rt 0) cT 36 ft0), (zaL (rt 1) cT 36 ft1), (zaL (rt 2) cT 36 ft2), (zaR hO cHO 8 (fun i => if i < 8 then some (rh i) else none)), (zaI (rh 0) cH 36 g0), (zaI (rh 1) cH 36 g1), (zaI (rh 2) cH 36 g2), (zaI (rh 3) cH 36 g3), (zaI (rh 4) cH 36 g4), (zaI (rh 5) cH 36 g5), (zaI (rh 6) cH 36 g6), (zaI (rh 7) cH 36 g7), (zo1iri bo mdc aEl (nI sz_)), (zaR aEl cEl 10 fEl)] ++ []) := hD
    have hwc := bl_mem (G := [(zo13rrirrrr h0 sc kp ik bl go ch bo), (zo10ririliiriririr sc aTp (nI ts) aHl (nI nh) (lN ee) mi sn aHs (nI n) aWk (nI wz) aBk (nI bz) aFc), (zaI aTp cTp 100 fTp), (zaR aHs cHs 8 fHs), (zaI aWk cWk 6 fWk), (zaI aBk cBk 12 fBk), (zaI aFc cFc 6 fFc), (zo10ririliiriririr kp kTp (nI kts) kHl (nI knh) (lN kee) kmi ksn kHs (nI kn) kWk (nI kwz) kBk (nI kbz) kFc), (zaI kTp kcTp 100 kfTp), (zaR kHs kcHs 8 kfHs), (zaI kWk kcWk 6 kfWk), (zaI kBk kcBk 12 kfBk), (zaI kFc kcFc 6 kfFc), (zo7iirrrriviii bl esg (nI ecl) eW eA eE eC cdd etv szz att (nI em)), (zaI eW ceW 10 feW), (zaI eA ceA 10 feA), (zaI eE ceE 10 feE), (zaI eC ceC 100 feC), (zo4rrir go gR gO (nI lk) gS), (zaI gR cR 8 fR), (zaI gO cO 8 fO), (zo5iiii gS 0 (nI i0) 0 scl), (zo2lirrr ch ft fr dr tO hO), (zaI dr cD 36 fD), (zaR tO cTO 3 (fun i => if i < 3 then some (rt i) else none)), (zaL (rt 0) cT 36 ft0), (zaL (rt 1) cT 36 ft1), (zaL (rt 2) cT 36 ft2), (zaR hO cHO 8 (fun i => if i < 8 then some (rh i) else none)), (zaI (rh 0) cH 36 g0), (zaI (rh 1) cH 36 g1), (zaI (rh 2) cH 36 g2), (zaI (rh 3) cH 36 g3), (zaI (rh 4) cH 36 g4), (zaI (rh 5) cH 36 g5), (zaI (rh 6) cH 36 g6), (zaI (rh 7) cH 36 g7), (zo1iri bo mdc aEl (nI sz_)), (zaR aEl cEl 10 fEl)]) (F := [(zo13rrirrrr h0 sc kp ik bl go ch bo), (zo10ririliiriririr sc aTp (nI ts) aHl (nI nh) (lN ee) mi sn aHs (nI n) aWk (nI wz) aBk (nI bz) aFc), (zaR aHs cHs 8 fHs), (zo1iri bo mdc aEl (nI sz_)), (zaR aEl cEl 10 fEl)]) (T := []) [0, 1, 3, 37, 38] rfl
    have hPc := bl_sub (F := [(zo13rrirrrr h0 sc kp ik bl go ch bo), (zo10ririliiriririr sc aTp (nI ts) aHl (nI nh) (lN ee) mi sn aHs (nI n) aWk (nI wz) aBk (nI bz) aFc), (zaR aHs cHs 8 fHs), (zo1iri bo mdc aEl (nI sz_)), (zaR aEl cEl 10 fEl)]) hP [0, 1, 3, 37, 38] rfl
    refine ⟨_, _, _, c_xAct1 l dC dI ad cB bS h0 sc kp bl go ch bo aTp aHl aHs aWk aBk aFc aEl ts nh n wz bz mi sn ik x y z (lN ee) cHs cEl yk yv yc fHs fEl yi ya sz_ mdc s.heap.size oHs oN hsz_ oYt, ⟨rfl, rfl, hPc, (K_mem hK (show ∀ p ∈ ([(cTp, .int), (cHs, .object "MistHeaps$Heap"), (cWk, .int), (cBk, .int), (cFc, .int), (kcTp, .int), (kcHs, .object "MistHeaps$Heap"), (kcWk, .int), (kcBk, .int), (kcFc, .int), (ceW, .int), (ceA, .int), (ceE, .int), (ceC, .int), (cR, .int), (cO, .int), (cD, .int), (cTO, .array .long), (cT, .long), (cT, .long), (cT, .long), (cHO, .array .int), (cH, .int), (cH, .int), (cH, .int), (cH, .int), (cH, .int), (cH, .int), (cH, .int), (cH, .int), (cEl, .object "java/lang/Object")] : List (ClassId × FieldType)), p ∈ T from fun p hp => by rcases List.mem_append.mp (show p ∈ [(cTp, .int), (cHs, .object "MistHeaps$Heap"), (cWk, .int), (cBk, .int), (cFc, .int), (kcTp, .int), (kcHs, .object "MistHeaps$Heap"), (kcWk, .int), (kcBk, .int), (kcFc, .int), (ceW, .int), (ceA, .int), (ceE, .int), (ceC, .int), (cR, .int), (cO, .int), (cD, .int), (cTO, .array .long), (cT, .long), (cT, .long), (cT, .long), (cHO, .array .int), (cH, .int), (cH, .int), (cH, .int), (cH, .int), (cH, .int), (cH, .int), (cH, .int), (cH, .int)] ++ [(cEl, .object "java/lang/Object")] from hp) with hp | hp; exact hTF p hp; (rw [List.mem_singleton.mp hp]; exact hTE))).sub [1, 30] rfl, bl_Dsub hD [0, 1, 3, 37, 38] (by decide) rfl, hGA.2.2.2.1.call va_S.rf rfl (State.WarmedH.refl s) (bl_A hwc), hGA.2.2.2.2.1.call va_S.rf rfl (State.WarmedH.refl s) (bl_A hwc), hGA.2.1.call va_S.rf rfl (State.WarmedH.refl s) (bl_A hwc), hHs.at (K_mem hK (fun _ q => absurd q List.not_mem_nil)) hwc⟩, fun o t hQ => ?_, fun q hq => bl_A hwc q hq⟩
    obtain ⟨⟨r, u9, rfl, hpost, hB⟩, hz, hkp⟩ := hQ
    obtain ⟨mdc9, sz_9, fEl9⟩ := u9
    try dsimp only at hpost hB
    obtain ⟨hP1, hK1, hD1⟩ := hB
    obtain ⟨hr9, v1_, v2_⟩ := hpost
    have hJ := bl_gen (F' := [(zo13rrirrrr h0 sc kp ik bl go ch bo), (zo10ririliiriririr sc aTp (nI ts) aHl (nI nh) (lN ee) mi sn aHs (nI n) aWk (nI wz) aBk (nI bz) aFc), (zaI aTp cTp 100 fTp), (zaR aHs cHs 8 fHs), (zaI aWk cWk 6 fWk), (zaI aBk cBk 12 fBk), (zaI aFc cFc 6 fFc), (zo10ririliiriririr kp kTp (nI kts) kHl (nI knh) (lN kee) kmi ksn kHs (nI kn) kWk (nI kwz) kBk (nI kbz) kFc), (zaI kTp kcTp 100 kfTp), (zaR kHs kcHs 8 kfHs), (zaI kWk kcWk 6 kfWk), (zaI kBk kcBk 12 kfBk), (zaI kFc kcFc 6 kfFc), (zo7iirrrriviii bl esg (nI ecl) eW eA eE eC cdd etv szz att (nI em)), (zaI eW ceW 10 feW), (zaI eA ceA 10 feA), (zaI eE ceE 10 feE), (zaI eC ceC 100 feC), (zo4rrir go gR gO (nI lk) gS), (zaI gR cR 8 fR), (zaI gO cO 8 fO), (zo5iiii gS 0 (nI i0) 0 scl), (zo2lirrr ch ft fr dr tO hO), (zaI dr cD 36 fD), (zaR tO cTO 3 (fun i => if i < 3 then some (rt i) else none)), (zaL (rt 0) cT 36 ft0), (zaL (rt 1) cT 36 ft1), (zaL (rt 2) cT 36 ft2), (zaR hO cHO 8 (fun i => if i < 8 then some (rh i) else none)), (zaI (rh 0) cH 36 g0), (zaI (rh 1) cH 36 g1), (zaI (rh 2) cH 36 g2), (zaI (rh 3) cH 36 g3), (zaI (rh 4) cH 36 g4), (zaI (rh 5) cH 36 g5), (zaI (rh 6) cH 36 g6), (zaI (rh 7) cH 36 g7), (zo1iri bo mdc9 aEl (nI sz_9)), (zaR aEl cEl 10 fEl9)]) hP hD [0, 1, 3, 37, 38] rfl hkp hP1 hD1 [some 0, some 1, none, some 2, none, none, none, none, none, none, none, none, none, none, none, none, none, none, none, none, none, none, none, none, none, none, none, none, none, none, none, none, none, none, none, none, none, some 3, some 4] [0, 1, 3, 37, 38] rfl (Or.inr rfl) rfl
    have hX := D_mem hJ.2
    exact ⟨⟨r, (ik, (n, wz, bz, mi, sn, yk, yv, yc, nh, ts, tc, hC, ee), (kn, kwz, kbz, kmi, ksn, kyk, kyv, kyc, knh, kts, ktc, khC, kee), acT n yk x y), rfl, ⟨hr9, rfl⟩, _, T, (fun M9 k9 => k9 sc kp bl go ch bo aTp ts aHl nh ee mi sn aHs n aWk wz aBk bz aFc cTp fTp cHs fHs cWk fWk cBk fBk cFc fFc kTp kts kHl knh kee kmi ksn kHs kn kWk kwz kBk kbz kFc kcTp kfTp kcHs kfHs kcWk kfWk kcBk kfBk kcFc kfFc esg ecl eW eA eE eC cdd etv szz att em ceW feW ceA feA ceE feE ceC feC gR gO lk gS cR fR cO fO i0 scl ft fr dr tO hO cD fD cTO rt cT ft0 ft1 ft2 cHO rh cH g0 g1 g2 g3 g4 g5 g6 g7 sg cl bW bA bE bC hcd tpv hsz hat nmb cbW fbW cbA fbA cbE fbE cbC fbC ksg kcl kbW kbA kbE kbC khcd ktpv khsz khat knmb kcbW kfbW kcbA kfbA kcbE kfbE kcbC kfbC yi ya yk yv yc kyi kya kyk kyv kyc tc ktc hC khC [(zo1iri bo mdc9 aEl (nI sz_9)), (zaR aEl cEl 10 fEl9)] rfl (Or.inr ⟨mdc9, aEl, cEl, sz_9, fEl9, rfl, hTE, v1_, v2_⟩) hJ.1 ⟨hJ.2.1, fun _ _ _ => trivial⟩ (hTF) (hTH) (hTK) ⟨oTs, oNh, oN, oWz, oBz, oHs, oHn, oYk, oYv, oWk, oBk, oYt, oTx, oEe, oMi, oYc⟩ ⟨koTs, koNh, koN, koWz, koBz, koHs, koHn, koYk, koYv, koWk, koBk, koYt, koTx, koEe, koMi, koYc⟩ (hlk) ⟨zcl, zE, zC, zH⟩ ⟨kzcl, kzE, kzC, kzH⟩ ⟨hcl, hem, zeE, zeC⟩ (hZ.kept hkp hwc hX) (hZk.kept hkp hwc hX) (hHs.kept hkp hwc hX) (hHk.kept hkp hwc hX) rfl rfl), hJ.2, fun p hp => Or.inl hp⟩, hz, fun q h1 h2 => hkp q h1 (fun h => h2 (bl_A hwc _ h))⟩
end mg19a
section mg19a
theorem ggX12_of_X12_isHeap : GoodIn wsX12_of wsX12_isHeap := gga_of 1320 rfl rfl rfl
theorem gX12_of_X12_isHeap : GoodIn wsX12_of (wsV RX12 164 RX12 yX12_isHeap wsX12_isHeap) := goodIn_app (ggh_of [1317, 1319, 37, 72] rfl rfl rfl) ggX12_of_X12_isHeap
theorem ggX12_of_X12_in : GoodIn wsX12_of wsX12_in := gga_of 1217 rfl rfl rfl
theorem gX12_of_X12_in : GoodIn wsX12_of (va_wsS RX12 45 yX12_in wsX12_in) := goodIn_app (ggh_of [1215, 1216, 72] rfl rfl rfl) ggX12_of_X12_in
theorem ggX12_of_X12_reachOf : GoodIn wsX12_of wsX12_reachOf := gga_of 1324 rfl rfl rfl
theorem gX12_of_X12_reachOf : GoodIn wsX12_of (wsV RX12 167 RX12 yX12_reachOf wsX12_reachOf) := goodIn_app (ggh_of [1321, 1323, 38, 72] rfl rfl rfl) ggX12_of_X12_reachOf
noncomputable def dk20aof_cX12_of_0 : List (Nat × List Nat) := [(0, [42]), (1, [27]), (2, [182, 0, 164]), (5, [153, 0, 12]), (8, [28]), (9, [3]), (10, [6]), (11, [184, 0, 45]), (14, [154, 0, 5]), (17, [2]), (18, [172]), (19, [28]), (20, [6]), (21, [160, 0, 11]), (24, [42]), (25, [27]), (26, [182, 0, 167]), (29, [167, 0, 17]), (32, [42]), (33, [180, 0, 9]), (36, [16, 10]), (38, [16, 9]), (40, [28]), (41, [104]), (42, [96]), (43, [27]), (44, [96]), (45, [46]), (46, [172])]
set_option maxRecDepth 100000 in
theorem dk20aof_cX12_of_0_a : btA cX12_of dk20aof_cX12_of_0 = true := by decide +kernel
theorem dX12_of_0 : decode cX12_of 0 = .ok (.aload_n 0, 1) := bd42 (btAt dk20aof_cX12_of_0_a 0 rfl)
theorem dX12_of_1 : decode cX12_of 1 = .ok (.iload_n 1, 1) := bd27 (btAt dk20aof_cX12_of_0_a 1 rfl)
theorem dX12_of_2 : decode cX12_of 2 = .ok (.invokevirtual 164, 3) := bd182 (a := 0) (b := 164) (btAt dk20aof_cX12_of_0_a 2 rfl)
theorem dX12_of_5 : decode cX12_of 5 = .ok (.ifCond .eq 12, 3) := bd153 (a := 0) (b := 12) (btAt dk20aof_cX12_of_0_a 3 rfl)
theorem dX12_of_8 : decode cX12_of 8 = .ok (.iload_n 2, 1) := bd28 (btAt dk20aof_cX12_of_0_a 4 rfl)
theorem dX12_of_9 : decode cX12_of 9 = .ok (.iconst 0, 1) := bd3 (btAt dk20aof_cX12_of_0_a 5 rfl)
theorem dX12_of_10 : decode cX12_of 10 = .ok (.iconst 3, 1) := bd6 (btAt dk20aof_cX12_of_0_a 6 rfl)
theorem dX12_of_11 : decode cX12_of 11 = .ok (.invokestatic 45, 3) := bd184 (a := 0) (b := 45) (btAt dk20aof_cX12_of_0_a 7 rfl)
theorem dX12_of_14 : decode cX12_of 14 = .ok (.ifCond .ne 5, 3) := bd154 (a := 0) (b := 5) (btAt dk20aof_cX12_of_0_a 8 rfl)
theorem dX12_of_17 : decode cX12_of 17 = .ok (.iconst (-1), 1) := bd2 (btAt dk20aof_cX12_of_0_a 9 rfl)
theorem dX12_of_18 : decode cX12_of 18 = .ok (.ireturn, 1) := bd172 (btAt dk20aof_cX12_of_0_a 10 rfl)
theorem dX12_of_19 : decode cX12_of 19 = .ok (.iload_n 2, 1) := bd28 (btAt dk20aof_cX12_of_0_a 11 rfl)
theorem dX12_of_20 : decode cX12_of 20 = .ok (.iconst 3, 1) := bd6 (btAt dk20aof_cX12_of_0_a 12 rfl)
theorem dX12_of_21 : decode cX12_of 21 = .ok (.if_icmp .ne 11, 3) := bd160 (a := 0) (b := 11) (btAt dk20aof_cX12_of_0_a 13 rfl)
theorem dX12_of_24 : decode cX12_of 24 = .ok (.aload_n 0, 1) := bd42 (btAt dk20aof_cX12_of_0_a 14 rfl)
theorem dX12_of_25 : decode cX12_of 25 = .ok (.iload_n 1, 1) := bd27 (btAt dk20aof_cX12_of_0_a 15 rfl)
theorem dX12_of_26 : decode cX12_of 26 = .ok (.invokevirtual 167, 3) := bd182 (a := 0) (b := 167) (btAt dk20aof_cX12_of_0_a 16 rfl)
theorem dX12_of_29 : decode cX12_of 29 = .ok (.goto 17, 3) := bd167 (a := 0) (b := 17) (btAt dk20aof_cX12_of_0_a 17 rfl)
theorem dX12_of_32 : decode cX12_of 32 = .ok (.aload_n 0, 1) := bd42 (btAt dk20aof_cX12_of_0_a 18 rfl)
theorem dX12_of_33 : decode cX12_of 33 = .ok (.getfield 9, 3) := bd180 (a := 0) (b := 9) (btAt dk20aof_cX12_of_0_a 19 rfl)
theorem dX12_of_36 : decode cX12_of 36 = .ok (.bipush 10, 2) := bd16 (a := 10) (btAt dk20aof_cX12_of_0_a 20 rfl)
theorem dX12_of_38 : decode cX12_of 38 = .ok (.bipush 9, 2) := bd16 (a := 9) (btAt dk20aof_cX12_of_0_a 21 rfl)
theorem dX12_of_40 : decode cX12_of 40 = .ok (.iload_n 2, 1) := bd28 (btAt dk20aof_cX12_of_0_a 22 rfl)
theorem dX12_of_41 : decode cX12_of 41 = .ok (.imul, 1) := bd104 (btAt dk20aof_cX12_of_0_a 23 rfl)
theorem dX12_of_42 : decode cX12_of 42 = .ok (.iadd, 1) := bd96 (btAt dk20aof_cX12_of_0_a 24 rfl)
theorem dX12_of_43 : decode cX12_of 43 = .ok (.iload_n 1, 1) := bd27 (btAt dk20aof_cX12_of_0_a 25 rfl)
theorem dX12_of_44 : decode cX12_of 44 = .ok (.iadd, 1) := bd96 (btAt dk20aof_cX12_of_0_a 26 rfl)
theorem dX12_of_45 : decode cX12_of 45 = .ok (.iaload, 1) := bd46 (btAt dk20aof_cX12_of_0_a 27 rfl)
theorem dX12_of_46 : decode cX12_of 46 = .ok (.ireturn, 1) := bd172 (btAt dk20aof_cX12_of_0_a 28 rfl)
theorem kc_mOf_0 : ∀ w ∈ wsX120, w ∈ wsX12_of := fun w h => List.mem_cons_of_mem _ (gin_wsX120 w h)
theorem kc_mOf_1 : (.fieldLink RX12 9 "MistHeapsModel" "s" "[I" : Cond) ∈ wsX12_of := kc_of 1141 rfl rfl rfl
set_option maxHeartbeats 4000000 in
set_option maxRecDepth 100000 in
theorem c_mOf (l : Launch) (dC : Nat → ClassId) (dI : Nat → Nat → Nat) (m0 aS aI aB aT aG aO aN aD aY : Nat) (th im ac sp en wg op se dn rn kd nu tv : Int32) (bv : Int64) (cS cB cT : ClassId) (fS : Nat → Int32) (fB : Nat → Int32) (fT : Nat → Int32) (n : Nat) (yk yv yc : Nat → Int32) (mi sn : Int32) (x y : Int32) (cz : List pCla) (sz : Nat) (zn : fS 0 = nI n) (hn : n ≤ 8) (zh : hol fS cz) (zkd : ∀ k, k < n → fS (10 + k) = yk k) (zvv : ∀ k, k < n → fS (19 + k) = yv k) (zc : ∀ k, k < n → fS (28 + k) = yc k) (zmi : fS 6 = mi) (zsn : fS 7 = sn) : Met l yX12_of wsX12_of ({ frames := 2, cells := 0, slots := 0, locals := 55 } : Room) (va_Pc [.ref m0, .int x, .int y] (fun U => U.heap.size = sz ∧ va_P (dC, dI) vwCl [(zo14irriiiiiirriirrrrlriiii m0 th aS aI im ac sp en wg op aB aT se dn aG aO aN aD bv aY rn kd nu tv), (zaI aS cS 901 fS), (zaI aB cB 6 fB), (zaI aT cT 64 fT)] U.heap ∧ va_K (dC, dI) vwCl [(cS, .int), (cB, .int), (cT, .boolean)] U ∧ va_D (fun _ => True) [(zo14irriiiiiirriirrrrlriiii m0 th aS aI im ac sp en wg op aB aT se dn aG aO aN aD bv aY rn kd nu tv), (zaI aS cS 901 fS), (zaI aB cB 6 fB), (zaI aT cT 64 fT)])) (va_Qi (fun (r : Int32) (u : (Nat → Int32) × (Nat → Int32) × (Int32) × (Int32)) => match u with | (fB9, fT9, se9, dn9) => r = ofR n yk yv yc cz mi sn x y) (fun (u : (Nat → Int32) × (Nat → Int32) × (Int32) × (Int32)) (t : State) => match u with | (fB9, fT9, se9, dn9) => va_P (dC, dI) vwCl [(zo14irriiiiiirriirrrrlriiii m0 th aS aI im ac sp en wg op aB aT se9 dn9 aG aO aN aD bv aY rn kd nu tv), (zaI aS cS 901 fS), (zaI aB cB 6 fB9), (zaI aT cT 64 fT9)] t.heap ∧ va_K (dC, dI) vwCl [(cS, .int), (cB, .int), (cT, .boolean)] t ∧ va_D (va_A [(zo14irriiiiiirriirrrrlriiii m0 th aS aI im ac sp en wg op aB aT se dn aG aO aN aD bv aY rn kd nu tv), (zaI aS cS 901 fS), (zaI aB cB 6 fB), (zaI aT cT 64 fT)] sz) [(zo14irriiiiiirriirrrrlriiii m0 th aS aI im ac sp en wg op aB aT se9 dn9 aG aO aN aD bv aY rn kd nu tv), (zaI aS cS 901 fS), (zaI aB cB 6 fB9), (zaI aT cT 64 fT9)]) (va_A [(zo14irriiiiiirriirrrrlriiii m0 th aS aI im ac sp en wg op aB aT se dn aG aO aN aD bv aY rn kd nu tv), (zaI aS cS 901 fS), (zaI aB cB 6 fB), (zaI aT cT 64 fT)] sz)) 0 0 (va_A [(zo14irriiiiiirriirrrrlriiii m0 th aS aI im ac sp en wg op aB aT se dn aG aO aN aD bv aY rn kd nu tv), (zaI aS cS 901 fS), (zaI aB cB 6 fB), (zaI aT cT 64 fT)] sz) := by
  refine met_ofQ (cc := cX12_of) (maxL := 3) (ret := (some .int)) (by decide) rfl ?_
  intro p e s m args below meth c s₁ Q B hml hv hQ
  obtain ⟨rfl, hsz, hP, hK, hD0⟩ := hv
  have hx := B.exec
  have hb := B.bytes
  have hr := B.returns
  have hts := atoms_spec (ws := wsX12_of) B.pre
  have hown : s.vm.findClass RX12 = some m.cls := findClass_of_methodNamed B.named
  have hlocks := B.notSynchronized
  subst hsz
  have hD := hD0.self (sz := s.heap.size)
  generalize hAe : va_A [(zo14irriiiiiirriirrrrlriiii m0 th aS aI im ac sp en wg op aB aT se dn aG aO aN aD bv aY rn kd nu tv), (zaI aS cS 901 fS), (zaI aB cB 6 fB), (zaI aT cT 64 fT)] s.heap.size = A at hD hQ ⊢
  have hA : ∀ q : Nat, s.heap.size ≤ q → A q := fun q h => by rw [← hAe]; exact Or.inr h
  have hS : va_S A s.heap s.heap [] := va_S.rf
  have hl := lv_entry [.ref m0, .int x, .int y] (n := 3) (Nat.le_of_ble_eq_true rfl)
  rw [lg_entry_eq]
  generalize (lg_sl [.ref m0, .int x, .int y] ++ List.replicate (3 - (lg_sl [.ref m0, .int x, .int y]).length) Slot.unset).toArray = ls at hl ⊢
  generalize hag : ([.ref m0, .int x, .int y] : List Value).toArray = args at hts hQ ⊢
  have hl : lv_has ls 3 [(0, .ref m0), (1, .int x), (2, .int y)] := hl
  obtain ⟨H, hH⟩ : ∃ H : Heap, H = s.heap := ⟨_, rfl⟩
  rw [← hH] at hP
  rw [← hH]
  have hS : va_S A s.heap H [] := by rw [hH]; exact hS
  obtain ⟨locs, hlo⟩ : ∃ L : List Loc, L = [] := ⟨_, rfl⟩
  rw [← hlo] at hS
  rw [← hlo]
  clear hH hlo
  refine lv_aload_n hx hb dX12_of_0 rfl (lv_at hl 0 rfl) ?_
  refine lv_iload_n hx hb dX12_of_1 rfl (lv_at hl 1 rfl) ?_
  have hPc := hP.sub (ws' := [(zo14irriiiiiirriirrrrlriiii m0 th aS aI im ac sp en wg op aB aT se dn aG aO aN aD bv aY rn kd nu tv), (zaI aS cS 901 fS)]) [0, 1] rfl
  have hKc := hK.sub (tys' := [(cS, .int)]) [0] rfl
  refine vp_callSi (va_runV (As := [.int x]) (rest := []) ⟨hx, hb, hml, hown, hts⟩ (c_isHeap l dC dI m0 aS aI aB aT aG aO aN aD aY th im ac sp en wg op se dn rn kd nu tv bv cS fS n x (zn) (hn)) (cwV 1 hts gX12_of_X12_isHeap rfl rfl rfl hd_yX12_isHeap ⟨Nat.le_of_ble_eq_true rfl, Nat.le_of_ble_eq_true rfl⟩) ⟨fun a U g mk q => by obtain ⟨q0, qP, qK⟩ := q; exact ⟨q0, mvP g mk a qP, mvK g mk a qK⟩, va_recv hK hP (ci := 14) (q := (RX12, TX12, 23)) (q0 := 0) rfl rfl, fun U hU hW => ⟨rfl, by rw [hU]; exact hPc, va_K.moved hW.alike hKc⟩⟩ rfl rfl hl.1 rfl (lv_room (Nat.le_of_ble_eq_true rfl)) dX12_of_2 ⟨Nat.le_of_ble_eq_true rfl, Nat.le_of_ble_eq_true rfl⟩).run (fun r_1 hw_2 => ?_)
  rcases hw_2 with ⟨rfl, j_3, hj_4, rfl⟩ | ⟨rfl, h_5⟩
  · skip
    refine lv_if_eq (tgt := 17) hx hb dX12_of_5 (by decide) (fun c_6 => absurd c_6 (by decide)) (fun _ => ?_)
    refine lv_iload_n hx hb dX12_of_8 rfl (lv_at hl 2 rfl) ?_
    refine lv_iconst (v := 0) hx hb dX12_of_9 (by decide) ?_
    refine lv_iconst (v := 3) hx hb dX12_of_10 (by decide) ?_
    refine vp_callSi (va_runS (As := [.int y, .int 0, .int 3]) (rest := []) ⟨hx, hb, hml, hown, hts⟩ (c_in l dC dI y 0 3) (va_cwS 3 hts gX12_of_X12_in rfl rfl rfl hd_yX12_in.2 ⟨Nat.le_of_ble_eq_true rfl, Nat.le_of_ble_eq_true rfl⟩) ⟨fun a U g mk q => ⟨q.1, trivial⟩, fun U hU hW => ⟨rfl, trivial⟩⟩ rfl rfl hl.1 rfl (lv_room (Nat.le_of_ble_eq_true rfl)) dX12_of_11 ⟨Nat.le_of_ble_eq_true rfl, Nat.le_of_ble_eq_true rfl⟩).run (fun r_7 hw_8 => ?_)
    rcases hw_8 with ⟨rfl, h_9, h_10⟩ | ⟨rfl, h_11⟩
    · skip
      obtain ⟨j_12, hj_13, rfl⟩ := nI_of2 (n := 3) (M := 3) rfl h_9 (Int32.not_lt.mp h_10)
      refine lv_if_ne (tgt := 19) hx hb dX12_of_14 (by decide) (fun _ => ?_) (fun c_14 => absurd c_14 (by decide))
      refine lv_iload_n hx hb dX12_of_19 rfl (lv_at hl 2 rfl) ?_
      refine lv_iconst (v := 3) hx hb dX12_of_20 (by decide) ?_
      refine lv_icmp_ne (tgt := 32) hx hb dX12_of_21 (by decide) (fun c_15 => ?_) (fun c_15 => ?_)
      · skip
        have c_15 : ¬ j_12 = 3 := fun q => c_15 ((nI_eq (a := j_12) (b := 3) (by omega) (by omega)).mpr q)
        refine lv_aload_n hx hb dX12_of_32 rfl (lv_at hl 0 rfl) ?_
        refine va_get (D := (dC, dI)) (ci := 14) (v := .ref aS) (C := RX12) (T := TX12) (N := 23) hx hb hts kc_mOf_0 hown hK hP 0 rfl rfl 1 (by decide) (hts (.fieldLink RX12 9 "MistHeapsModel" "s" "[I") kc_mOf_1) (fun _ h9 => h9) rfl dX12_of_33 ?_
        refine lv_bipush (v := 10) hx hb dX12_of_36 (by decide) ?_
        refine lv_bipush (v := 9) hx hb dX12_of_38 (by decide) ?_
        refine lv_iload_n hx hb dX12_of_40 rfl (lv_at hl 2 rfl) ?_
        refine lv_imul hx hb dX12_of_41 ?_
        refine qi_as (y := nI (9 * j_12)) (pk_mul 9 j_12) ?_
        refine lv_iadd hx hb dX12_of_42 ?_
        refine qi_as (y := nI (10 + (9 * j_12))) (nI_add 10 (9 * j_12)) ?_
        refine lv_iload_n hx hb dX12_of_43 rfl (lv_at hl 1 rfl) ?_
        refine lv_iadd hx hb dX12_of_44 ?_
        refine qi_as (y := nI ((10 + (9 * j_12)) + j_3)) (nI_add (10 + (9 * j_12)) j_3) ?_
        refine va_iald hx hb hK hP 1 0 rfl rfl (vp_in_nI (n := (10 + (9 * j_12)) + j_3) (N := 901) (by omega) (by omega)) dX12_of_45 ?_
        refine qi_as (y := fS ((10 + (9 * j_12)) + j_3)) (by rw [nI_clamp (by omega)]) ?_
        rw [hQ]
        have hP9 := hP.sub (ws' := [(zo14irriiiiiirriirrrrlriiii m0 th aS aI im ac sp en wg op aB aT se dn aG aO aN aD bv aY rn kd nu tv), (zaI aS cS 901 fS), (zaI aB cB 6 fB), (zaI aT cT 64 fT)]) [0, 1, 2, 3] rfl
        have hD9 := hD.sub (ws' := [(zo14irriiiiiirriirrrrlriiii m0 th aS aI im ac sp en wg op aB aT se dn aG aO aN aD bv aY rn kd nu tv), (zaI aS cS 901 fS), (zaI aB cB 6 fB), (zaI aT cT 64 fT)]) [0, 1, 2, 3] (by decide) rfl
        have hK9 := hK.sub (tys' := [(cS, .int), (cB, .int), (cT, .boolean)]) [0, 1, 2] rfl
        exact W.iret (v := fS ((10 + (9 * j_12)) + j_3)) hx hb hr (fun tQ htQ hWQ => ⟨⟨(fS ((10 + (9 * j_12)) + j_3)), (fB, fT, se, dn), rfl, of_m hn (by omega) (by omega) (by assumption) zkd zvv zc, by rw [htQ]; exact hP9, va_K.moved hWQ.alike hK9, hD9⟩, hS.F htQ⟩) hS.2.2 dX12_of_46
      · skip
        have c_15 : j_12 = 3 := (nI_eq (a := j_12) (b := 3) (by omega) (by omega)).mp c_15
        refine lv_aload_n hx hb dX12_of_24 rfl (lv_at hl 0 rfl) ?_
        refine lv_iload_n hx hb dX12_of_25 rfl (lv_at hl 1 rfl) ?_
        have hPc := hP.sub (ws' := [(zo14irriiiiiirriirrrrlriiii m0 th aS aI im ac sp en wg op aB aT se dn aG aO aN aD bv aY rn kd nu tv), (zaI aS cS 901 fS), (zaI aB cB 6 fB), (zaI aT cT 64 fT)]) [0, 1, 2, 3] rfl
        have hDc := hD.sub (ws' := [(zo14irriiiiiirriirrrrlriiii m0 th aS aI im ac sp en wg op aB aT se dn aG aO aN aD bv aY rn kd nu tv), (zaI aS cS 901 fS), (zaI aB cB 6 fB), (zaI aT cT 64 fT)]) [0, 1, 2, 3] (by decide) rfl
        have hKc := hK.sub (tys' := [(cS, .int), (cB, .int), (cT, .boolean)]) [0, 1, 2] rfl
        have hFc := va_free (wc := [(zo14irriiiiiirriirrrrlriiii m0 th aS aI im ac sp en wg op aB aT se dn aG aO aN aD bv aY rn kd nu tv), (zaI aS cS 901 fS), (zaI aB cB 6 fB), (zaI aT cT 64 fT)]) hD hS hA [0, 1, 2, 3] rfl
        refine va_calli (va_runV (As := [.int (nI j_3)]) (rest := []) ⟨hx, hb, hml, hown, hts⟩ (c_reachOf l dC dI m0 aS aI aB aT aG aO aN aD aY th im ac sp en wg op se dn rn kd nu tv bv cS cB cT fS fB fT j_3 cz H.size (by omega) (zh)) (cwV 1 hts gX12_of_X12_reachOf rfl rfl rfl hd_yX12_reachOf ⟨Nat.le_of_ble_eq_true rfl, Nat.le_of_ble_eq_true rfl⟩) ⟨fun a U g mk q => by obtain ⟨q0, q1, qP, qK, qD⟩ := q; exact ⟨q0, mvz g mk a q1, mvP g mk a qP, mvK g mk a qK, qD⟩, va_recv hK hP (ci := 14) (q := (RX12, TX12, 23)) (q0 := 0) rfl rfl, fun U hU hW => ⟨rfl, by rw [hU], by rw [hU]; exact hPc, va_K.moved hW.alike hKc, hDc.weaken (fun _ _ _ _ => trivial)⟩⟩ rfl rfl hl.1 rfl (lv_room (Nat.le_of_ble_eq_true rfl)) dX12_of_26 ⟨Nat.le_of_ble_eq_true rfl, Nat.le_of_ble_eq_true rfl⟩) hS (fun q _ h => hFc q h) hFc (fun r_16 u tC H1 locs htC hvm hw_17 hB hz1 hk1 hS => ?_)
        obtain ⟨fB9_18, fT9_19, se9_20, dn9_21⟩ := u
        try dsimp only at hw_17 hB
        obtain ⟨hP1, hK1, hD1⟩ := hB
        rw [htC] at hP1
        have hK1 := va_K.moved hvm.symm hK1
        obtain ⟨hP, hD⟩ := va_join (wr := []) (w1 := [(zo14irriiiiiirriirrrrlriiii m0 th aS aI im ac sp en wg op aB aT se9_20 dn9_21 aG aO aN aD bv aY rn kd nu tv), (zaI aS cS 901 fS), (zaI aB cB 6 fB9_18), (zaI aT cT 64 fT9_19)]) hP hD [0, 1, 2, 3] [] rfl rfl (by decide) (by decide) hk1 hFc hP1 hD1
        have hK := (hK.sub (tys' := []) [] rfl).app hK1
        generalize H1 = H at hP hS ⊢
        have hP : va_P (dC, dI) vwCl [(zo14irriiiiiirriirrrrlriiii m0 th aS aI im ac sp en wg op aB aT se9_20 dn9_21 aG aO aN aD bv aY rn kd nu tv), (zaI aS cS 901 fS), (zaI aB cB 6 fB9_18), (zaI aT cT 64 fT9_19)] H := hP
        have hD : va_D A [(zo14irriiiiiirriirrrrlriiii m0 th aS aI im ac sp en wg op aB aT se9_20 dn9_21 aG aO aN aD bv aY rn kd nu tv), (zaI aS cS 901 fS), (zaI aB cB 6 fB9_18), (zaI aT cT 64 fT9_19)] := hD
        have hK : va_K (dC, dI) vwCl [(cS, .int), (cB, .int), (cT, .boolean)] s := hK
        obtain rfl := hw_17
        refine lv_goto (tgt := 46) hx hb dX12_of_29 (by decide) ?_
        rw [hQ]
        have hP9 := hP.sub (ws' := [(zo14irriiiiiirriirrrrlriiii m0 th aS aI im ac sp en wg op aB aT se9_20 dn9_21 aG aO aN aD bv aY rn kd nu tv), (zaI aS cS 901 fS), (zaI aB cB 6 fB9_18), (zaI aT cT 64 fT9_19)]) [0, 1, 2, 3] rfl
        have hD9 := hD.sub (ws' := [(zo14irriiiiiirriirrrrlriiii m0 th aS aI im ac sp en wg op aB aT se9_20 dn9_21 aG aO aN aD bv aY rn kd nu tv), (zaI aS cS 901 fS), (zaI aB cB 6 fB9_18), (zaI aT cT 64 fT9_19)]) [0, 1, 2, 3] (by decide) rfl
        have hK9 := hK.sub (tys' := [(cS, .int), (cB, .int), (cT, .boolean)]) [0, 1, 2] rfl
        exact W.iret (v := RR fS cz j_3) hx hb hr (fun tQ htQ hWQ => ⟨⟨(RR fS cz j_3), (fB9_18, fT9_19, se9_20, dn9_21), rfl, by obtain rfl : j_12 = 3 := (by omega); exact of_3 hn (by omega) zkd zvv zc zmi zsn, by rw [htQ]; exact hP9, va_K.moved hWQ.alike hK9, hD9⟩, hS.F htQ⟩) hS.2.2 dX12_of_46
    · skip
      refine lv_if_ne (tgt := 19) hx hb dX12_of_14 (by decide) (fun c_22 => absurd c_22 (by decide)) (fun _ => ?_)
      refine lv_iconst (v := (-1)) hx hb dX12_of_17 (by decide) ?_
      rw [hQ]
      have hP9 := hP.sub (ws' := [(zo14irriiiiiirriirrrrlriiii m0 th aS aI im ac sp en wg op aB aT se dn aG aO aN aD bv aY rn kd nu tv), (zaI aS cS 901 fS), (zaI aB cB 6 fB), (zaI aT cT 64 fT)]) [0, 1, 2, 3] rfl
      have hD9 := hD.sub (ws' := [(zo14irriiiiiirriirrrrlriiii m0 th aS aI im ac sp en wg op aB aT se dn aG aO aN aD bv aY rn kd nu tv), (zaI aS cS 901 fS), (zaI aB cB 6 fB), (zaI aT cT 64 fT)]) [0, 1, 2, 3] (by decide) rfl
      have hK9 := hK.sub (tys' := [(cS, .int), (cB, .int), (cT, .boolean)]) [0, 1, 2] rfl
      exact W.iret (v := (-1)) hx hb hr (fun tQ htQ hWQ => ⟨⟨(-1), (fB, fT, se, dn), rfl, of_y hn (by omega) (by assumption), by rw [htQ]; exact hP9, va_K.moved hWQ.alike hK9, hD9⟩, hS.F htQ⟩) hS.2.2 dX12_of_18
  · skip
    refine lv_if_eq (tgt := 17) hx hb dX12_of_5 (by decide) (fun _ => ?_) (fun c_23 => absurd c_23 (by decide))
    refine lv_iconst (v := (-1)) hx hb dX12_of_17 (by decide) ?_
    rw [hQ]
    have hP9 := hP.sub (ws' := [(zo14irriiiiiirriirrrrlriiii m0 th aS aI im ac sp en wg op aB aT se dn aG aO aN aD bv aY rn kd nu tv), (zaI aS cS 901 fS), (zaI aB cB 6 fB), (zaI aT cT 64 fT)]) [0, 1, 2, 3] rfl
    have hD9 := hD.sub (ws' := [(zo14irriiiiiirriirrrrlriiii m0 th aS aI im ac sp en wg op aB aT se dn aG aO aN aD bv aY rn kd nu tv), (zaI aS cS 901 fS), (zaI aB cB 6 fB), (zaI aT cT 64 fT)]) [0, 1, 2, 3] (by decide) rfl
    have hK9 := hK.sub (tys' := [(cS, .int), (cB, .int), (cT, .boolean)]) [0, 1, 2] rfl
    exact W.iret (v := (-1)) hx hb hr (fun tQ htQ hWQ => ⟨⟨(-1), (fB, fT, se, dn), rfl, of_no (by assumption), by rw [htQ]; exact hP9, va_K.moved hWQ.alike hK9, hD9⟩, hS.F htQ⟩) hS.2.2 dX12_of_18
end mg19a
section mg19a

noncomputable def MOK (f : Nat → Int32) (n wk kb hl tp : Nat) : Prop := n ≤ 8 ∧ f 0 = nI n ∧ hl ≤ 5 ∧ f 1 = nI hl ∧ wk ≤ 6 ∧ f 2 = nI wk ∧ kb ≤ 12 ∧ f 3 = nI kb ∧ (∀ i, i < 12 → ∃ j : Nat, j < 8 ∧ f (79 + i) = nI j) ∧ tp ≤ 100 ∧ f 4 = nI tp ∧ holdH f hl
theorem MOK_rest {f g : Nat → Int32} {n wk kb hl tp : Nat} (h : MOK f n wk kb hl tp) (he : ∀ i, i ≤ 5 ∨ (79 ≤ i ∧ i < 91) ∨ (191 ≤ i ∧ i < 901) → g i = f i) : MOK g n wk kb hl tp := by
  obtain ⟨hn, zn, h5, z1, hw6, zw, hk12, zk, zb, ht, zt, hHd⟩ := h
  refine ⟨hn, (he 0 (by omega)).trans zn, h5, (he 1 (by omega)).trans z1, hw6, (he 2 (by omega)).trans zw, hk12, (he 3 (by omega)).trans zk, fun i hi => ?_, ht, (he 4 (by omega)).trans zt, holdH_of hHd h5 (fun i hi => he i (by omega))⟩
  obtain ⟨j, hj, e⟩ := zb i hi
  exact ⟨j, hj, (he _ (by omega)).trans e⟩
theorem MOK_heap {f g : Nat → Int32} {n wk kb hl tp n9 : Nat} (h : MOK f n wk kb hl tp) (h9 : n9 ≤ 8) (z9 : g 0 = nI n9) (he : ∀ i, i ≠ 0 → ¬ (10 ≤ i ∧ i < 37) → g i = f i) : MOK g n9 wk kb hl tp := by
  obtain ⟨hn, zn, h5, z1, hw6, zw, hk12, zk, zb, ht, zt, hHd⟩ := h
  refine ⟨h9, z9, h5, (he 1 (by omega) (by omega)).trans z1, hw6, (he 2 (by omega) (by omega)).trans zw, hk12, (he 3 (by omega) (by omega)).trans zk, fun i hi => ?_, ht, (he 4 (by omega) (by omega)).trans zt, holdH_of hHd h5 (fun i hi => he i (by omega) (by omega))⟩
  obtain ⟨j, hj, e⟩ := zb i hi
  exact ⟨j, hj, (he _ (by omega) (by omega)).trans e⟩
theorem MOK_walk {f g : Nat → Int32} {n wk kb hl tp w9 : Nat} (h : MOK f n wk kb hl tp) (h9 : w9 ≤ 6) (z9 : g 2 = nI w9) (he : ∀ i, i ≠ 2 → ¬ (73 ≤ i ∧ i < 79) → g i = f i) : MOK g n w9 kb hl tp := by
  obtain ⟨hn, zn, h5, z1, hw6, zw, hk12, zk, zb, ht, zt, hHd⟩ := h
  refine ⟨hn, (he 0 (by omega) (by omega)).trans zn, h5, (he 1 (by omega) (by omega)).trans z1, h9, z9, hk12, (he 3 (by omega) (by omega)).trans zk, fun i hi => ?_, ht, (he 4 (by omega) (by omega)).trans zt, holdH_of hHd h5 (fun i hi => he i (by omega) (by omega))⟩
  obtain ⟨j, hj, e⟩ := zb i hi
  exact ⟨j, hj, (he _ (by omega) (by omega)).trans e⟩
theorem MOK_feed {f g : Nat → Int32} {n wk kb hl tp t9 : Nat} (h : MOK f n wk kb hl tp) (h9 : t9 ≤ 100) (z9 : g 4 = nI t9) (he : ∀ i, i ≠ 4 → ¬ (91 ≤ i ∧ i < 191) → g i = f i) : MOK g n wk kb hl t9 := by
  obtain ⟨hn, zn, h5, z1, hw6, zw, hk12, zk, zb, ht, zt, hHd⟩ := h
  refine ⟨hn, (he 0 (by omega) (by omega)).trans zn, h5, (he 1 (by omega) (by omega)).trans z1, hw6, (he 2 (by omega) (by omega)).trans zw, hk12, (he 3 (by omega) (by omega)).trans zk, fun i hi => ?_, h9, z9, holdH_of hHd h5 (fun i hi => he i (by omega) (by omega))⟩
  obtain ⟨j, hj, e⟩ := zb i hi
  exact ⟨j, hj, (he _ (by omega) (by omega)).trans e⟩
theorem MOK_book {f g : Nat → Int32} {n wk kb hl tp k9 : Nat} (h : MOK f n wk kb hl tp) (h9 : k9 ≤ 12) (z9 : g 3 = nI k9) (zb9 : ∀ i, i < 12 → ∃ j : Nat, j < 8 ∧ g (79 + i) = nI j) (he : ∀ i, i ≠ 3 → ¬ (79 ≤ i ∧ i < 91) → g i = f i) : MOK g n wk k9 hl tp := by
  obtain ⟨hn, zn, h5, z1, hw6, zw, hk12, zk, zb, ht, zt, hHd⟩ := h
  exact ⟨hn, (he 0 (by omega) (by omega)).trans zn, h5, (he 1 (by omega) (by omega)).trans z1, hw6, (he 2 (by omega) (by omega)).trans zw, h9, z9, zb9, ht, (he 4 (by omega) (by omega)).trans zt, holdH_of hHd h5 (fun i hi => he i (by omega) (by omega))⟩
theorem MOK_hill {f g : Nat → Int32} {n wk kb hl tp hl9 t9 : Nat} (h : MOK f n wk kb hl tp) (hq : HQ f g) (h9 : hl9 ≤ 5) (z9 : g 1 = nI hl9) (t9l : t9 ≤ 100) (zt9 : g 4 = nI t9) : MOK g n wk kb hl9 t9 := by
  obtain ⟨hn, zn, h5, z1, hw6, zw, hk12, zk, zb, ht, zt, hHd⟩ := h
  obtain ⟨⟨hl8, g5, g1, gH⟩, ⟨t8, gt, g4⟩, he⟩ := hq
  have e8 : hl8 = hl9 := (nI_eq (by omega) (by omega)).mp (g1.symm.trans z9)
  subst e8
  refine ⟨hn, (he 0 (by omega) (by omega) (by omega) (by omega)).trans zn, g5, g1, hw6, (he 2 (by omega) (by omega) (by omega) (by omega)).trans zw, hk12, (he 3 (by omega) (by omega) (by omega) (by omega)).trans zk, fun i hi => ?_, t9l, zt9, gH⟩
  obtain ⟨j, hj, e⟩ := zb i hi
  exact ⟨j, hj, (he _ (by omega) (by omega) (by omega) (by omega)).trans e⟩
theorem MOK_b {f : Nat → Int32} {n wk kb hl tp : Nat} (h : MOK f n wk kb hl tp) : hl ≤ 5 ∧ tp ≤ 100 := by
  obtain ⟨hn, zn, h5, z1, hw6, zw, hk12, zk, zb, ht, zt, hHd⟩ := h
  exact ⟨h5, ht⟩
theorem MOK_n {f : Nat → Int32} {n wk kb hl tp : Nat} (h : MOK f n wk kb hl tp) : f 0 = nI n ∧ n ≤ 8 := by
  obtain ⟨hn, zn, h5, z1, hw6, zw, hk12, zk, zb, ht, zt, hHd⟩ := h
  exact ⟨zn, hn⟩
/-- what else is visible of the reference's numbers -/
noncomputable def MV (f : Nat → Int32) (n : Nat) (mi sn : Int32) (yk yv yc : Nat → Int32) (ee : Nat) : Prop := f 6 = mi ∧ f 7 = sn ∧ (∀ k, k < n → f (10 + k) = yk k) ∧ (∀ k, k < n → f (19 + k) = yv k) ∧ (∀ k, k < n → f (28 + k) = yc k) ∧ (∀ k, k < 36 → f (37 + k) = nI (ee / 2 ^ k % 2)) ∧ mb mi
theorem MV_of {f g : Nat → Int32} {n ee : Nat} {mi sn : Int32} {yk yv yc : Nat → Int32} (h : MV f n mi sn yk yv yc ee) (he : ∀ i, i = 6 ∨ i = 7 ∨ (10 ≤ i ∧ i < 10 + n) ∨ (19 ≤ i ∧ i < 19 + n) ∨ (28 ≤ i ∧ i < 28 + n) ∨ (37 ≤ i ∧ i < 73) → g i = f i) : MV g n mi sn yk yv yc ee := ⟨(he 6 (by omega)).trans h.1, (he 7 (by omega)).trans h.2.1, fun k hk => (he _ (by omega)).trans (h.2.2.1 k hk), fun k hk => (he _ (by omega)).trans (h.2.2.2.1 k hk), fun k hk => (he _ (by omega)).trans (h.2.2.2.2.1 k hk), fun k hk => (he _ (by omega)).trans (h.2.2.2.2.2.1 k hk), h.2.2.2.2.2.2⟩
theorem MV_edg {f g : Nat → Int32} {n ee e : Nat} {mi sn : Int32} {yk yv yc : Nat → Int32} (h : MV f n mi sn yk yv yc ee) (hn : n ≤ 8) (he : ∀ i, ¬ (37 ≤ i ∧ i < 73) → g i = f i) (h2 : ∀ k, k < 36 → g (37 + k) = nI (e / 2 ^ k % 2)) : MV g n mi sn yk yv yc e := ⟨(he 6 (by omega)).trans h.1, (he 7 (by omega)).trans h.2.1, fun k hk => (he _ (by omega)).trans (h.2.2.1 k hk), fun k hk => (he _ (by omega)).trans (h.2.2.2.1 k hk), fun k hk => (he _ (by omega)).trans (h.2.2.2.2.1 k hk), h2, h.2.2.2.2.2.2⟩
theorem MV_put {f : Nat → Int32} {n ee : Nat} {mi sn x y z v : Int32} {yk yv yc : Nat → Int32} (h : MV f n mi sn yk yv yc ee) (hn : n < 8) : MV (upd (upd (upd (upd f (10 + n) x) (19 + n) y) (28 + n) z) 0 v) (n + 1) mi sn (fun k => if k = n then x else yk k) (fun k => if k = n then y else yv k) (fun k => if k = n then z else yc k) ee := by
  have hw : ∀ i, i ≠ 0 → i ≠ 28 + n → i ≠ 19 + n → i ≠ 10 + n → upd (upd (upd (upd f (10 + n) x) (19 + n) y) (28 + n) z) 0 v i = f i := fun i a b c d => by rw [pk_un a, pk_un b, pk_un c, pk_un d]
  refine ⟨(hw 6 (by omega) (by omega) (by omega) (by omega)).trans h.1, (hw 7 (by omega) (by omega) (by omega) (by omega)).trans h.2.1, fun k hk => ?_, fun k hk => ?_, fun k hk => ?_, fun k hk => (hw _ (by omega) (by omega) (by omega) (by omega)).trans (h.2.2.2.2.2.1 k hk), h.2.2.2.2.2.2⟩
  · by_cases q : k = n
    · subst q
      rw [pk_un (by omega), pk_un (by omega), pk_un (by omega), pk_us]; exact (if_pos rfl).symm
    · rw [hw _ (by omega) (by omega) (by omega) (by omega)]; exact (h.2.2.1 k (by omega)).trans (if_neg q).symm
  · by_cases q : k = n
    · subst q
      rw [pk_un (by omega), pk_un (by omega), pk_us]; exact (if_pos rfl).symm
    · rw [hw _ (by omega) (by omega) (by omega) (by omega)]; exact (h.2.2.2.1 k (by omega)).trans (if_neg q).symm
  · by_cases q : k = n
    · subst q
      rw [pk_un (by omega), pk_us]; exact (if_pos rfl).symm
    · rw [hw _ (by omega) (by omega) (by omega) (by omega)]; exact (h.2.2.2.2.1 k (by omega)).trans (if_neg q).symm
/-- the tape, and the hill that is set -/
noncomputable def MH (f : Nat → Int32) (hl tp : Nat) (tc : Nat → Nat) (hC : List pCla) : Prop := TP f tp tc ∧ ((f 5 = -1 ∧ hC = []) ∨ ∃ h : Nat, h < hl ∧ f 5 = nI h ∧ CDh f h hC ∧ WfC hC)
theorem MH_of {f g : Nat → Int32} {hl tp : Nat} {tc : Nat → Nat} {hC : List pCla} (h : MH f hl tp tc hC) (hl5 : hl ≤ 5) (ht : tp ≤ 100) (he : ∀ i, i = 5 ∨ (91 ≤ i ∧ i < 191) ∨ (191 ≤ i ∧ i < 901) → g i = f i) : MH g hl tp tc hC := by
  obtain ⟨h1, h2⟩ := h
  refine ⟨⟨fun p hp => (he _ (by omega)).trans (h1.1 p hp), h1.2⟩, ?_⟩
  rcases h2 with ⟨h2, h3⟩ | ⟨k, hk, h2, h3⟩
  · exact Or.inl ⟨(he 5 (by omega)).trans h2, h3⟩
  · exact Or.inr ⟨k, hk, (he 5 (by omega)).trans h2, ⟨CDh_of h3.1 (fun i hi => he i (by omega)), h3.2⟩⟩
theorem MH_sg {f : Nat → Int32} {hl tp : Nat} {tc : Nat → Nat} {hC : List pCla} (h : MH f hl tp tc hC) (hl5 : hl ≤ 5) : (f 5 = -1 ∧ sgC hC = 3) ∨ ∃ k : Nat, k < 5 ∧ f 5 = nI k ∧ f (191 + k) = nI (sgC hC) := by
  rcases h.2 with ⟨h2, h3⟩ | ⟨k, hk, h2, h3⟩
  · exact Or.inl ⟨h2, by rw [h3]; rfl⟩
  · exact Or.inr ⟨k, by omega, h2, h3.1.2.2.2⟩
theorem MH_feed {f : Nat → Int32} {hl tp : Nat} {tc : Nat → Nat} {hC : List pCla} {x v : Int32} (h : MH f hl tp tc hC) (hl5 : hl ≤ 5) (ht : tp < 100) (h1 : ¬ x < 0) (h2 : ¬ 127 < x) : MH (upd (upd f (91 + tp) x) 4 v) hl (tp + 1) (fun k => if k = tp then x.toNatClampNeg else tc k) hC := by
  refine ⟨TP_add h.1 h1 h2, ?_⟩
  have he : ∀ i, i = 5 ∨ (191 ≤ i ∧ i < 901) → upd (upd f (91 + tp) x) 4 v i = f i := fun i hi => by rw [pk_un (by omega), pk_un (by omega)]
  rcases h.2 with ⟨h2, h3⟩ | ⟨k, hk, h2, h3⟩
  · exact Or.inl ⟨(he 5 (by omega)).trans h2, h3⟩
  · exact Or.inr ⟨k, hk, (he 5 (by omega)).trans h2, ⟨CDh_of h3.1 (fun i hi => he i (by omega)), h3.2⟩⟩
theorem MH_bad {f g : Nat → Int32} {hl tp : Nat} {tc : Nat → Nat} {hC : List pCla} (h : MH f hl tp tc hC) (hl5 : hl < 5) (he : ∀ i, i ≠ 4 → i ≠ 191 + hl → i ≠ 196 + hl → ¬ (201 + 140 * hl ≤ i ∧ i < 201 + 140 * hl + 140) → g i = f i) : MH g hl 0 (fun _ => 0) hC := by
  refine ⟨TP_nil, ?_⟩
  rcases h.2 with ⟨h2, h3⟩ | ⟨k, hk, h2, h3⟩
  · exact Or.inl ⟨(he 5 (by omega) (by omega) (by omega) (by omega)).trans h2, h3⟩
  · exact Or.inr ⟨k, hk, (he 5 (by omega) (by omega) (by omega) (by omega)).trans h2, ⟨CDh_of h3.1 (fun i hi => he i (by omega) (by omega) (by omega) (by omega)), h3.2⟩⟩
theorem MH_good {g : Nat → Int32} {hl : Nat} {C : List pCla} (h5 : g 5 = nI hl) (h : CDh g hl C) (hw : WfC C) : MH g (hl + 1) 0 (fun _ => 0) C := ⟨TP_nil, Or.inr ⟨hl, by omega, h5, h, hw⟩⟩
theorem MH_hol {f : Nat → Int32} {hl tp : Nat} {tc : Nat → Nat} {hC : List pCla} (hH : holdH f hl) (h : MH f hl tp tc hC) (h5 : hl ≤ 5) : hol f hC := by
  rcases h.2 with ⟨h2, h3⟩ | ⟨k, hk, h2, h3⟩
  · exact ⟨by rw [h3]; exact wf_nil, Or.inl ⟨h2, h3⟩⟩
  · rcases hH with q | ⟨j, hj, q1, q2⟩
    · exact absurd (h2.symm.trans q) (nI_nm1 (by omega))
    · have e : j = k := (nI_eq (by omega) (by omega)).mp (q1.symm.trans h2)
      subst e
      exact ⟨h3.2, Or.inr ⟨j, by omega, h2, q2, h3.1⟩⟩
theorem fdN_le {k : Nat} {x : Int32} (h : k ≤ 100) : fdN k x ≤ 100 := by
  unfold fdN
  split
  · exact h
  · split
    · exact h
    · split
      · exact h
      · omega
theorem wkN_le {k : Nat} {x : Int32} (h : k ≤ 6) : wkN k x ≤ 6 := by
  unfold wkN
  split
  · omega
  · split
    · exact h
    · split
      · exact h
      · split
        · exact h
        · omega
set_option maxHeartbeats 4000000 in
set_option maxRecDepth 100000 in
/-- what holds of the reference between two calls -/
noncomputable def MI (dC : Nat → ClassId) (dI : Nat → Nat → Nat) (im : Int32) (vm kvm : VS) (tm : List Nat) (T : List (ClassId × FieldType)) (m0 : Nat) (M : va_W) (H : Heap) : Prop := ∀ M9 : Prop, (∀ (aS : Nat) (aI : Nat) (aB : Nat) (aT : Nat) (aG : Nat) (aO : Nat) (aN : Nat) (aD : Nat) (aY : Nat) (th : Int32) (ac : Int32) (sp : Int32) (en : Int32) (wg : Int32) (op : Int32) (se : Int32) (dn : Int32) (rn : Int32) (kd : Int32) (nu : Int32) (tv : Int32) (bv : Int64) (cS : ClassId) (cI : ClassId) (cB : ClassId) (cT : ClassId) (cG : ClassId) (cO : ClassId) (cN : ClassId) (cD : ClassId) (cY : ClassId) (fS : Nat → Int32) (fI : Nat → Int32) (fB : Nat → Int32) (fT : Nat → Int32) (fG : Nat → Int32) (fO : Nat → Int64) (fN : Nat → Int64) (fD : Nat → Int32) (fY : Nat → Int32), M = [(zo14irriiiiiirriirrrrlriiii m0 th aS aI im ac sp en wg op aB aT se dn aG aO aN aD bv aY rn kd nu tv), (zaI aS cS 901 fS), (zaI aI cI 901 fI), (zaI aB cB 6 fB), (zaI aT cT 64 fT), (zaI aG cG 9 fG), (zaL aO cO 36 fO), (zaL aN cN 36 fN), (zaI aD cD 36 fD), (zaI aY cY 20 fY)] → va_P (dC, dI) vwCl M H → va_D (fun _ => True) M → (∀ p ∈ ([(cS, .int), (cI, .int), (cB, .int), (cT, .boolean), (cG, .int), (cO, .long), (cN, .long), (cD, .int), (cY, .int)] : List (ClassId × FieldType)), p ∈ T) → (MOK fS (vm.1) (vm.2.1) (vm.2.2.1) (vm.2.2.2.2.2.2.2.2.1) (vm.2.2.2.2.2.2.2.2.2.1) ∧ MH fS (vm.2.2.2.2.2.2.2.2.1) (vm.2.2.2.2.2.2.2.2.2.1) (vm.2.2.2.2.2.2.2.2.2.2.1) (vm.2.2.2.2.2.2.2.2.2.2.2.1) ∧ MV fS (vm.1) (vm.2.2.2.1) (vm.2.2.2.2.1) (vm.2.2.2.2.2.1) (vm.2.2.2.2.2.2.1) (vm.2.2.2.2.2.2.2.1) (vm.2.2.2.2.2.2.2.2.2.2.2.2)) → (im = 0 ∨ (MOK fI (kvm.1) (kvm.2.1) (kvm.2.2.1) (kvm.2.2.2.2.2.2.2.2.1) (kvm.2.2.2.2.2.2.2.2.2.1) ∧ MH fI (kvm.2.2.2.2.2.2.2.2.1) (kvm.2.2.2.2.2.2.2.2.2.1) (kvm.2.2.2.2.2.2.2.2.2.2.1) (kvm.2.2.2.2.2.2.2.2.2.2.2.1) ∧ MV fI (kvm.1) (kvm.2.2.2.1) (kvm.2.2.2.2.1) (kvm.2.2.2.2.2.1) (kvm.2.2.2.2.2.2.1) (kvm.2.2.2.2.2.2.2.1) (kvm.2.2.2.2.2.2.2.2.2.2.2.2))) → (tm.length ≤ 20 ∧ rn = nI tm.length ∧ okY fY tm) → M9) → M9
end mg19a
section mg19a

set_option maxHeartbeats 4000000 in
set_option maxRecDepth 100000 in
theorem v_odds (l : Launch) (dC : Nat → ClassId) (dI : Nat → Nat → Nat) (sK sV : Nat → Nat) (im : Int32) (vm kvm : VS) (tm : List Nat) (T : List (ClassId × FieldType)) (m0 : Nat) (M : va_W) (x : Int32) (y : Int32) (z : Int32) (sz : Nat) : Met l yX12_odds wsX12_odds ({ frames := 4, cells := 0, slots := 0, locals := 101 } : Room) (va_Pc [.ref m0, .int x, .int y, .int z] (fun U => U.heap.size = sz ∧ MI dC dI im vm kvm tm T m0 M U.heap ∧ va_K (dC, dI) vwCl T U ∧ Gs sK sV (va_A M sz) U)) (va_Ql (fun (r : Int64) (u : Int32 × VS × VS × List Nat) => u = (im, vm, kvm, tm)) (fun (u : Int32 × VS × VS × List Nat) (t : State) => ∃ M1 : va_W, MI dC dI u.1 u.2.1 u.2.2.1 u.2.2.2 T m0 M1 t.heap ∧ va_D (va_A M sz) M1 ∧ M1.map (fun c => c.1) = M.map (fun c => c.1)) (va_A M sz)) 0 0 (va_A M sz) := by
  obtain ⟨n, wk, kb, mi, sn, yk, yv, yc, hl, tp, tc, hC, ee⟩ := vm
  refine met_wrap (fun args s hPc => ?_)
  obtain ⟨rfl, rfl, hMM, hK, hE⟩ := hPc
  have hMM0 := hMM
  refine hMM _ (fun aS aI aB aT aG aO aN aD aY th ac sp en wg op se dn rn kd nu tv bv cS cI cB cT cG cO cN cD cY fS fI fB fT fG fO fN fD fY hM hP hD hTM hMS hMI hrn => ?_)
  have hMV : MV fS n mi sn yk yv yc ee := hMS.2.2
  have hMH : MH fS hl tp tc hC := hMS.2.1
  have hMS : MOK fS n wk kb hl tp := hMS.1
  obtain ⟨hn, zn, h5, z1, hw6, zw, hk12, zk, zb, ht, zt, hHd⟩ := id hMS
  obtain ⟨hrq, rfl, hYm⟩ := hrn
  subst hM
  have hP : va_P (dC, dI) vwCl ([(zo14irriiiiiirriirrrrlriiii m0 th aS aI im ac sp en wg op aB aT se dn aG aO aN aD bv aY (nI tm.length) kd nu tv), (zaI aS cS 901 fS), (zaI aI cI 901 fI), (zaI aB cB 6 fB), (zaI aT cT 64 fT), (zaI aG cG 9 fG), (zaL aO cO 36 fO), (zaL aN cN 36 fN), (zaI aD cD 36 fD), (zaI aY cY 20 fY)] ++ []) s.heap := hP
  have hD : va_D (fun _ => True) ([(zo14irriiiiiirriirrrrlriiii m0 th aS aI im ac sp en wg op aB aT se dn aG aO aN aD bv aY (nI tm.length) kd nu tv), (zaI aS cS 901 fS), (zaI aI cI 901 fI), (zaI aB cB 6 fB), (zaI aT cT 64 fT), (zaI aG cG 9 fG), (zaL aO cO 36 fO), (zaL aN cN 36 fN), (zaI aD cD 36 fD), (zaI aY cY 20 fY)] ++ []) := hD
  have hwc := bl_mem (G := [(zo14irriiiiiirriirrrrlriiii m0 th aS aI im ac sp en wg op aB aT se dn aG aO aN aD bv aY (nI tm.length) kd nu tv), (zaI aS cS 901 fS), (zaI aI cI 901 fI), (zaI aB cB 6 fB), (zaI aT cT 64 fT), (zaI aG cG 9 fG), (zaL aO cO 36 fO), (zaL aN cN 36 fN), (zaI aD cD 36 fD), (zaI aY cY 20 fY)]) (F := [(zo14irriiiiiirriirrrrlriiii m0 th aS aI im ac sp en wg op aB aT se dn aG aO aN aD bv aY (nI tm.length) kd nu tv), (zaI aS cS 901 fS), (zaI aB cB 6 fB), (zaI aT cT 64 fT), (zaL aO cO 36 fO), (zaL aN cN 36 fN), (zaI aD cD 36 fD)]) (T := []) [0, 1, 3, 4, 6, 7, 8] rfl
  have hPc := bl_sub (F := [(zo14irriiiiiirriirrrrlriiii m0 th aS aI im ac sp en wg op aB aT se dn aG aO aN aD bv aY (nI tm.length) kd nu tv), (zaI aS cS 901 fS), (zaI aB cB 6 fB), (zaI aT cT 64 fT), (zaL aO cO 36 fO), (zaL aN cN 36 fN), (zaI aD cD 36 fD)]) hP [0, 1, 3, 4, 6, 7, 8] rfl
  refine ⟨_, _, _, c_mOdds l dC dI m0 aS aI aB aT aG aO aN aD aY th im ac sp en wg op se dn (nI tm.length) kd nu tv bv cS cB cT cO cN cD fS fB fT fO fN fD n wk x y z hC s.heap.size zn hn (MH_hol hHd hMH h5) zw hw6, ⟨rfl, rfl, hPc, (K_mem hK hTM).sub [0, 2, 3, 5, 6, 7] rfl, bl_Dsub hD [0, 1, 3, 4, 6, 7, 8] (by decide) rfl⟩, fun o t hQ => ?_, fun q hq => bl_A hwc q hq⟩
  obtain ⟨⟨r, u9, rfl, hpost, hB⟩, hz, hkp⟩ := hQ
  obtain ⟨fB9, fT9, se9, dn9, fD9, fO9, fN9⟩ := u9
  try dsimp only at hpost hB
  obtain ⟨hP1, hK1, hD1⟩ := hB
  have hJ := bl_gen (F' := [(zo14irriiiiiirriirrrrlriiii m0 th aS aI im ac sp en wg op aB aT se9 dn9 aG aO aN aD bv aY (nI tm.length) kd nu tv), (zaI aS cS 901 fS), (zaI aI cI 901 fI), (zaI aB cB 6 fB9), (zaI aT cT 64 fT9), (zaI aG cG 9 fG), (zaL aO cO 36 fO9), (zaL aN cN 36 fN9), (zaI aD cD 36 fD9), (zaI aY cY 20 fY)]) hP hD [0, 1, 3, 4, 6, 7, 8] rfl hkp hP1 hD1 [some 0, some 1, none, some 2, some 3, none, some 4, some 5, some 6, none] [0, 1, 3, 4, 6, 7, 8] rfl (Or.inl rfl) rfl
  exact ⟨⟨r, (im, (n, wk, kb, mi, sn, yk, yv, yc, hl, tp, tc, hC, ee), kvm, tm), rfl, rfl, _, (fun M9 k9 => k9 aS aI aB aT aG aO aN aD aY th ac sp en wg op (se9) (dn9) ((nI tm.length)) kd nu tv bv cS cI cB cT cG cO cN cD cY fS fI (fB9) (fT9) fG (fO9) (fN9) (fD9) fY rfl hJ.1 ⟨hJ.2.1, fun _ _ _ => trivial⟩ hTM ⟨(show MOK fS n wk kb hl tp from hMS), (show MH fS hl tp tc hC from hMH), (show MV fS n mi sn yk yv yc ee from hMV)⟩ ((show im = 0 ∨ (MOK fI (kvm.1) (kvm.2.1) (kvm.2.2.1) (kvm.2.2.2.2.2.2.2.2.1) (kvm.2.2.2.2.2.2.2.2.2.1) ∧ MH fI (kvm.2.2.2.2.2.2.2.2.1) (kvm.2.2.2.2.2.2.2.2.2.1) (kvm.2.2.2.2.2.2.2.2.2.2.1) (kvm.2.2.2.2.2.2.2.2.2.2.2.1) ∧ MV fI (kvm.1) (kvm.2.2.2.1) (kvm.2.2.2.2.1) (kvm.2.2.2.2.2.1) (kvm.2.2.2.2.2.2.1) (kvm.2.2.2.2.2.2.2.1) (kvm.2.2.2.2.2.2.2.2.2.2.2.2)) from hMI)) (⟨hrq, rfl, hYm⟩)), hJ.2, rfl⟩, hz, fun q h1 h2 => hkp q h1 (fun h => h2 (bl_A hwc _ h))⟩

set_option maxHeartbeats 4000000 in
set_option maxRecDepth 100000 in
theorem v_best (l : Launch) (dC : Nat → ClassId) (dI : Nat → Nat → Nat) (sK sV : Nat → Nat) (im : Int32) (vm kvm : VS) (tm : List Nat) (T : List (ClassId × FieldType)) (m0 : Nat) (M : va_W) (x : Int32) (y : Int32) (z : Int32) (u : Int32) (sz : Nat) : Met l yX12_best wsX12_best ({ frames := 6, cells := 0, slots := 0, locals := 142 } : Room) (va_Pc [.ref m0, .int x, .int y, .int z, .int u] (fun U => U.heap.size = sz ∧ MI dC dI im vm kvm tm T m0 M U.heap ∧ va_K (dC, dI) vwCl T U ∧ Gs sK sV (va_A M sz) U)) (va_Qi (fun (r : Int32) (u : Int32 × VS × VS × List Nat) => u = (im, vm, kvm, tm)) (fun (u : Int32 × VS × VS × List Nat) (t : State) => ∃ M1 : va_W, MI dC dI u.1 u.2.1 u.2.2.1 u.2.2.2 T m0 M1 t.heap ∧ va_D (va_A M sz) M1 ∧ M1.map (fun c => c.1) = M.map (fun c => c.1)) (va_A M sz)) 0 0 (va_A M sz) := by
  obtain ⟨n, wk, kb, mi, sn, yk, yv, yc, hl, tp, tc, hC, ee⟩ := vm
  refine met_wrap (fun args s hPc => ?_)
  obtain ⟨rfl, rfl, hMM, hK, hE⟩ := hPc
  have hMM0 := hMM
  refine hMM _ (fun aS aI aB aT aG aO aN aD aY th ac sp en wg op se dn rn kd nu tv bv cS cI cB cT cG cO cN cD cY fS fI fB fT fG fO fN fD fY hM hP hD hTM hMS hMI hrn => ?_)
  have hMV : MV fS n mi sn yk yv yc ee := hMS.2.2
  have hMH : MH fS hl tp tc hC := hMS.2.1
  have hMS : MOK fS n wk kb hl tp := hMS.1
  obtain ⟨hn, zn, h5, z1, hw6, zw, hk12, zk, zb, ht, zt, hHd⟩ := id hMS
  obtain ⟨hrq, rfl, hYm⟩ := hrn
  subst hM
  have hP : va_P (dC, dI) vwCl ([(zo14irriiiiiirriirrrrlriiii m0 th aS aI im ac sp en wg op aB aT se dn aG aO aN aD bv aY (nI tm.length) kd nu tv), (zaI aS cS 901 fS), (zaI aI cI 901 fI), (zaI aB cB 6 fB), (zaI aT cT 64 fT), (zaI aG cG 9 fG), (zaL aO cO 36 fO), (zaL aN cN 36 fN), (zaI aD cD 36 fD), (zaI aY cY 20 fY)] ++ []) s.heap := hP
  have hD : va_D (fun _ => True) ([(zo14irriiiiiirriirrrrlriiii m0 th aS aI im ac sp en wg op aB aT se dn aG aO aN aD bv aY (nI tm.length) kd nu tv), (zaI aS cS 901 fS), (zaI aI cI 901 fI), (zaI aB cB 6 fB), (zaI aT cT 64 fT), (zaI aG cG 9 fG), (zaL aO cO 36 fO), (zaL aN cN 36 fN), (zaI aD cD 36 fD), (zaI aY cY 20 fY)] ++ []) := hD
  have hwc := bl_mem (G := [(zo14irriiiiiirriirrrrlriiii m0 th aS aI im ac sp en wg op aB aT se dn aG aO aN aD bv aY (nI tm.length) kd nu tv), (zaI aS cS 901 fS), (zaI aI cI 901 fI), (zaI aB cB 6 fB), (zaI aT cT 64 fT), (zaI aG cG 9 fG), (zaL aO cO 36 fO), (zaL aN cN 36 fN), (zaI aD cD 36 fD), (zaI aY cY 20 fY)]) (F := [(zo14irriiiiiirriirrrrlriiii m0 th aS aI im ac sp en wg op aB aT se dn aG aO aN aD bv aY (nI tm.length) kd nu tv), (zaI aS cS 901 fS), (zaI aB cB 6 fB), (zaI aT cT 64 fT), (zaL aO cO 36 fO), (zaL aN cN 36 fN), (zaI aD cD 36 fD)]) (T := []) [0, 1, 3, 4, 6, 7, 8] rfl
  have hPc := bl_sub (F := [(zo14irriiiiiirriirrrrlriiii m0 th aS aI im ac sp en wg op aB aT se dn aG aO aN aD bv aY (nI tm.length) kd nu tv), (zaI aS cS 901 fS), (zaI aB cB 6 fB), (zaI aT cT 64 fT), (zaL aO cO 36 fO), (zaL aN cN 36 fN), (zaI aD cD 36 fD)]) hP [0, 1, 3, 4, 6, 7, 8] rfl
  refine ⟨_, _, _, c_mBest l dC dI m0 aS aI aB aT aG aO aN aD aY th im ac sp en wg op se dn (nI tm.length) kd nu tv bv cS cB cT cO cN cD fS fB fT fO fN fD x y z u hC s.heap.size (MH_hol hHd hMH h5), ⟨rfl, rfl, hPc, (K_mem hK hTM).sub [0, 2, 3, 5, 6, 7] rfl, bl_Dsub hD [0, 1, 3, 4, 6, 7, 8] (by decide) rfl⟩, fun o t hQ => ?_, fun q hq => bl_A hwc q hq⟩
  obtain ⟨⟨r, u9, rfl, hpost, hB⟩, hz, hkp⟩ := hQ
  obtain ⟨fB9, fT9, se9, dn9, fD9, fO9, fN9, bv9⟩ := u9
  try dsimp only at hpost hB
  obtain ⟨hP1, hK1, hD1⟩ := hB
  have hJ := bl_gen (F' := [(zo14irriiiiiirriirrrrlriiii m0 th aS aI im ac sp en wg op aB aT se9 dn9 aG aO aN aD bv9 aY (nI tm.length) kd nu tv), (zaI aS cS 901 fS), (zaI aI cI 901 fI), (zaI aB cB 6 fB9), (zaI aT cT 64 fT9), (zaI aG cG 9 fG), (zaL aO cO 36 fO9), (zaL aN cN 36 fN9), (zaI aD cD 36 fD9), (zaI aY cY 20 fY)]) hP hD [0, 1, 3, 4, 6, 7, 8] rfl hkp hP1 hD1 [some 0, some 1, none, some 2, some 3, none, some 4, some 5, some 6, none] [0, 1, 3, 4, 6, 7, 8] rfl (Or.inl rfl) rfl
  exact ⟨⟨r, (im, (n, wk, kb, mi, sn, yk, yv, yc, hl, tp, tc, hC, ee), kvm, tm), rfl, rfl, _, (fun M9 k9 => k9 aS aI aB aT aG aO aN aD aY th ac sp en wg op (se9) (dn9) ((nI tm.length)) kd nu tv (bv9) cS cI cB cT cG cO cN cD cY fS fI (fB9) (fT9) fG (fO9) (fN9) (fD9) fY rfl hJ.1 ⟨hJ.2.1, fun _ _ _ => trivial⟩ hTM ⟨(show MOK fS n wk kb hl tp from hMS), (show MH fS hl tp tc hC from hMH), (show MV fS n mi sn yk yv yc ee from hMV)⟩ ((show im = 0 ∨ (MOK fI (kvm.1) (kvm.2.1) (kvm.2.2.1) (kvm.2.2.2.2.2.2.2.2.1) (kvm.2.2.2.2.2.2.2.2.2.1) ∧ MH fI (kvm.2.2.2.2.2.2.2.2.1) (kvm.2.2.2.2.2.2.2.2.2.1) (kvm.2.2.2.2.2.2.2.2.2.2.1) (kvm.2.2.2.2.2.2.2.2.2.2.2.1) ∧ MV fI (kvm.1) (kvm.2.2.2.1) (kvm.2.2.2.2.1) (kvm.2.2.2.2.2.1) (kvm.2.2.2.2.2.2.1) (kvm.2.2.2.2.2.2.2.1) (kvm.2.2.2.2.2.2.2.2.2.2.2.2)) from hMI)) (⟨hrq, rfl, hYm⟩)), hJ.2, rfl⟩, hz, fun q h1 h2 => hkp q h1 (fun h => h2 (bl_A hwc _ h))⟩

set_option maxHeartbeats 4000000 in
set_option maxRecDepth 100000 in
theorem v_bestOdds (l : Launch) (dC : Nat → ClassId) (dI : Nat → Nat → Nat) (sK sV : Nat → Nat) (im : Int32) (vm kvm : VS) (tm : List Nat) (T : List (ClassId × FieldType)) (m0 : Nat) (M : va_W) (x : Int32) (y : Int32) (z : Int32) (u : Int32) (sz : Nat) : Met l yX12_bestOdds wsX12_bestOdds ({ frames := 6, cells := 0, slots := 0, locals := 142 } : Room) (va_Pc [.ref m0, .int x, .int y, .int z, .int u] (fun U => U.heap.size = sz ∧ MI dC dI im vm kvm tm T m0 M U.heap ∧ va_K (dC, dI) vwCl T U ∧ Gs sK sV (va_A M sz) U)) (va_Ql (fun (r : Int64) (u : Int32 × VS × VS × List Nat) => u = (im, vm, kvm, tm)) (fun (u : Int32 × VS × VS × List Nat) (t : State) => ∃ M1 : va_W, MI dC dI u.1 u.2.1 u.2.2.1 u.2.2.2 T m0 M1 t.heap ∧ va_D (va_A M sz) M1 ∧ M1.map (fun c => c.1) = M.map (fun c => c.1)) (va_A M sz)) 0 0 (va_A M sz) := by
  obtain ⟨n, wk, kb, mi, sn, yk, yv, yc, hl, tp, tc, hC, ee⟩ := vm
  refine met_wrap (fun args s hPc => ?_)
  obtain ⟨rfl, rfl, hMM, hK, hE⟩ := hPc
  have hMM0 := hMM
  refine hMM _ (fun aS aI aB aT aG aO aN aD aY th ac sp en wg op se dn rn kd nu tv bv cS cI cB cT cG cO cN cD cY fS fI fB fT fG fO fN fD fY hM hP hD hTM hMS hMI hrn => ?_)
  have hMV : MV fS n mi sn yk yv yc ee := hMS.2.2
  have hMH : MH fS hl tp tc hC := hMS.2.1
  have hMS : MOK fS n wk kb hl tp := hMS.1
  obtain ⟨hn, zn, h5, z1, hw6, zw, hk12, zk, zb, ht, zt, hHd⟩ := id hMS
  obtain ⟨hrq, rfl, hYm⟩ := hrn
  subst hM
  have hP : va_P (dC, dI) vwCl ([(zo14irriiiiiirriirrrrlriiii m0 th aS aI im ac sp en wg op aB aT se dn aG aO aN aD bv aY (nI tm.length) kd nu tv), (zaI aS cS 901 fS), (zaI aI cI 901 fI), (zaI aB cB 6 fB), (zaI aT cT 64 fT), (zaI aG cG 9 fG), (zaL aO cO 36 fO), (zaL aN cN 36 fN), (zaI aD cD 36 fD), (zaI aY cY 20 fY)] ++ []) s.heap := hP
  have hD : va_D (fun _ => True) ([(zo14irriiiiiirriirrrrlriiii m0 th aS aI im ac sp en wg op aB aT se dn aG aO aN aD bv aY (nI tm.length) kd nu tv), (zaI aS cS 901 fS), (zaI aI cI 901 fI), (zaI aB cB 6 fB), (zaI aT cT 64 fT), (zaI aG cG 9 fG), (zaL aO cO 36 fO), (zaL aN cN 36 fN), (zaI aD cD 36 fD), (zaI aY cY 20 fY)] ++ []) := hD
  have hwc := bl_mem (G := [(zo14irriiiiiirriirrrrlriiii m0 th aS aI im ac sp en wg op aB aT se dn aG aO aN aD bv aY (nI tm.length) kd nu tv), (zaI aS cS 901 fS), (zaI aI cI 901 fI), (zaI aB cB 6 fB), (zaI aT cT 64 fT), (zaI aG cG 9 fG), (zaL aO cO 36 fO), (zaL aN cN 36 fN), (zaI aD cD 36 fD), (zaI aY cY 20 fY)]) (F := [(zo14irriiiiiirriirrrrlriiii m0 th aS aI im ac sp en wg op aB aT se dn aG aO aN aD bv aY (nI tm.length) kd nu tv), (zaI aS cS 901 fS), (zaI aB cB 6 fB), (zaI aT cT 64 fT), (zaL aO cO 36 fO), (zaL aN cN 36 fN), (zaI aD cD 36 fD)]) (T := []) [0, 1, 3, 4, 6, 7, 8] rfl
  have hPc := bl_sub (F := [(zo14irriiiiiirriirrrrlriiii m0 th aS aI im ac sp en wg op aB aT se dn aG aO aN aD bv aY (nI tm.length) kd nu tv), (zaI aS cS 901 fS), (zaI aB cB 6 fB), (zaI aT cT 64 fT), (zaL aO cO 36 fO), (zaL aN cN 36 fN), (zaI aD cD 36 fD)]) hP [0, 1, 3, 4, 6, 7, 8] rfl
  refine ⟨_, _, _, c_mBestOdds l dC dI m0 aS aI aB aT aG aO aN aD aY th im ac sp en wg op se dn (nI tm.length) kd nu tv bv cS cB cT cO cN cD fS fB fT fO fN fD x y z u hC s.heap.size (MH_hol hHd hMH h5), ⟨rfl, rfl, hPc, (K_mem hK hTM).sub [0, 2, 3, 5, 6, 7] rfl, bl_Dsub hD [0, 1, 3, 4, 6, 7, 8] (by decide) rfl⟩, fun o t hQ => ?_, fun q hq => bl_A hwc q hq⟩
  obtain ⟨⟨r, u9, rfl, hpost, hB⟩, hz, hkp⟩ := hQ
  obtain ⟨fB9, fT9, se9, dn9, fD9, fO9, fN9, bv9⟩ := u9
  try dsimp only at hpost hB
  obtain ⟨hP1, hK1, hD1⟩ := hB
  have hJ := bl_gen (F' := [(zo14irriiiiiirriirrrrlriiii m0 th aS aI im ac sp en wg op aB aT se9 dn9 aG aO aN aD bv9 aY (nI tm.length) kd nu tv), (zaI aS cS 901 fS), (zaI aI cI 901 fI), (zaI aB cB 6 fB9), (zaI aT cT 64 fT9), (zaI aG cG 9 fG), (zaL aO cO 36 fO9), (zaL aN cN 36 fN9), (zaI aD cD 36 fD9), (zaI aY cY 20 fY)]) hP hD [0, 1, 3, 4, 6, 7, 8] rfl hkp hP1 hD1 [some 0, some 1, none, some 2, some 3, none, some 4, some 5, some 6, none] [0, 1, 3, 4, 6, 7, 8] rfl (Or.inl rfl) rfl
  exact ⟨⟨r, (im, (n, wk, kb, mi, sn, yk, yv, yc, hl, tp, tc, hC, ee), kvm, tm), rfl, rfl, _, (fun M9 k9 => k9 aS aI aB aT aG aO aN aD aY th ac sp en wg op (se9) (dn9) ((nI tm.length)) kd nu tv (bv9) cS cI cB cT cG cO cN cD cY fS fI (fB9) (fT9) fG (fO9) (fN9) (fD9) fY rfl hJ.1 ⟨hJ.2.1, fun _ _ _ => trivial⟩ hTM ⟨(show MOK fS n wk kb hl tp from hMS), (show MH fS hl tp tc hC from hMH), (show MV fS n mi sn yk yv yc ee from hMV)⟩ ((show im = 0 ∨ (MOK fI (kvm.1) (kvm.2.1) (kvm.2.2.1) (kvm.2.2.2.2.2.2.2.2.1) (kvm.2.2.2.2.2.2.2.2.2.1) ∧ MH fI (kvm.2.2.2.2.2.2.2.2.1) (kvm.2.2.2.2.2.2.2.2.2.1) (kvm.2.2.2.2.2.2.2.2.2.2.1) (kvm.2.2.2.2.2.2.2.2.2.2.2.1) ∧ MV fI (kvm.1) (kvm.2.2.2.1) (kvm.2.2.2.2.1) (kvm.2.2.2.2.2.1) (kvm.2.2.2.2.2.2.1) (kvm.2.2.2.2.2.2.2.1) (kvm.2.2.2.2.2.2.2.2.2.2.2.2)) from hMI)) (⟨hrq, rfl, hYm⟩)), hJ.2, rfl⟩, hz, fun q h1 h2 => hkp q h1 (fun h => h2 (bl_A hwc _ h))⟩

set_option maxHeartbeats 4000000 in
set_option maxRecDepth 100000 in
theorem v_safe (l : Launch) (dC : Nat → ClassId) (dI : Nat → Nat → Nat) (sK sV : Nat → Nat) (im : Int32) (vm kvm : VS) (tm : List Nat) (T : List (ClassId × FieldType)) (m0 : Nat) (M : va_W) (x : Int32) (y : Int32) (z : Int32) (sz : Nat) : Met l yX12_safe wsX12_safe ({ frames := 6, cells := 0, slots := 0, locals := 142 } : Room) (va_Pc [.ref m0, .int x, .int y, .int z] (fun U => U.heap.size = sz ∧ MI dC dI im vm kvm tm T m0 M U.heap ∧ va_K (dC, dI) vwCl T U ∧ Gs sK sV (va_A M sz) U)) (va_Qi (fun (r : Int32) (u : Int32 × VS × VS × List Nat) => u = (im, vm, kvm, tm)) (fun (u : Int32 × VS × VS × List Nat) (t : State) => ∃ M1 : va_W, MI dC dI u.1 u.2.1 u.2.2.1 u.2.2.2 T m0 M1 t.heap ∧ va_D (va_A M sz) M1 ∧ M1.map (fun c => c.1) = M.map (fun c => c.1)) (va_A M sz)) 0 0 (va_A M sz) := by
  obtain ⟨n, wk, kb, mi, sn, yk, yv, yc, hl, tp, tc, hC, ee⟩ := vm
  refine met_wrap (fun args s hPc => ?_)
  obtain ⟨rfl, rfl, hMM, hK, hE⟩ := hPc
  have hMM0 := hMM
  refine hMM _ (fun aS aI aB aT aG aO aN aD aY th ac sp en wg op se dn rn kd nu tv bv cS cI cB cT cG cO cN cD cY fS fI fB fT fG fO fN fD fY hM hP hD hTM hMS hMI hrn => ?_)
  have hMV : MV fS n mi sn yk yv yc ee := hMS.2.2
  have hMH : MH fS hl tp tc hC := hMS.2.1
  have hMS : MOK fS n wk kb hl tp := hMS.1
  obtain ⟨hn, zn, h5, z1, hw6, zw, hk12, zk, zb, ht, zt, hHd⟩ := id hMS
  obtain ⟨hrq, rfl, hYm⟩ := hrn
  subst hM
  have hP : va_P (dC, dI) vwCl ([(zo14irriiiiiirriirrrrlriiii m0 th aS aI im ac sp en wg op aB aT se dn aG aO aN aD bv aY (nI tm.length) kd nu tv), (zaI aS cS 901 fS), (zaI aI cI 901 fI), (zaI aB cB 6 fB), (zaI aT cT 64 fT), (zaI aG cG 9 fG), (zaL aO cO 36 fO), (zaL aN cN 36 fN), (zaI aD cD 36 fD), (zaI aY cY 20 fY)] ++ []) s.heap := hP
  have hD : va_D (fun _ => True) ([(zo14irriiiiiirriirrrrlriiii m0 th aS aI im ac sp en wg op aB aT se dn aG aO aN aD bv aY (nI tm.length) kd nu tv), (zaI aS cS 901 fS), (zaI aI cI 901 fI), (zaI aB cB 6 fB), (zaI aT cT 64 fT), (zaI aG cG 9 fG), (zaL aO cO 36 fO), (zaL aN cN 36 fN), (zaI aD cD 36 fD), (zaI aY cY 20 fY)] ++ []) := hD
  have hwc := bl_mem (G := [(zo14irriiiiiirriirrrrlriiii m0 th aS aI im ac sp en wg op aB aT se dn aG aO aN aD bv aY (nI tm.length) kd nu tv), (zaI aS cS 901 fS), (zaI aI cI 901 fI), (zaI aB cB 6 fB), (zaI aT cT 64 fT), (zaI aG cG 9 fG), (zaL aO cO 36 fO), (zaL aN cN 36 fN), (zaI aD cD 36 fD), (zaI aY cY 20 fY)]) (F := [(zo14irriiiiiirriirrrrlriiii m0 th aS aI im ac sp en wg op aB aT se dn aG aO aN aD bv aY (nI tm.length) kd nu tv), (zaI aS cS 901 fS), (zaI aB cB 6 fB), (zaI aT cT 64 fT), (zaL aO cO 36 fO), (zaL aN cN 36 fN), (zaI aD cD 36 fD)]) (T := []) [0, 1, 3, 4, 6, 7, 8] rfl
  have hPc := bl_sub (F := [(zo14irriiiiiirriirrrrlriiii m0 th aS aI im ac sp en wg op aB aT se dn aG aO aN aD bv aY (nI tm.length) kd nu tv), (zaI aS cS 901 fS), (zaI aB cB 6 fB), (zaI aT cT 64 fT), (zaL aO cO 36 fO), (zaL aN cN 36 fN), (zaI aD cD 36 fD)]) hP [0, 1, 3, 4, 6, 7, 8] rfl
  refine ⟨_, _, _, c_mSafe l dC dI m0 aS aI aB aT aG aO aN aD aY th im ac sp en wg op se dn (nI tm.length) kd nu tv bv cS cB cT cO cN cD fS fB fT fO fN fD x y z hC s.heap.size (MH_hol hHd hMH h5), ⟨rfl, rfl, hPc, (K_mem hK hTM).sub [0, 2, 3, 5, 6, 7] rfl, bl_Dsub hD [0, 1, 3, 4, 6, 7, 8] (by decide) rfl⟩, fun o t hQ => ?_, fun q hq => bl_A hwc q hq⟩
  obtain ⟨⟨r, u9, rfl, hpost, hB⟩, hz, hkp⟩ := hQ
  obtain ⟨fB9, fT9, se9, dn9, fD9, fO9, fN9, bv9⟩ := u9
  try dsimp only at hpost hB
  obtain ⟨hP1, hK1, hD1⟩ := hB
  have hJ := bl_gen (F' := [(zo14irriiiiiirriirrrrlriiii m0 th aS aI im ac sp en wg op aB aT se9 dn9 aG aO aN aD bv9 aY (nI tm.length) kd nu tv), (zaI aS cS 901 fS), (zaI aI cI 901 fI), (zaI aB cB 6 fB9), (zaI aT cT 64 fT9), (zaI aG cG 9 fG), (zaL aO cO 36 fO9), (zaL aN cN 36 fN9), (zaI aD cD 36 fD9), (zaI aY cY 20 fY)]) hP hD [0, 1, 3, 4, 6, 7, 8] rfl hkp hP1 hD1 [some 0, some 1, none, some 2, some 3, none, some 4, some 5, some 6, none] [0, 1, 3, 4, 6, 7, 8] rfl (Or.inl rfl) rfl
  exact ⟨⟨r, (im, (n, wk, kb, mi, sn, yk, yv, yc, hl, tp, tc, hC, ee), kvm, tm), rfl, rfl, _, (fun M9 k9 => k9 aS aI aB aT aG aO aN aD aY th ac sp en wg op (se9) (dn9) ((nI tm.length)) kd nu tv (bv9) cS cI cB cT cG cO cN cD cY fS fI (fB9) (fT9) fG (fO9) (fN9) (fD9) fY rfl hJ.1 ⟨hJ.2.1, fun _ _ _ => trivial⟩ hTM ⟨(show MOK fS n wk kb hl tp from hMS), (show MH fS hl tp tc hC from hMH), (show MV fS n mi sn yk yv yc ee from hMV)⟩ ((show im = 0 ∨ (MOK fI (kvm.1) (kvm.2.1) (kvm.2.2.1) (kvm.2.2.2.2.2.2.2.2.1) (kvm.2.2.2.2.2.2.2.2.2.1) ∧ MH fI (kvm.2.2.2.2.2.2.2.2.1) (kvm.2.2.2.2.2.2.2.2.2.1) (kvm.2.2.2.2.2.2.2.2.2.2.1) (kvm.2.2.2.2.2.2.2.2.2.2.2.1) ∧ MV fI (kvm.1) (kvm.2.2.2.1) (kvm.2.2.2.2.1) (kvm.2.2.2.2.2.1) (kvm.2.2.2.2.2.2.1) (kvm.2.2.2.2.2.2.2.1) (kvm.2.2.2.2.2.2.2.2.2.2.2.2)) from hMI)) (⟨hrq, rfl, hYm⟩)), hJ.2, rfl⟩, hz, fun q h1 h2 => hkp q h1 (fun h => h2 (bl_A hwc _ h))⟩

set_option maxHeartbeats 4000000 in
set_option maxRecDepth 100000 in
theorem v_looked (l : Launch) (dC : Nat → ClassId) (dI : Nat → Nat → Nat) (sK sV : Nat → Nat) (im : Int32) (vm kvm : VS) (tm : List Nat) (T : List (ClassId × FieldType)) (m0 : Nat) (M : va_W)  (sz : Nat) : Met l yX12_looked wsX12_looked ({ frames := 4, cells := 0, slots := 0, locals := 103 } : Room) (va_Pc [.ref m0] (fun U => U.heap.size = sz ∧ MI dC dI im vm kvm tm T m0 M U.heap ∧ va_K (dC, dI) vwCl T U ∧ Gs sK sV (va_A M sz) U)) (va_Qi (fun (r : Int32) (u : Int32 × VS × VS × List Nat) => u = (im, vm, kvm, tm)) (fun (u : Int32 × VS × VS × List Nat) (t : State) => ∃ M1 : va_W, MI dC dI u.1 u.2.1 u.2.2.1 u.2.2.2 T m0 M1 t.heap ∧ va_D (va_A M sz) M1 ∧ M1.map (fun c => c.1) = M.map (fun c => c.1)) (va_A M sz)) 0 0 (va_A M sz) := by
  obtain ⟨n, wk, kb, mi, sn, yk, yv, yc, hl, tp, tc, hC, ee⟩ := vm
  refine met_wrap (fun args s hPc => ?_)
  obtain ⟨rfl, rfl, hMM, hK, hE⟩ := hPc
  have hMM0 := hMM
  refine hMM _ (fun aS aI aB aT aG aO aN aD aY th ac sp en wg op se dn rn kd nu tv bv cS cI cB cT cG cO cN cD cY fS fI fB fT fG fO fN fD fY hM hP hD hTM hMS hMI hrn => ?_)
  have hMV : MV fS n mi sn yk yv yc ee := hMS.2.2
  have hMH : MH fS hl tp tc hC := hMS.2.1
  have hMS : MOK fS n wk kb hl tp := hMS.1
  obtain ⟨hn, zn, h5, z1, hw6, zw, hk12, zk, zb, ht, zt, hHd⟩ := id hMS
  obtain ⟨hrq, rfl, hYm⟩ := hrn
  subst hM
  have hP : va_P (dC, dI) vwCl ([(zo14irriiiiiirriirrrrlriiii m0 th aS aI im ac sp en wg op aB aT se dn aG aO aN aD bv aY (nI tm.length) kd nu tv), (zaI aS cS 901 fS), (zaI aI cI 901 fI), (zaI aB cB 6 fB), (zaI aT cT 64 fT), (zaI aG cG 9 fG), (zaL aO cO 36 fO), (zaL aN cN 36 fN), (zaI aD cD 36 fD), (zaI aY cY 20 fY)] ++ []) s.heap := hP
  have hD : va_D (fun _ => True) ([(zo14irriiiiiirriirrrrlriiii m0 th aS aI im ac sp en wg op aB aT se dn aG aO aN aD bv aY (nI tm.length) kd nu tv), (zaI aS cS 901 fS), (zaI aI cI 901 fI), (zaI aB cB 6 fB), (zaI aT cT 64 fT), (zaI aG cG 9 fG), (zaL aO cO 36 fO), (zaL aN cN 36 fN), (zaI aD cD 36 fD), (zaI aY cY 20 fY)] ++ []) := hD
  have hwc := bl_mem (G := [(zo14irriiiiiirriirrrrlriiii m0 th aS aI im ac sp en wg op aB aT se dn aG aO aN aD bv aY (nI tm.length) kd nu tv), (zaI aS cS 901 fS), (zaI aI cI 901 fI), (zaI aB cB 6 fB), (zaI aT cT 64 fT), (zaI aG cG 9 fG), (zaL aO cO 36 fO), (zaL aN cN 36 fN), (zaI aD cD 36 fD), (zaI aY cY 20 fY)]) (F := [(zo14irriiiiiirriirrrrlriiii m0 th aS aI im ac sp en wg op aB aT se dn aG aO aN aD bv aY (nI tm.length) kd nu tv), (zaI aS cS 901 fS), (zaI aB cB 6 fB), (zaI aT cT 64 fT)]) (T := []) [0, 1, 3, 4] rfl
  have hPc := bl_sub (F := [(zo14irriiiiiirriirrrrlriiii m0 th aS aI im ac sp en wg op aB aT se dn aG aO aN aD bv aY (nI tm.length) kd nu tv), (zaI aS cS 901 fS), (zaI aB cB 6 fB), (zaI aT cT 64 fT)]) hP [0, 1, 3, 4] rfl
  refine ⟨_, _, _, c_mLooked l dC dI m0 aS aI aB aT aG aO aN aD aY th im ac sp en wg op se dn (nI tm.length) kd nu tv bv cS cB cT fS fB fT kb hC s.heap.size (MH_hol hHd hMH h5) zk hk12 zb, ⟨rfl, rfl, hPc, (K_mem hK hTM).sub [0, 2, 3] rfl, bl_Dsub hD [0, 1, 3, 4] (by decide) rfl⟩, fun o t hQ => ?_, fun q hq => bl_A hwc q hq⟩
  obtain ⟨⟨r, u9, rfl, hpost, hB⟩, hz, hkp⟩ := hQ
  obtain ⟨fB9, fT9, se9, dn9⟩ := u9
  try dsimp only at hpost hB
  obtain ⟨hP1, hK1, hD1⟩ := hB
  have hJ := bl_gen (F' := [(zo14irriiiiiirriirrrrlriiii m0 th aS aI im ac sp en wg op aB aT se9 dn9 aG aO aN aD bv aY (nI tm.length) kd nu tv), (zaI aS cS 901 fS), (zaI aI cI 901 fI), (zaI aB cB 6 fB9), (zaI aT cT 64 fT9), (zaI aG cG 9 fG), (zaL aO cO 36 fO), (zaL aN cN 36 fN), (zaI aD cD 36 fD), (zaI aY cY 20 fY)]) hP hD [0, 1, 3, 4] rfl hkp hP1 hD1 [some 0, some 1, none, some 2, some 3, none, none, none, none, none] [0, 1, 3, 4] rfl (Or.inl rfl) rfl
  exact ⟨⟨r, (im, (n, wk, kb, mi, sn, yk, yv, yc, hl, tp, tc, hC, ee), kvm, tm), rfl, rfl, _, (fun M9 k9 => k9 aS aI aB aT aG aO aN aD aY th ac sp en wg op (se9) (dn9) ((nI tm.length)) kd nu tv bv cS cI cB cT cG cO cN cD cY fS fI (fB9) (fT9) fG fO fN fD fY rfl hJ.1 ⟨hJ.2.1, fun _ _ _ => trivial⟩ hTM ⟨(show MOK fS n wk kb hl tp from hMS), (show MH fS hl tp tc hC from hMH), (show MV fS n mi sn yk yv yc ee from hMV)⟩ ((show im = 0 ∨ (MOK fI (kvm.1) (kvm.2.1) (kvm.2.2.1) (kvm.2.2.2.2.2.2.2.2.1) (kvm.2.2.2.2.2.2.2.2.2.1) ∧ MH fI (kvm.2.2.2.2.2.2.2.2.1) (kvm.2.2.2.2.2.2.2.2.2.1) (kvm.2.2.2.2.2.2.2.2.2.2.1) (kvm.2.2.2.2.2.2.2.2.2.2.2.1) ∧ MV fI (kvm.1) (kvm.2.2.2.1) (kvm.2.2.2.2.1) (kvm.2.2.2.2.2.1) (kvm.2.2.2.2.2.2.1) (kvm.2.2.2.2.2.2.2.1) (kvm.2.2.2.2.2.2.2.2.2.2.2.2)) from hMI)) (⟨hrq, rfl, hYm⟩)), hJ.2, rfl⟩, hz, fun q h1 h2 => hkp q h1 (fun h => h2 (bl_A hwc _ h))⟩

set_option maxHeartbeats 4000000 in
set_option maxRecDepth 100000 in
theorem v_of (l : Launch) (dC : Nat → ClassId) (dI : Nat → Nat → Nat) (sK sV : Nat → Nat) (im : Int32) (vm kvm : VS) (tm : List Nat) (T : List (ClassId × FieldType)) (m0 : Nat) (M : va_W) (x : Int32) (y : Int32) (sz : Nat) : Met l yX12_of wsX12_of ({ frames := 2, cells := 0, slots := 0, locals := 55 } : Room) (va_Pc [.ref m0, .int x, .int y] (fun U => U.heap.size = sz ∧ MI dC dI im vm kvm tm T m0 M U.heap ∧ va_K (dC, dI) vwCl T U ∧ Gs sK sV (va_A M sz) U)) (va_Qi (fun (r : Int32) (u : Int32 × VS × VS × List Nat) => r = ofR vm.1 vm.2.2.2.2.2.1 vm.2.2.2.2.2.2.1 vm.2.2.2.2.2.2.2.1 vm.2.2.2.2.2.2.2.2.2.2.2.1 vm.2.2.2.1 vm.2.2.2.2.1 x y ∧ u = (im, vm, kvm, tm)) (fun (u : Int32 × VS × VS × List Nat) (t : State) => ∃ M1 : va_W, MI dC dI u.1 u.2.1 u.2.2.1 u.2.2.2 T m0 M1 t.heap ∧ va_D (va_A M sz) M1 ∧ M1.map (fun c => c.1) = M.map (fun c => c.1)) (va_A M sz)) 0 0 (va_A M sz) := by
  obtain ⟨n, wk, kb, mi, sn, yk, yv, yc, hl, tp, tc, hC, ee⟩ := vm
  refine met_wrap (fun args s hPc => ?_)
  obtain ⟨rfl, rfl, hMM, hK, hE⟩ := hPc
  have hMM0 := hMM
  refine hMM _ (fun aS aI aB aT aG aO aN aD aY th ac sp en wg op se dn rn kd nu tv bv cS cI cB cT cG cO cN cD cY fS fI fB fT fG fO fN fD fY hM hP hD hTM hMS hMI hrn => ?_)
  have hMV : MV fS n mi sn yk yv yc ee := hMS.2.2
  have hMH : MH fS hl tp tc hC := hMS.2.1
  have hMS : MOK fS n wk kb hl tp := hMS.1
  obtain ⟨hn, zn, h5, z1, hw6, zw, hk12, zk, zb, ht, zt, hHd⟩ := id hMS
  obtain ⟨hrq, rfl, hYm⟩ := hrn
  subst hM
  have hP : va_P (dC, dI) vwCl ([(zo14irriiiiiirriirrrrlriiii m0 th aS aI im ac sp en wg op aB aT se dn aG aO aN aD bv aY (nI tm.length) kd nu tv), (zaI aS cS 901 fS), (zaI aI cI 901 fI), (zaI aB cB 6 fB), (zaI aT cT 64 fT), (zaI aG cG 9 fG), (zaL aO cO 36 fO), (zaL aN cN 36 fN), (zaI aD cD 36 fD), (zaI aY cY 20 fY)] ++ []) s.heap := hP
  have hD : va_D (fun _ => True) ([(zo14irriiiiiirriirrrrlriiii m0 th aS aI im ac sp en wg op aB aT se dn aG aO aN aD bv aY (nI tm.length) kd nu tv), (zaI aS cS 901 fS), (zaI aI cI 901 fI), (zaI aB cB 6 fB), (zaI aT cT 64 fT), (zaI aG cG 9 fG), (zaL aO cO 36 fO), (zaL aN cN 36 fN), (zaI aD cD 36 fD), (zaI aY cY 20 fY)] ++ []) := hD
  have hwc := bl_mem (G := [(zo14irriiiiiirriirrrrlriiii m0 th aS aI im ac sp en wg op aB aT se dn aG aO aN aD bv aY (nI tm.length) kd nu tv), (zaI aS cS 901 fS), (zaI aI cI 901 fI), (zaI aB cB 6 fB), (zaI aT cT 64 fT), (zaI aG cG 9 fG), (zaL aO cO 36 fO), (zaL aN cN 36 fN), (zaI aD cD 36 fD), (zaI aY cY 20 fY)]) (F := [(zo14irriiiiiirriirrrrlriiii m0 th aS aI im ac sp en wg op aB aT se dn aG aO aN aD bv aY (nI tm.length) kd nu tv), (zaI aS cS 901 fS), (zaI aB cB 6 fB), (zaI aT cT 64 fT)]) (T := []) [0, 1, 3, 4] rfl
  have hPc := bl_sub (F := [(zo14irriiiiiirriirrrrlriiii m0 th aS aI im ac sp en wg op aB aT se dn aG aO aN aD bv aY (nI tm.length) kd nu tv), (zaI aS cS 901 fS), (zaI aB cB 6 fB), (zaI aT cT 64 fT)]) hP [0, 1, 3, 4] rfl
  refine ⟨_, _, _, c_mOf l dC dI m0 aS aI aB aT aG aO aN aD aY th im ac sp en wg op se dn (nI tm.length) kd nu tv bv cS cB cT fS fB fT n yk yv yc mi sn x y hC s.heap.size zn hn (MH_hol hHd hMH h5) hMV.2.2.1 hMV.2.2.2.1 hMV.2.2.2.2.1 hMV.1 hMV.2.1, ⟨rfl, rfl, hPc, (K_mem hK hTM).sub [0, 2, 3] rfl, bl_Dsub hD [0, 1, 3, 4] (by decide) rfl⟩, fun o t hQ => ?_, fun q hq => bl_A hwc q hq⟩
  obtain ⟨⟨r, u9, rfl, hpost, hB⟩, hz, hkp⟩ := hQ
  obtain ⟨fB9, fT9, se9, dn9⟩ := u9
  try dsimp only at hpost hB
  obtain ⟨hP1, hK1, hD1⟩ := hB
  have hJ := bl_gen (F' := [(zo14irriiiiiirriirrrrlriiii m0 th aS aI im ac sp en wg op aB aT se9 dn9 aG aO aN aD bv aY (nI tm.length) kd nu tv), (zaI aS cS 901 fS), (zaI aI cI 901 fI), (zaI aB cB 6 fB9), (zaI aT cT 64 fT9), (zaI aG cG 9 fG), (zaL aO cO 36 fO), (zaL aN cN 36 fN), (zaI aD cD 36 fD), (zaI aY cY 20 fY)]) hP hD [0, 1, 3, 4] rfl hkp hP1 hD1 [some 0, some 1, none, some 2, some 3, none, none, none, none, none] [0, 1, 3, 4] rfl (Or.inl rfl) rfl
  exact ⟨⟨r, (im, (n, wk, kb, mi, sn, yk, yv, yc, hl, tp, tc, hC, ee), kvm, tm), rfl, ⟨hpost, rfl⟩, _, (fun M9 k9 => k9 aS aI aB aT aG aO aN aD aY th ac sp en wg op (se9) (dn9) ((nI tm.length)) kd nu tv bv cS cI cB cT cG cO cN cD cY fS fI (fB9) (fT9) fG fO fN fD fY rfl hJ.1 ⟨hJ.2.1, fun _ _ _ => trivial⟩ hTM ⟨(show MOK fS n wk kb hl tp from hMS), (show MH fS hl tp tc hC from hMH), (show MV fS n mi sn yk yv yc ee from hMV)⟩ ((show im = 0 ∨ (MOK fI (kvm.1) (kvm.2.1) (kvm.2.2.1) (kvm.2.2.2.2.2.2.2.2.1) (kvm.2.2.2.2.2.2.2.2.2.1) ∧ MH fI (kvm.2.2.2.2.2.2.2.2.1) (kvm.2.2.2.2.2.2.2.2.2.1) (kvm.2.2.2.2.2.2.2.2.2.2.1) (kvm.2.2.2.2.2.2.2.2.2.2.2.1) ∧ MV fI (kvm.1) (kvm.2.2.2.1) (kvm.2.2.2.2.1) (kvm.2.2.2.2.2.1) (kvm.2.2.2.2.2.2.1) (kvm.2.2.2.2.2.2.2.1) (kvm.2.2.2.2.2.2.2.2.2.2.2.2)) from hMI)) (⟨hrq, rfl, hYm⟩)), hJ.2, rfl⟩, hz, fun q h1 h2 => hkp q h1 (fun h => h2 (bl_A hwc _ h))⟩

set_option maxHeartbeats 4000000 in
set_option maxRecDepth 100000 in
theorem v_sees (l : Launch) (dC : Nat → ClassId) (dI : Nat → Nat → Nat) (sK sV : Nat → Nat) (im : Int32) (vm kvm : VS) (tm : List Nat) (T : List (ClassId × FieldType)) (m0 : Nat) (M : va_W) (x : Int32) (sz : Nat) : Met l yX12_sees wsX12_sees ({ frames := 4, cells := 0, slots := 0, locals := 100 } : Room) (va_Pc [.ref m0, .int x] (fun U => U.heap.size = sz ∧ MI dC dI im vm kvm tm T m0 M U.heap ∧ va_K (dC, dI) vwCl T U ∧ Gs sK sV (va_A M sz) U)) (va_Qi (fun (r : Int32) (u : Int32 × VS × VS × List Nat) => r = seR vm.1 vm.2.2.2.2.2.1 vm.2.2.2.2.2.2.1 vm.2.2.2.2.2.2.2.1 vm.2.2.2.2.2.2.2.2.2.2.2.1 vm.2.2.2.1 vm.2.2.2.2.1 x ∧ u = (im, vm, kvm, tm)) (fun (u : Int32 × VS × VS × List Nat) (t : State) => ∃ M1 : va_W, MI dC dI u.1 u.2.1 u.2.2.1 u.2.2.2 T m0 M1 t.heap ∧ va_D (va_A M sz) M1 ∧ M1.map (fun c => c.1) = M.map (fun c => c.1)) (va_A M sz)) 0 0 (va_A M sz) := by
  obtain ⟨n, wk, kb, mi, sn, yk, yv, yc, hl, tp, tc, hC, ee⟩ := vm
  refine met_wrap (fun args s hPc => ?_)
  obtain ⟨rfl, rfl, hMM, hK, hE⟩ := hPc
  have hMM0 := hMM
  refine hMM _ (fun aS aI aB aT aG aO aN aD aY th ac sp en wg op se dn rn kd nu tv bv cS cI cB cT cG cO cN cD cY fS fI fB fT fG fO fN fD fY hM hP hD hTM hMS hMI hrn => ?_)
  have hMV : MV fS n mi sn yk yv yc ee := hMS.2.2
  have hMH : MH fS hl tp tc hC := hMS.2.1
  have hMS : MOK fS n wk kb hl tp := hMS.1
  obtain ⟨hn, zn, h5, z1, hw6, zw, hk12, zk, zb, ht, zt, hHd⟩ := id hMS
  obtain ⟨hrq, rfl, hYm⟩ := hrn
  subst hM
  have hP : va_P (dC, dI) vwCl ([(zo14irriiiiiirriirrrrlriiii m0 th aS aI im ac sp en wg op aB aT se dn aG aO aN aD bv aY (nI tm.length) kd nu tv), (zaI aS cS 901 fS), (zaI aI cI 901 fI), (zaI aB cB 6 fB), (zaI aT cT 64 fT), (zaI aG cG 9 fG), (zaL aO cO 36 fO), (zaL aN cN 36 fN), (zaI aD cD 36 fD), (zaI aY cY 20 fY)] ++ []) s.heap := hP
  have hD : va_D (fun _ => True) ([(zo14irriiiiiirriirrrrlriiii m0 th aS aI im ac sp en wg op aB aT se dn aG aO aN aD bv aY (nI tm.length) kd nu tv), (zaI aS cS 901 fS), (zaI aI cI 901 fI), (zaI aB cB 6 fB), (zaI aT cT 64 fT), (zaI aG cG 9 fG), (zaL aO cO 36 fO), (zaL aN cN 36 fN), (zaI aD cD 36 fD), (zaI aY cY 20 fY)] ++ []) := hD
  have hwc := bl_mem (G := [(zo14irriiiiiirriirrrrlriiii m0 th aS aI im ac sp en wg op aB aT se dn aG aO aN aD bv aY (nI tm.length) kd nu tv), (zaI aS cS 901 fS), (zaI aI cI 901 fI), (zaI aB cB 6 fB), (zaI aT cT 64 fT), (zaI aG cG 9 fG), (zaL aO cO 36 fO), (zaL aN cN 36 fN), (zaI aD cD 36 fD), (zaI aY cY 20 fY)]) (F := [(zo14irriiiiiirriirrrrlriiii m0 th aS aI im ac sp en wg op aB aT se dn aG aO aN aD bv aY (nI tm.length) kd nu tv), (zaI aS cS 901 fS), (zaI aB cB 6 fB), (zaI aT cT 64 fT)]) (T := []) [0, 1, 3, 4] rfl
  have hPc := bl_sub (F := [(zo14irriiiiiirriirrrrlriiii m0 th aS aI im ac sp en wg op aB aT se dn aG aO aN aD bv aY (nI tm.length) kd nu tv), (zaI aS cS 901 fS), (zaI aB cB 6 fB), (zaI aT cT 64 fT)]) hP [0, 1, 3, 4] rfl
  refine ⟨_, _, _, c_mSees l dC dI m0 aS aI aB aT aG aO aN aD aY th im ac sp en wg op se dn (nI tm.length) kd nu tv bv cS cB cT fS fB fT n yk yv yc mi sn x hC s.heap.size zn hn (MH_hol hHd hMH h5) hMV.2.2.1 hMV.2.2.2.1 hMV.2.2.2.2.1 hMV.1 hMV.2.1, ⟨rfl, rfl, hPc, (K_mem hK hTM).sub [0, 2, 3] rfl, bl_Dsub hD [0, 1, 3, 4] (by decide) rfl⟩, fun o t hQ => ?_, fun q hq => bl_A hwc q hq⟩
  obtain ⟨⟨r, u9, rfl, hpost, hB⟩, hz, hkp⟩ := hQ
  obtain ⟨fB9, fT9, se9, dn9⟩ := u9
  try dsimp only at hpost hB
  obtain ⟨hP1, hK1, hD1⟩ := hB
  have hJ := bl_gen (F' := [(zo14irriiiiiirriirrrrlriiii m0 th aS aI im ac sp en wg op aB aT se9 dn9 aG aO aN aD bv aY (nI tm.length) kd nu tv), (zaI aS cS 901 fS), (zaI aI cI 901 fI), (zaI aB cB 6 fB9), (zaI aT cT 64 fT9), (zaI aG cG 9 fG), (zaL aO cO 36 fO), (zaL aN cN 36 fN), (zaI aD cD 36 fD), (zaI aY cY 20 fY)]) hP hD [0, 1, 3, 4] rfl hkp hP1 hD1 [some 0, some 1, none, some 2, some 3, none, none, none, none, none] [0, 1, 3, 4] rfl (Or.inl rfl) rfl
  exact ⟨⟨r, (im, (n, wk, kb, mi, sn, yk, yv, yc, hl, tp, tc, hC, ee), kvm, tm), rfl, ⟨hpost, rfl⟩, _, (fun M9 k9 => k9 aS aI aB aT aG aO aN aD aY th ac sp en wg op (se9) (dn9) ((nI tm.length)) kd nu tv bv cS cI cB cT cG cO cN cD cY fS fI (fB9) (fT9) fG fO fN fD fY rfl hJ.1 ⟨hJ.2.1, fun _ _ _ => trivial⟩ hTM ⟨(show MOK fS n wk kb hl tp from hMS), (show MH fS hl tp tc hC from hMH), (show MV fS n mi sn yk yv yc ee from hMV)⟩ ((show im = 0 ∨ (MOK fI (kvm.1) (kvm.2.1) (kvm.2.2.1) (kvm.2.2.2.2.2.2.2.2.1) (kvm.2.2.2.2.2.2.2.2.2.1) ∧ MH fI (kvm.2.2.2.2.2.2.2.2.1) (kvm.2.2.2.2.2.2.2.2.2.1) (kvm.2.2.2.2.2.2.2.2.2.2.1) (kvm.2.2.2.2.2.2.2.2.2.2.2.1) ∧ MV fI (kvm.1) (kvm.2.2.2.1) (kvm.2.2.2.2.1) (kvm.2.2.2.2.2.1) (kvm.2.2.2.2.2.2.1) (kvm.2.2.2.2.2.2.2.1) (kvm.2.2.2.2.2.2.2.2.2.2.2.2)) from hMI)) (⟨hrq, rfl, hYm⟩)), hJ.2, rfl⟩, hz, fun q h1 h2 => hkp q h1 (fun h => h2 (bl_A hwc _ h))⟩

set_option maxHeartbeats 4000000 in
set_option maxRecDepth 100000 in
theorem v_where (l : Launch) (dC : Nat → ClassId) (dI : Nat → Nat → Nat) (sK sV : Nat → Nat) (im : Int32) (vm kvm : VS) (tm : List Nat) (T : List (ClassId × FieldType)) (m0 : Nat) (M : va_W) (x : Int32) (sz : Nat) : Met l yX12_where wsX12_where ({ frames := 4, cells := 0, slots := 0, locals := 100 } : Room) (va_Pc [.ref m0, .int x] (fun U => U.heap.size = sz ∧ MI dC dI im vm kvm tm T m0 M U.heap ∧ va_K (dC, dI) vwCl T U ∧ Gs sK sV (va_A M sz) U)) (va_Ql (fun (r : Int64) (u : Int32 × VS × VS × List Nat) => r = whR vm.1 vm.2.2.2.2.2.1 vm.2.2.2.2.2.2.1 vm.2.2.2.2.2.2.2.1 vm.2.2.2.2.2.2.2.2.2.2.2.1 vm.2.2.2.1 vm.2.2.2.2.1 x ∧ u = (im, vm, kvm, tm)) (fun (u : Int32 × VS × VS × List Nat) (t : State) => ∃ M1 : va_W, MI dC dI u.1 u.2.1 u.2.2.1 u.2.2.2 T m0 M1 t.heap ∧ va_D (va_A M sz) M1 ∧ M1.map (fun c => c.1) = M.map (fun c => c.1)) (va_A M sz)) 0 0 (va_A M sz) := by
  obtain ⟨n, wk, kb, mi, sn, yk, yv, yc, hl, tp, tc, hC, ee⟩ := vm
  refine met_wrap (fun args s hPc => ?_)
  obtain ⟨rfl, rfl, hMM, hK, hE⟩ := hPc
  have hMM0 := hMM
  refine hMM _ (fun aS aI aB aT aG aO aN aD aY th ac sp en wg op se dn rn kd nu tv bv cS cI cB cT cG cO cN cD cY fS fI fB fT fG fO fN fD fY hM hP hD hTM hMS hMI hrn => ?_)
  have hMV : MV fS n mi sn yk yv yc ee := hMS.2.2
  have hMH : MH fS hl tp tc hC := hMS.2.1
  have hMS : MOK fS n wk kb hl tp := hMS.1
  obtain ⟨hn, zn, h5, z1, hw6, zw, hk12, zk, zb, ht, zt, hHd⟩ := id hMS
  obtain ⟨hrq, rfl, hYm⟩ := hrn
  subst hM
  have hP : va_P (dC, dI) vwCl ([(zo14irriiiiiirriirrrrlriiii m0 th aS aI im ac sp en wg op aB aT se dn aG aO aN aD bv aY (nI tm.length) kd nu tv), (zaI aS cS 901 fS), (zaI aI cI 901 fI), (zaI aB cB 6 fB), (zaI aT cT 64 fT), (zaI aG cG 9 fG), (zaL aO cO 36 fO), (zaL aN cN 36 fN), (zaI aD cD 36 fD), (zaI aY cY 20 fY)] ++ []) s.heap := hP
  have hD : va_D (fun _ => True) ([(zo14irriiiiiirriirrrrlriiii m0 th aS aI im ac sp en wg op aB aT se dn aG aO aN aD bv aY (nI tm.length) kd nu tv), (zaI aS cS 901 fS), (zaI aI cI 901 fI), (zaI aB cB 6 fB), (zaI aT cT 64 fT), (zaI aG cG 9 fG), (zaL aO cO 36 fO), (zaL aN cN 36 fN), (zaI aD cD 36 fD), (zaI aY cY 20 fY)] ++ []) := hD
  have hwc := bl_mem (G := [(zo14irriiiiiirriirrrrlriiii m0 th aS aI im ac sp en wg op aB aT se dn aG aO aN aD bv aY (nI tm.length) kd nu tv), (zaI aS cS 901 fS), (zaI aI cI 901 fI), (zaI aB cB 6 fB), (zaI aT cT 64 fT), (zaI aG cG 9 fG), (zaL aO cO 36 fO), (zaL aN cN 36 fN), (zaI aD cD 36 fD), (zaI aY cY 20 fY)]) (F := [(zo14irriiiiiirriirrrrlriiii m0 th aS aI im ac sp en wg op aB aT se dn aG aO aN aD bv aY (nI tm.length) kd nu tv), (zaI aS cS 901 fS), (zaI aB cB 6 fB), (zaI aT cT 64 fT)]) (T := []) [0, 1, 3, 4] rfl
  have hPc := bl_sub (F := [(zo14irriiiiiirriirrrrlriiii m0 th aS aI im ac sp en wg op aB aT se dn aG aO aN aD bv aY (nI tm.length) kd nu tv), (zaI aS cS 901 fS), (zaI aB cB 6 fB), (zaI aT cT 64 fT)]) hP [0, 1, 3, 4] rfl
  refine ⟨_, _, _, c_mWhere l dC dI m0 aS aI aB aT aG aO aN aD aY th im ac sp en wg op se dn (nI tm.length) kd nu tv bv cS cB cT fS fB fT n yk yv yc mi sn x hC s.heap.size zn hn (MH_hol hHd hMH h5) hMV.2.2.1 hMV.2.2.2.1 hMV.2.2.2.2.1 hMV.1 hMV.2.1, ⟨rfl, rfl, hPc, (K_mem hK hTM).sub [0, 2, 3] rfl, bl_Dsub hD [0, 1, 3, 4] (by decide) rfl⟩, fun o t hQ => ?_, fun q hq => bl_A hwc q hq⟩
  obtain ⟨⟨r, u9, rfl, hpost, hB⟩, hz, hkp⟩ := hQ
  obtain ⟨fB9, fT9, se9, dn9⟩ := u9
  try dsimp only at hpost hB
  obtain ⟨hP1, hK1, hD1⟩ := hB
  have hJ := bl_gen (F' := [(zo14irriiiiiirriirrrrlriiii m0 th aS aI im ac sp en wg op aB aT se9 dn9 aG aO aN aD bv aY (nI tm.length) kd nu tv), (zaI aS cS 901 fS), (zaI aI cI 901 fI), (zaI aB cB 6 fB9), (zaI aT cT 64 fT9), (zaI aG cG 9 fG), (zaL aO cO 36 fO), (zaL aN cN 36 fN), (zaI aD cD 36 fD), (zaI aY cY 20 fY)]) hP hD [0, 1, 3, 4] rfl hkp hP1 hD1 [some 0, some 1, none, some 2, some 3, none, none, none, none, none] [0, 1, 3, 4] rfl (Or.inl rfl) rfl
  exact ⟨⟨r, (im, (n, wk, kb, mi, sn, yk, yv, yc, hl, tp, tc, hC, ee), kvm, tm), rfl, ⟨hpost, rfl⟩, _, (fun M9 k9 => k9 aS aI aB aT aG aO aN aD aY th ac sp en wg op (se9) (dn9) ((nI tm.length)) kd nu tv bv cS cI cB cT cG cO cN cD cY fS fI (fB9) (fT9) fG fO fN fD fY rfl hJ.1 ⟨hJ.2.1, fun _ _ _ => trivial⟩ hTM ⟨(show MOK fS n wk kb hl tp from hMS), (show MH fS hl tp tc hC from hMH), (show MV fS n mi sn yk yv yc ee from hMV)⟩ ((show im = 0 ∨ (MOK fI (kvm.1) (kvm.2.1) (kvm.2.2.1) (kvm.2.2.2.2.2.2.2.2.1) (kvm.2.2.2.2.2.2.2.2.2.1) ∧ MH fI (kvm.2.2.2.2.2.2.2.2.1) (kvm.2.2.2.2.2.2.2.2.2.1) (kvm.2.2.2.2.2.2.2.2.2.2.1) (kvm.2.2.2.2.2.2.2.2.2.2.2.1) ∧ MV fI (kvm.1) (kvm.2.2.2.1) (kvm.2.2.2.2.1) (kvm.2.2.2.2.2.1) (kvm.2.2.2.2.2.2.1) (kvm.2.2.2.2.2.2.2.1) (kvm.2.2.2.2.2.2.2.2.2.2.2.2)) from hMI)) (⟨hrq, rfl, hYm⟩)), hJ.2, rfl⟩, hz, fun q h1 h2 => hkp q h1 (fun h => h2 (bl_A hwc _ h))⟩

set_option maxHeartbeats 4000000 in
set_option maxRecDepth 100000 in
theorem v_drift (l : Launch) (dC : Nat → ClassId) (dI : Nat → Nat → Nat) (sK sV : Nat → Nat) (im : Int32) (vm kvm : VS) (tm : List Nat) (T : List (ClassId × FieldType)) (m0 : Nat) (M : va_W) (x : Int32) (sz : Nat) : Met l yX12_drift wsX12_drift ({ frames := 2, cells := 0, slots := 0, locals := 52 } : Room) (va_Pc [.ref m0, .int x] (fun U => U.heap.size = sz ∧ MI dC dI im vm kvm tm T m0 M U.heap ∧ va_K (dC, dI) vwCl T U ∧ Gs sK sV (va_A M sz) U)) (va_Qi (fun (r : Int32) (u : Int32 × VS × VS × List Nat) => r = drR vm.2.2.2.2.2.2.2.2.2.2.2.1 vm.2.2.2.1 vm.2.2.2.2.1 x ∧ u = (im, vm, kvm, tm)) (fun (u : Int32 × VS × VS × List Nat) (t : State) => ∃ M1 : va_W, MI dC dI u.1 u.2.1 u.2.2.1 u.2.2.2 T m0 M1 t.heap ∧ va_D (va_A M sz) M1 ∧ M1.map (fun c => c.1) = M.map (fun c => c.1)) (va_A M sz)) 0 0 (va_A M sz) := by
  obtain ⟨n, wk, kb, mi, sn, yk, yv, yc, hl, tp, tc, hC, ee⟩ := vm
  refine met_wrap (fun args s hPc => ?_)
  obtain ⟨rfl, rfl, hMM, hK, hE⟩ := hPc
  have hMM0 := hMM
  refine hMM _ (fun aS aI aB aT aG aO aN aD aY th ac sp en wg op se dn rn kd nu tv bv cS cI cB cT cG cO cN cD cY fS fI fB fT fG fO fN fD fY hM hP hD hTM hMS hMI hrn => ?_)
  have hMV : MV fS n mi sn yk yv yc ee := hMS.2.2
  have hMH : MH fS hl tp tc hC := hMS.2.1
  have hMS : MOK fS n wk kb hl tp := hMS.1
  obtain ⟨hn, zn, h5, z1, hw6, zw, hk12, zk, zb, ht, zt, hHd⟩ := id hMS
  obtain ⟨hrq, rfl, hYm⟩ := hrn
  subst hM
  have hP : va_P (dC, dI) vwCl ([(zo14irriiiiiirriirrrrlriiii m0 th aS aI im ac sp en wg op aB aT se dn aG aO aN aD bv aY (nI tm.length) kd nu tv), (zaI aS cS 901 fS), (zaI aI cI 901 fI), (zaI aB cB 6 fB), (zaI aT cT 64 fT), (zaI aG cG 9 fG), (zaL aO cO 36 fO), (zaL aN cN 36 fN), (zaI aD cD 36 fD), (zaI aY cY 20 fY)] ++ []) s.heap := hP
  have hD : va_D (fun _ => True) ([(zo14irriiiiiirriirrrrlriiii m0 th aS aI im ac sp en wg op aB aT se dn aG aO aN aD bv aY (nI tm.length) kd nu tv), (zaI aS cS 901 fS), (zaI aI cI 901 fI), (zaI aB cB 6 fB), (zaI aT cT 64 fT), (zaI aG cG 9 fG), (zaL aO cO 36 fO), (zaL aN cN 36 fN), (zaI aD cD 36 fD), (zaI aY cY 20 fY)] ++ []) := hD
  have hwc := bl_mem (G := [(zo14irriiiiiirriirrrrlriiii m0 th aS aI im ac sp en wg op aB aT se dn aG aO aN aD bv aY (nI tm.length) kd nu tv), (zaI aS cS 901 fS), (zaI aI cI 901 fI), (zaI aB cB 6 fB), (zaI aT cT 64 fT), (zaI aG cG 9 fG), (zaL aO cO 36 fO), (zaL aN cN 36 fN), (zaI aD cD 36 fD), (zaI aY cY 20 fY)]) (F := [(zo14irriiiiiirriirrrrlriiii m0 th aS aI im ac sp en wg op aB aT se dn aG aO aN aD bv aY (nI tm.length) kd nu tv), (zaI aS cS 901 fS), (zaI aB cB 6 fB), (zaI aT cT 64 fT)]) (T := []) [0, 1, 3, 4] rfl
  have hPc := bl_sub (F := [(zo14irriiiiiirriirrrrlriiii m0 th aS aI im ac sp en wg op aB aT se dn aG aO aN aD bv aY (nI tm.length) kd nu tv), (zaI aS cS 901 fS), (zaI aB cB 6 fB), (zaI aT cT 64 fT)]) hP [0, 1, 3, 4] rfl
  refine ⟨_, _, _, c_mDrift l dC dI m0 aS aI aB aT aG aO aN aD aY th im ac sp en wg op se dn (nI tm.length) kd nu tv bv cS cB cT fS fB fT mi sn x hC s.heap.size (MH_hol hHd hMH h5) hMV.1 hMV.2.1, ⟨rfl, rfl, hPc, (K_mem hK hTM).sub [0, 2, 3] rfl, bl_Dsub hD [0, 1, 3, 4] (by decide) rfl⟩, fun o t hQ => ?_, fun q hq => bl_A hwc q hq⟩
  obtain ⟨⟨r, u9, rfl, hpost, hB⟩, hz, hkp⟩ := hQ
  obtain ⟨fB9, fT9, se9, dn9⟩ := u9
  try dsimp only at hpost hB
  obtain ⟨hP1, hK1, hD1⟩ := hB
  have hJ := bl_gen (F' := [(zo14irriiiiiirriirrrrlriiii m0 th aS aI im ac sp en wg op aB aT se9 dn9 aG aO aN aD bv aY (nI tm.length) kd nu tv), (zaI aS cS 901 fS), (zaI aI cI 901 fI), (zaI aB cB 6 fB9), (zaI aT cT 64 fT9), (zaI aG cG 9 fG), (zaL aO cO 36 fO), (zaL aN cN 36 fN), (zaI aD cD 36 fD), (zaI aY cY 20 fY)]) hP hD [0, 1, 3, 4] rfl hkp hP1 hD1 [some 0, some 1, none, some 2, some 3, none, none, none, none, none] [0, 1, 3, 4] rfl (Or.inl rfl) rfl
  exact ⟨⟨r, (im, (n, wk, kb, mi, sn, yk, yv, yc, hl, tp, tc, hC, ee), kvm, tm), rfl, ⟨hpost, rfl⟩, _, (fun M9 k9 => k9 aS aI aB aT aG aO aN aD aY th ac sp en wg op (se9) (dn9) ((nI tm.length)) kd nu tv bv cS cI cB cT cG cO cN cD cY fS fI (fB9) (fT9) fG fO fN fD fY rfl hJ.1 ⟨hJ.2.1, fun _ _ _ => trivial⟩ hTM ⟨(show MOK fS n wk kb hl tp from hMS), (show MH fS hl tp tc hC from hMH), (show MV fS n mi sn yk yv yc ee from hMV)⟩ ((show im = 0 ∨ (MOK fI (kvm.1) (kvm.2.1) (kvm.2.2.1) (kvm.2.2.2.2.2.2.2.2.1) (kvm.2.2.2.2.2.2.2.2.2.1) ∧ MH fI (kvm.2.2.2.2.2.2.2.2.1) (kvm.2.2.2.2.2.2.2.2.2.1) (kvm.2.2.2.2.2.2.2.2.2.2.1) (kvm.2.2.2.2.2.2.2.2.2.2.2.1) ∧ MV fI (kvm.1) (kvm.2.2.2.1) (kvm.2.2.2.2.1) (kvm.2.2.2.2.2.1) (kvm.2.2.2.2.2.2.1) (kvm.2.2.2.2.2.2.2.1) (kvm.2.2.2.2.2.2.2.2.2.2.2.2)) from hMI)) (⟨hrq, rfl, hYm⟩)), hJ.2, rfl⟩, hz, fun q h1 h2 => hkp q h1 (fun h => h2 (bl_A hwc _ h))⟩

set_option maxHeartbeats 4000000 in
set_option maxRecDepth 100000 in
theorem v_line (l : Launch) (dC : Nat → ClassId) (dI : Nat → Nat → Nat) (sK sV : Nat → Nat) (im : Int32) (vm kvm : VS) (tm : List Nat) (T : List (ClassId × FieldType)) (m0 : Nat) (M : va_W) (x : Int32) (y : Int32) (sz : Nat) : Met l yX12_line wsX12_line ({ frames := 2, cells := 0, slots := 0, locals := 43 } : Room) (va_Pc [.ref m0, .int x, .int y] (fun U => U.heap.size = sz ∧ MI dC dI im vm kvm tm T m0 M U.heap ∧ va_K (dC, dI) vwCl T U ∧ Gs sK sV (va_A M sz) U)) (va_Qi (fun (r : Int32) (u : Int32 × VS × VS × List Nat) => r = lnR vm.1 vm.2.2.2.2.2.2.2.1 (sgC vm.2.2.2.2.2.2.2.2.2.2.2.1) vm.2.2.2.1 x y ∧ u = (im, vm, kvm, tm)) (fun (u : Int32 × VS × VS × List Nat) (t : State) => ∃ M1 : va_W, MI dC dI u.1 u.2.1 u.2.2.1 u.2.2.2 T m0 M1 t.heap ∧ va_D (va_A M sz) M1 ∧ M1.map (fun c => c.1) = M.map (fun c => c.1)) (va_A M sz)) 0 0 (va_A M sz) := by
  obtain ⟨n, wk, kb, mi, sn, yk, yv, yc, hl, tp, tc, hC, ee⟩ := vm
  refine met_wrap (fun args s hPc => ?_)
  obtain ⟨rfl, rfl, hMM, hK, hE⟩ := hPc
  have hMM0 := hMM
  refine hMM _ (fun aS aI aB aT aG aO aN aD aY th ac sp en wg op se dn rn kd nu tv bv cS cI cB cT cG cO cN cD cY fS fI fB fT fG fO fN fD fY hM hP hD hTM hMS hMI hrn => ?_)
  have hMV : MV fS n mi sn yk yv yc ee := hMS.2.2
  have hMH : MH fS hl tp tc hC := hMS.2.1
  have hMS : MOK fS n wk kb hl tp := hMS.1
  obtain ⟨hn, zn, h5, z1, hw6, zw, hk12, zk, zb, ht, zt, hHd⟩ := id hMS
  obtain ⟨hrq, rfl, hYm⟩ := hrn
  subst hM
  have hP : va_P (dC, dI) vwCl ([(zo14irriiiiiirriirrrrlriiii m0 th aS aI im ac sp en wg op aB aT se dn aG aO aN aD bv aY (nI tm.length) kd nu tv), (zaI aS cS 901 fS), (zaI aI cI 901 fI), (zaI aB cB 6 fB), (zaI aT cT 64 fT), (zaI aG cG 9 fG), (zaL aO cO 36 fO), (zaL aN cN 36 fN), (zaI aD cD 36 fD), (zaI aY cY 20 fY)] ++ []) s.heap := hP
  have hD : va_D (fun _ => True) ([(zo14irriiiiiirriirrrrlriiii m0 th aS aI im ac sp en wg op aB aT se dn aG aO aN aD bv aY (nI tm.length) kd nu tv), (zaI aS cS 901 fS), (zaI aI cI 901 fI), (zaI aB cB 6 fB), (zaI aT cT 64 fT), (zaI aG cG 9 fG), (zaL aO cO 36 fO), (zaL aN cN 36 fN), (zaI aD cD 36 fD), (zaI aY cY 20 fY)] ++ []) := hD
  have hwc := bl_mem (G := [(zo14irriiiiiirriirrrrlriiii m0 th aS aI im ac sp en wg op aB aT se dn aG aO aN aD bv aY (nI tm.length) kd nu tv), (zaI aS cS 901 fS), (zaI aI cI 901 fI), (zaI aB cB 6 fB), (zaI aT cT 64 fT), (zaI aG cG 9 fG), (zaL aO cO 36 fO), (zaL aN cN 36 fN), (zaI aD cD 36 fD), (zaI aY cY 20 fY)]) (F := [(zo14irriiiiiirriirrrrlriiii m0 th aS aI im ac sp en wg op aB aT se dn aG aO aN aD bv aY (nI tm.length) kd nu tv), (zaI aS cS 901 fS)]) (T := []) [0, 1] rfl
  have hPc := bl_sub (F := [(zo14irriiiiiirriirrrrlriiii m0 th aS aI im ac sp en wg op aB aT se dn aG aO aN aD bv aY (nI tm.length) kd nu tv), (zaI aS cS 901 fS)]) hP [0, 1] rfl
  refine ⟨_, _, _, c_mLine l dC dI m0 aS aI aB aT aG aO aN aD aY th im ac sp en wg op se dn (nI tm.length) kd nu tv bv cS fS n yc mi x y hC zn hn (MH_hol hHd hMH h5) hMV.2.2.2.2.1 hMV.1, ⟨rfl, hPc, (K_mem hK hTM).sub [0] rfl⟩, fun o t hQ => ?_, fun q hq => hq.elim⟩
  obtain ⟨r, rfl, hpost, hh⟩ := hQ
  exact ⟨⟨r, (im, (n, wk, kb, mi, sn, yk, yv, yc, hl, tp, tc, hC, ee), kvm, tm), rfl, ⟨hpost, rfl⟩, _, by rw [hh]; exact hMM0, ⟨hD.1, fun k q hq => Or.inl ⟨k, q.2, hq⟩⟩, rfl⟩, by rw [hh]; exact Nat.le_refl _, fun q _ _ => by rw [hh]⟩

set_option maxHeartbeats 4000000 in
set_option maxRecDepth 100000 in
theorem v_next (l : Launch) (dC : Nat → ClassId) (dI : Nat → Nat → Nat) (sK sV : Nat → Nat) (im : Int32) (vm kvm : VS) (tm : List Nat) (T : List (ClassId × FieldType)) (m0 : Nat) (M : va_W) (x : Int32) (y : Int32) (z : Int32) (sz : Nat) : Met l yX12_next wsX12_next ({ frames := 2, cells := 0, slots := 0, locals := 43 } : Room) (va_Pc [.ref m0, .int x, .int y, .int z] (fun U => U.heap.size = sz ∧ MI dC dI im vm kvm tm T m0 M U.heap ∧ va_K (dC, dI) vwCl T U ∧ Gs sK sV (va_A M sz) U)) (va_Qi (fun (r : Int32) (u : Int32 × VS × VS × List Nat) => r = nxR vm.1 vm.2.2.2.2.2.2.2.1 x y z ∧ u = (im, vm, kvm, tm)) (fun (u : Int32 × VS × VS × List Nat) (t : State) => ∃ M1 : va_W, MI dC dI u.1 u.2.1 u.2.2.1 u.2.2.2 T m0 M1 t.heap ∧ va_D (va_A M sz) M1 ∧ M1.map (fun c => c.1) = M.map (fun c => c.1)) (va_A M sz)) 0 0 (va_A M sz) := by
  obtain ⟨n, wk, kb, mi, sn, yk, yv, yc, hl, tp, tc, hC, ee⟩ := vm
  refine met_wrap (fun args s hPc => ?_)
  obtain ⟨rfl, rfl, hMM, hK, hE⟩ := hPc
  have hMM0 := hMM
  refine hMM _ (fun aS aI aB aT aG aO aN aD aY th ac sp en wg op se dn rn kd nu tv bv cS cI cB cT cG cO cN cD cY fS fI fB fT fG fO fN fD fY hM hP hD hTM hMS hMI hrn => ?_)
  have hMV : MV fS n mi sn yk yv yc ee := hMS.2.2
  have hMH : MH fS hl tp tc hC := hMS.2.1
  have hMS : MOK fS n wk kb hl tp := hMS.1
  obtain ⟨hn, zn, h5, z1, hw6, zw, hk12, zk, zb, ht, zt, hHd⟩ := id hMS
  obtain ⟨hrq, rfl, hYm⟩ := hrn
  subst hM
  have hP : va_P (dC, dI) vwCl ([(zo14irriiiiiirriirrrrlriiii m0 th aS aI im ac sp en wg op aB aT se dn aG aO aN aD bv aY (nI tm.length) kd nu tv), (zaI aS cS 901 fS), (zaI aI cI 901 fI), (zaI aB cB 6 fB), (zaI aT cT 64 fT), (zaI aG cG 9 fG), (zaL aO cO 36 fO), (zaL aN cN 36 fN), (zaI aD cD 36 fD), (zaI aY cY 20 fY)] ++ []) s.heap := hP
  have hD : va_D (fun _ => True) ([(zo14irriiiiiirriirrrrlriiii m0 th aS aI im ac sp en wg op aB aT se dn aG aO aN aD bv aY (nI tm.length) kd nu tv), (zaI aS cS 901 fS), (zaI aI cI 901 fI), (zaI aB cB 6 fB), (zaI aT cT 64 fT), (zaI aG cG 9 fG), (zaL aO cO 36 fO), (zaL aN cN 36 fN), (zaI aD cD 36 fD), (zaI aY cY 20 fY)] ++ []) := hD
  have hwc := bl_mem (G := [(zo14irriiiiiirriirrrrlriiii m0 th aS aI im ac sp en wg op aB aT se dn aG aO aN aD bv aY (nI tm.length) kd nu tv), (zaI aS cS 901 fS), (zaI aI cI 901 fI), (zaI aB cB 6 fB), (zaI aT cT 64 fT), (zaI aG cG 9 fG), (zaL aO cO 36 fO), (zaL aN cN 36 fN), (zaI aD cD 36 fD), (zaI aY cY 20 fY)]) (F := [(zo14irriiiiiirriirrrrlriiii m0 th aS aI im ac sp en wg op aB aT se dn aG aO aN aD bv aY (nI tm.length) kd nu tv), (zaI aS cS 901 fS)]) (T := []) [0, 1] rfl
  have hPc := bl_sub (F := [(zo14irriiiiiirriirrrrlriiii m0 th aS aI im ac sp en wg op aB aT se dn aG aO aN aD bv aY (nI tm.length) kd nu tv), (zaI aS cS 901 fS)]) hP [0, 1] rfl
  refine ⟨_, _, _, c_mNext l dC dI m0 aS aI aB aT aG aO aN aD aY th im ac sp en wg op se dn (nI tm.length) kd nu tv bv cS fS n yc x y z zn hn hMV.2.2.2.2.1, ⟨rfl, hPc, (K_mem hK hTM).sub [0] rfl⟩, fun o t hQ => ?_, fun q hq => hq.elim⟩
  obtain ⟨r, rfl, hpost, hh⟩ := hQ
  exact ⟨⟨r, (im, (n, wk, kb, mi, sn, yk, yv, yc, hl, tp, tc, hC, ee), kvm, tm), rfl, ⟨hpost, rfl⟩, _, by rw [hh]; exact hMM0, ⟨hD.1, fun k q hq => Or.inl ⟨k, q.2, hq⟩⟩, rfl⟩, by rw [hh]; exact Nat.le_refl _, fun q _ _ => by rw [hh]⟩

set_option maxHeartbeats 4000000 in
set_option maxRecDepth 100000 in
theorem v_as (l : Launch) (dC : Nat → ClassId) (dI : Nat → Nat → Nat) (sK sV : Nat → Nat) (im : Int32) (vm kvm : VS) (tm : List Nat) (T : List (ClassId × FieldType)) (m0 : Nat) (M : va_W) (x : Int32) (y : Int32) (sz : Nat) : Met l yX12_as wsX12_as ({ frames := 2, cells := 0, slots := 0, locals := 43 } : Room) (va_Pc [.ref m0, .int x, .int y] (fun U => U.heap.size = sz ∧ MI dC dI im vm kvm tm T m0 M U.heap ∧ va_K (dC, dI) vwCl T U ∧ Gs sK sV (va_A M sz) U)) (va_Qi (fun (r : Int32) (u : Int32 × VS × VS × List Nat) => r = asR vm.1 vm.2.2.2.2.2.1 vm.2.2.2.2.2.2.1 x y ∧ u = (im, vm, kvm, tm)) (fun (u : Int32 × VS × VS × List Nat) (t : State) => ∃ M1 : va_W, MI dC dI u.1 u.2.1 u.2.2.1 u.2.2.2 T m0 M1 t.heap ∧ va_D (va_A M sz) M1 ∧ M1.map (fun c => c.1) = M.map (fun c => c.1)) (va_A M sz)) 0 0 (va_A M sz) := by
  obtain ⟨n, wk, kb, mi, sn, yk, yv, yc, hl, tp, tc, hC, ee⟩ := vm
  refine met_wrap (fun args s hPc => ?_)
  obtain ⟨rfl, rfl, hMM, hK, hE⟩ := hPc
  have hMM0 := hMM
  refine hMM _ (fun aS aI aB aT aG aO aN aD aY th ac sp en wg op se dn rn kd nu tv bv cS cI cB cT cG cO cN cD cY fS fI fB fT fG fO fN fD fY hM hP hD hTM hMS hMI hrn => ?_)
  have hMV : MV fS n mi sn yk yv yc ee := hMS.2.2
  have hMH : MH fS hl tp tc hC := hMS.2.1
  have hMS : MOK fS n wk kb hl tp := hMS.1
  obtain ⟨hn, zn, h5, z1, hw6, zw, hk12, zk, zb, ht, zt, hHd⟩ := id hMS
  obtain ⟨hrq, rfl, hYm⟩ := hrn
  subst hM
  have hP : va_P (dC, dI) vwCl ([(zo14irriiiiiirriirrrrlriiii m0 th aS aI im ac sp en wg op aB aT se dn aG aO aN aD bv aY (nI tm.length) kd nu tv), (zaI aS cS 901 fS), (zaI aI cI 901 fI), (zaI aB cB 6 fB), (zaI aT cT 64 fT), (zaI aG cG 9 fG), (zaL aO cO 36 fO), (zaL aN cN 36 fN), (zaI aD cD 36 fD), (zaI aY cY 20 fY)] ++ []) s.heap := hP
  have hD : va_D (fun _ => True) ([(zo14irriiiiiirriirrrrlriiii m0 th aS aI im ac sp en wg op aB aT se dn aG aO aN aD bv aY (nI tm.length) kd nu tv), (zaI aS cS 901 fS), (zaI aI cI 901 fI), (zaI aB cB 6 fB), (zaI aT cT 64 fT), (zaI aG cG 9 fG), (zaL aO cO 36 fO), (zaL aN cN 36 fN), (zaI aD cD 36 fD), (zaI aY cY 20 fY)] ++ []) := hD
  have hwc := bl_mem (G := [(zo14irriiiiiirriirrrrlriiii m0 th aS aI im ac sp en wg op aB aT se dn aG aO aN aD bv aY (nI tm.length) kd nu tv), (zaI aS cS 901 fS), (zaI aI cI 901 fI), (zaI aB cB 6 fB), (zaI aT cT 64 fT), (zaI aG cG 9 fG), (zaL aO cO 36 fO), (zaL aN cN 36 fN), (zaI aD cD 36 fD), (zaI aY cY 20 fY)]) (F := [(zo14irriiiiiirriirrrrlriiii m0 th aS aI im ac sp en wg op aB aT se dn aG aO aN aD bv aY (nI tm.length) kd nu tv), (zaI aS cS 901 fS)]) (T := []) [0, 1] rfl
  have hPc := bl_sub (F := [(zo14irriiiiiirriirrrrlriiii m0 th aS aI im ac sp en wg op aB aT se dn aG aO aN aD bv aY (nI tm.length) kd nu tv), (zaI aS cS 901 fS)]) hP [0, 1] rfl
  refine ⟨_, _, _, c_mAs l dC dI m0 aS aI aB aT aG aO aN aD aY th im ac sp en wg op se dn (nI tm.length) kd nu tv bv cS fS n yk yv x y zn hn hMV.2.2.1 hMV.2.2.2.1, ⟨rfl, hPc, (K_mem hK hTM).sub [0] rfl⟩, fun o t hQ => ?_, fun q hq => hq.elim⟩
  obtain ⟨r, rfl, hpost, hh⟩ := hQ
  exact ⟨⟨r, (im, (n, wk, kb, mi, sn, yk, yv, yc, hl, tp, tc, hC, ee), kvm, tm), rfl, ⟨hpost, rfl⟩, _, by rw [hh]; exact hMM0, ⟨hD.1, fun k q hq => Or.inl ⟨k, q.2, hq⟩⟩, rfl⟩, by rw [hh]; exact Nat.le_refl _, fun q _ _ => by rw [hh]⟩

set_option maxHeartbeats 4000000 in
set_option maxRecDepth 100000 in
theorem v_told (l : Launch) (dC : Nat → ClassId) (dI : Nat → Nat → Nat) (sK sV : Nat → Nat) (im : Int32) (vm kvm : VS) (tm : List Nat) (T : List (ClassId × FieldType)) (m0 : Nat) (M : va_W) (x : Int32) (sz : Nat) : Met l yX12_told wsX12_told ({ frames := 1, cells := 0, slots := 0, locals := 22 } : Room) (va_Pc [.ref m0, .int x] (fun U => U.heap.size = sz ∧ MI dC dI im vm kvm tm T m0 M U.heap ∧ va_K (dC, dI) vwCl T U ∧ Gs sK sV (va_A M sz) U)) (va_Qi (fun (r : Int32) (u : Int32 × VS × VS × List Nat) => r = tdR vm.2.2.2.1 vm.2.2.2.2.1 (sgC vm.2.2.2.2.2.2.2.2.2.2.2.1) vm.2.2.2.2.2.2.2.2.2.2.2.2 x ∧ u = (im, vm, kvm, tm)) (fun (u : Int32 × VS × VS × List Nat) (t : State) => ∃ M1 : va_W, MI dC dI u.1 u.2.1 u.2.2.1 u.2.2.2 T m0 M1 t.heap ∧ va_D (va_A M sz) M1 ∧ M1.map (fun c => c.1) = M.map (fun c => c.1)) (va_A M sz)) 0 0 (va_A M sz) := by
  obtain ⟨n, wk, kb, mi, sn, yk, yv, yc, hl, tp, tc, hC, ee⟩ := vm
  refine met_wrap (fun args s hPc => ?_)
  obtain ⟨rfl, rfl, hMM, hK, hE⟩ := hPc
  have hMM0 := hMM
  refine hMM _ (fun aS aI aB aT aG aO aN aD aY th ac sp en wg op se dn rn kd nu tv bv cS cI cB cT cG cO cN cD cY fS fI fB fT fG fO fN fD fY hM hP hD hTM hMS hMI hrn => ?_)
  have hMV : MV fS n mi sn yk yv yc ee := hMS.2.2
  have hMH : MH fS hl tp tc hC := hMS.2.1
  have hMS : MOK fS n wk kb hl tp := hMS.1
  obtain ⟨hn, zn, h5, z1, hw6, zw, hk12, zk, zb, ht, zt, hHd⟩ := id hMS
  obtain ⟨hrq, rfl, hYm⟩ := hrn
  subst hM
  have hP : va_P (dC, dI) vwCl ([(zo14irriiiiiirriirrrrlriiii m0 th aS aI im ac sp en wg op aB aT se dn aG aO aN aD bv aY (nI tm.length) kd nu tv), (zaI aS cS 901 fS), (zaI aI cI 901 fI), (zaI aB cB 6 fB), (zaI aT cT 64 fT), (zaI aG cG 9 fG), (zaL aO cO 36 fO), (zaL aN cN 36 fN), (zaI aD cD 36 fD), (zaI aY cY 20 fY)] ++ []) s.heap := hP
  have hD : va_D (fun _ => True) ([(zo14irriiiiiirriirrrrlriiii m0 th aS aI im ac sp en wg op aB aT se dn aG aO aN aD bv aY (nI tm.length) kd nu tv), (zaI aS cS 901 fS), (zaI aI cI 901 fI), (zaI aB cB 6 fB), (zaI aT cT 64 fT), (zaI aG cG 9 fG), (zaL aO cO 36 fO), (zaL aN cN 36 fN), (zaI aD cD 36 fD), (zaI aY cY 20 fY)] ++ []) := hD
  have hwc := bl_mem (G := [(zo14irriiiiiirriirrrrlriiii m0 th aS aI im ac sp en wg op aB aT se dn aG aO aN aD bv aY (nI tm.length) kd nu tv), (zaI aS cS 901 fS), (zaI aI cI 901 fI), (zaI aB cB 6 fB), (zaI aT cT 64 fT), (zaI aG cG 9 fG), (zaL aO cO 36 fO), (zaL aN cN 36 fN), (zaI aD cD 36 fD), (zaI aY cY 20 fY)]) (F := [(zo14irriiiiiirriirrrrlriiii m0 th aS aI im ac sp en wg op aB aT se dn aG aO aN aD bv aY (nI tm.length) kd nu tv), (zaI aS cS 901 fS)]) (T := []) [0, 1] rfl
  have hPc := bl_sub (F := [(zo14irriiiiiirriirrrrlriiii m0 th aS aI im ac sp en wg op aB aT se dn aG aO aN aD bv aY (nI tm.length) kd nu tv), (zaI aS cS 901 fS)]) hP [0, 1] rfl
  refine ⟨_, _, _, c_mTold l dC dI m0 aS aI aB aT aG aO aN aD aY th im ac sp en wg op se dn (nI tm.length) kd nu tv bv cS fS ee (sgC hC) x hC (MH_hol hHd hMH h5) hMV.2.2.2.2.2.1 (MH_sg hMH h5), ⟨rfl, hPc, (K_mem hK hTM).sub [0] rfl⟩, fun o t hQ => ?_, fun q hq => hq.elim⟩
  obtain ⟨r, rfl, hpost, hh⟩ := hQ
  exact ⟨⟨r, (im, (n, wk, kb, mi, sn, yk, yv, yc, hl, tp, tc, hC, ee), kvm, tm), rfl, ⟨by rw [← hMV.1, ← hMV.2.1]; exact hpost, rfl⟩, _, by rw [hh]; exact hMM0, ⟨hD.1, fun k q hq => Or.inl ⟨k, q.2, hq⟩⟩, rfl⟩, by rw [hh]; exact Nat.le_refl _, fun q _ _ => by rw [hh]⟩

set_option maxHeartbeats 4000000 in
set_option maxRecDepth 100000 in
theorem v_count (l : Launch) (dC : Nat → ClassId) (dI : Nat → Nat → Nat) (sK sV : Nat → Nat) (im : Int32) (vm kvm : VS) (tm : List Nat) (T : List (ClassId × FieldType)) (m0 : Nat) (M : va_W) (x : Int32) (sz : Nat) : Met l yX12_count wsX12_count ({ frames := 0, cells := 0, slots := 0, locals := 0 } : Room) (va_Pc [.ref m0, .int x] (fun U => U.heap.size = sz ∧ MI dC dI im vm kvm tm T m0 M U.heap ∧ va_K (dC, dI) vwCl T U ∧ Gs sK sV (va_A M sz) U)) (va_Qi (fun (r : Int32) (u : Int32 × VS × VS × List Nat) => r = ctR vm.1 vm.2.2.2.2.2.2.2.2.1 vm.2.1 vm.2.2.1 vm.2.2.2.2.2.2.2.2.2.1 tm x ∧ u = (im, vm, kvm, tm)) (fun (u : Int32 × VS × VS × List Nat) (t : State) => ∃ M1 : va_W, MI dC dI u.1 u.2.1 u.2.2.1 u.2.2.2 T m0 M1 t.heap ∧ va_D (va_A M sz) M1 ∧ M1.map (fun c => c.1) = M.map (fun c => c.1)) (va_A M sz)) 0 0 (va_A M sz) := by
  obtain ⟨n, wk, kb, mi, sn, yk, yv, yc, hl, tp, tc, hC, ee⟩ := vm
  refine met_wrap (fun args s hPc => ?_)
  obtain ⟨rfl, rfl, hMM, hK, hE⟩ := hPc
  have hMM0 := hMM
  refine hMM _ (fun aS aI aB aT aG aO aN aD aY th ac sp en wg op se dn rn kd nu tv bv cS cI cB cT cG cO cN cD cY fS fI fB fT fG fO fN fD fY hM hP hD hTM hMS hMI hrn => ?_)
  have hMV : MV fS n mi sn yk yv yc ee := hMS.2.2
  have hMH : MH fS hl tp tc hC := hMS.2.1
  have hMS : MOK fS n wk kb hl tp := hMS.1
  obtain ⟨hn, zn, h5, z1, hw6, zw, hk12, zk, zb, ht, zt, hHd⟩ := id hMS
  obtain ⟨hrq, rfl, hYm⟩ := hrn
  subst hM
  have hP : va_P (dC, dI) vwCl ([(zo14irriiiiiirriirrrrlriiii m0 th aS aI im ac sp en wg op aB aT se dn aG aO aN aD bv aY (nI tm.length) kd nu tv), (zaI aS cS 901 fS), (zaI aI cI 901 fI), (zaI aB cB 6 fB), (zaI aT cT 64 fT), (zaI aG cG 9 fG), (zaL aO cO 36 fO), (zaL aN cN 36 fN), (zaI aD cD 36 fD), (zaI aY cY 20 fY)] ++ []) s.heap := hP
  have hD : va_D (fun _ => True) ([(zo14irriiiiiirriirrrrlriiii m0 th aS aI im ac sp en wg op aB aT se dn aG aO aN aD bv aY (nI tm.length) kd nu tv), (zaI aS cS 901 fS), (zaI aI cI 901 fI), (zaI aB cB 6 fB), (zaI aT cT 64 fT), (zaI aG cG 9 fG), (zaL aO cO 36 fO), (zaL aN cN 36 fN), (zaI aD cD 36 fD), (zaI aY cY 20 fY)] ++ []) := hD
  have hwc := bl_mem (G := [(zo14irriiiiiirriirrrrlriiii m0 th aS aI im ac sp en wg op aB aT se dn aG aO aN aD bv aY (nI tm.length) kd nu tv), (zaI aS cS 901 fS), (zaI aI cI 901 fI), (zaI aB cB 6 fB), (zaI aT cT 64 fT), (zaI aG cG 9 fG), (zaL aO cO 36 fO), (zaL aN cN 36 fN), (zaI aD cD 36 fD), (zaI aY cY 20 fY)]) (F := [(zo14irriiiiiirriirrrrlriiii m0 th aS aI im ac sp en wg op aB aT se dn aG aO aN aD bv aY (nI tm.length) kd nu tv), (zaI aS cS 901 fS)]) (T := []) [0, 1] rfl
  have hPc := bl_sub (F := [(zo14irriiiiiirriirrrrlriiii m0 th aS aI im ac sp en wg op aB aT se dn aG aO aN aD bv aY (nI tm.length) kd nu tv), (zaI aS cS 901 fS)]) hP [0, 1] rfl
  refine ⟨_, _, _, c_mCount l dC dI m0 aS aI aB aT aG aO aN aD aY th im ac sp en wg op se dn (nI tm.length) kd nu tv bv cS fS n hl wk kb tp tm x zn z1 zw zk zt, ⟨rfl, hPc, (K_mem hK hTM).sub [0] rfl⟩, fun o t hQ => ?_, fun q hq => hq.elim⟩
  obtain ⟨r, rfl, hpost, hh⟩ := hQ
  exact ⟨⟨r, (im, (n, wk, kb, mi, sn, yk, yv, yc, hl, tp, tc, hC, ee), kvm, tm), rfl, ⟨hpost, rfl⟩, _, by rw [hh]; exact hMM0, ⟨hD.1, fun k q hq => Or.inl ⟨k, q.2, hq⟩⟩, rfl⟩, by rw [hh]; exact Nat.le_refl _, fun q _ _ => by rw [hh]⟩

set_option maxHeartbeats 4000000 in
set_option maxRecDepth 100000 in
theorem v_feed (l : Launch) (dC : Nat → ClassId) (dI : Nat → Nat → Nat) (sK sV : Nat → Nat) (im : Int32) (vm kvm : VS) (tm : List Nat) (T : List (ClassId × FieldType)) (m0 : Nat) (M : va_W) (x : Int32) (sz : Nat) : Met l yX12_feed wsX12_feed ({ frames := 1, cells := 0, slots := 0, locals := 22 } : Room) (va_Pc [.ref m0, .int x] (fun U => U.heap.size = sz ∧ MI dC dI im vm kvm tm T m0 M U.heap ∧ va_K (dC, dI) vwCl T U ∧ Gs sK sV (va_A M sz) U)) (va_Qi (fun (r : Int32) (u : Int32 × VS × VS × List Nat) => r = fdR vm.2.2.2.2.2.2.2.2.2.1 x ∧ u = (im, fdF vm x, kvm, tm)) (fun (u : Int32 × VS × VS × List Nat) (t : State) => ∃ M1 : va_W, MI dC dI u.1 u.2.1 u.2.2.1 u.2.2.2 T m0 M1 t.heap ∧ va_D (va_A M sz) M1 ∧ M1.map (fun c => c.1) = M.map (fun c => c.1)) (va_A M sz)) 0 0 (va_A M sz) := by
  obtain ⟨n, wk, kb, mi, sn, yk, yv, yc, hl, tp, tc, hC, ee⟩ := vm
  refine met_wrap (fun args s hPc => ?_)
  obtain ⟨rfl, rfl, hMM, hK, hE⟩ := hPc
  have hMM0 := hMM
  refine hMM _ (fun aS aI aB aT aG aO aN aD aY th ac sp en wg op se dn rn kd nu tv bv cS cI cB cT cG cO cN cD cY fS fI fB fT fG fO fN fD fY hM hP hD hTM hMS hMI hrn => ?_)
  have hMV : MV fS n mi sn yk yv yc ee := hMS.2.2
  have hMH : MH fS hl tp tc hC := hMS.2.1
  have hMS : MOK fS n wk kb hl tp := hMS.1
  obtain ⟨hn, zn, h5, z1, hw6, zw, hk12, zk, zb, ht, zt, hHd⟩ := id hMS
  obtain ⟨hrq, rfl, hYm⟩ := hrn
  subst hM
  have hP : va_P (dC, dI) vwCl ([(zo14irriiiiiirriirrrrlriiii m0 th aS aI im ac sp en wg op aB aT se dn aG aO aN aD bv aY (nI tm.length) kd nu tv), (zaI aS cS 901 fS), (zaI aI cI 901 fI), (zaI aB cB 6 fB), (zaI aT cT 64 fT), (zaI aG cG 9 fG), (zaL aO cO 36 fO), (zaL aN cN 36 fN), (zaI aD cD 36 fD), (zaI aY cY 20 fY)] ++ []) s.heap := hP
  have hD : va_D (fun _ => True) ([(zo14irriiiiiirriirrrrlriiii m0 th aS aI im ac sp en wg op aB aT se dn aG aO aN aD bv aY (nI tm.length) kd nu tv), (zaI aS cS 901 fS), (zaI aI cI 901 fI), (zaI aB cB 6 fB), (zaI aT cT 64 fT), (zaI aG cG 9 fG), (zaL aO cO 36 fO), (zaL aN cN 36 fN), (zaI aD cD 36 fD), (zaI aY cY 20 fY)] ++ []) := hD
  have hwc := bl_mem (G := [(zo14irriiiiiirriirrrrlriiii m0 th aS aI im ac sp en wg op aB aT se dn aG aO aN aD bv aY (nI tm.length) kd nu tv), (zaI aS cS 901 fS), (zaI aI cI 901 fI), (zaI aB cB 6 fB), (zaI aT cT 64 fT), (zaI aG cG 9 fG), (zaL aO cO 36 fO), (zaL aN cN 36 fN), (zaI aD cD 36 fD), (zaI aY cY 20 fY)]) (F := [(zo14irriiiiiirriirrrrlriiii m0 th aS aI im ac sp en wg op aB aT se dn aG aO aN aD bv aY (nI tm.length) kd nu tv), (zaI aS cS 901 fS)]) (T := []) [0, 1] rfl
  have hPc := bl_sub (F := [(zo14irriiiiiirriirrrrlriiii m0 th aS aI im ac sp en wg op aB aT se dn aG aO aN aD bv aY (nI tm.length) kd nu tv), (zaI aS cS 901 fS)]) hP [0, 1] rfl
  refine ⟨_, _, _, c_mFeed l dC dI m0 aS aI aB aT aG aO aN aD aY th im ac sp en wg op se dn (nI tm.length) kd nu tv bv cS fS tp x s.heap.size zt ht, ⟨rfl, rfl, hPc, (K_mem hK hTM).sub [0] rfl, bl_Dsub hD [0, 1] (by decide) rfl⟩, fun o t hQ => ?_, fun q hq => bl_A hwc q hq⟩
  obtain ⟨⟨r, u9, rfl, hpost, hB⟩, hz, hkp⟩ := hQ
  obtain ⟨fS9, rfl⟩ : ∃ z9, z9 = u9 := ⟨_, rfl⟩
  try dsimp only at hpost hB
  obtain ⟨hP1, hK1, hD1⟩ := hB
  obtain ⟨hr9, hpost⟩ := hpost
  rcases hpost with ⟨hlt, e9⟩ | ⟨hge, h100, hx0, hx1, e9⟩
  · skip
    obtain rfl := e9.symm
    have hJ := bl_gen (F' := [(zo14irriiiiiirriirrrrlriiii m0 th aS aI im ac sp en wg op aB aT se dn aG aO aN aD bv aY (nI tm.length) kd nu tv), (zaI aS cS 901 fS), (zaI aI cI 901 fI), (zaI aB cB 6 fB), (zaI aT cT 64 fT), (zaI aG cG 9 fG), (zaL aO cO 36 fO), (zaL aN cN 36 fN), (zaI aD cD 36 fD), (zaI aY cY 20 fY)]) hP hD [0, 1] rfl hkp hP1 hD1 [some 0, some 1, none, none, none, none, none, none, none, none] [0, 1] rfl (Or.inl rfl) rfl
    exact ⟨⟨r, (im, (n, wk, kb, mi, sn, yk, yv, yc, hl, tp, tc, hC, ee), kvm, tm), rfl, ⟨hr9, u_eq (fdF_no (hp_lt hr9 hlt))⟩, _, (fun M9 k9 => k9 aS aI aB aT aG aO aN aD aY th ac sp en wg op se dn ((nI tm.length)) kd nu tv bv cS cI cB cT cG cO cN cD cY (fS) fI fB fT fG fO fN fD fY rfl hJ.1 ⟨hJ.2.1, fun _ _ _ => trivial⟩ hTM ⟨(show MOK fS n wk kb hl tp from hMS), (show MH fS hl tp tc hC from hMH), (show MV fS n mi sn yk yv yc ee from hMV)⟩ ((show im = 0 ∨ (MOK fI (kvm.1) (kvm.2.1) (kvm.2.2.1) (kvm.2.2.2.2.2.2.2.2.1) (kvm.2.2.2.2.2.2.2.2.2.1) ∧ MH fI (kvm.2.2.2.2.2.2.2.2.1) (kvm.2.2.2.2.2.2.2.2.2.1) (kvm.2.2.2.2.2.2.2.2.2.2.1) (kvm.2.2.2.2.2.2.2.2.2.2.2.1) ∧ MV fI (kvm.1) (kvm.2.2.2.1) (kvm.2.2.2.2.1) (kvm.2.2.2.2.2.1) (kvm.2.2.2.2.2.2.1) (kvm.2.2.2.2.2.2.2.1) (kvm.2.2.2.2.2.2.2.2.2.2.2.2)) from hMI)) (⟨hrq, rfl, hYm⟩)), hJ.2, rfl⟩, hz, fun q h1 h2 => hkp q h1 (fun h => h2 (bl_A hwc _ h))⟩
  · skip
    subst e9
    have hJ := bl_gen (F' := [(zo14irriiiiiirriirrrrlriiii m0 th aS aI im ac sp en wg op aB aT se dn aG aO aN aD bv aY (nI tm.length) kd nu tv), (zaI aS cS 901 (upd (upd fS (91 + tp) x) 4 (nI (tp + 1)))), (zaI aI cI 901 fI), (zaI aB cB 6 fB), (zaI aT cT 64 fT), (zaI aG cG 9 fG), (zaL aO cO 36 fO), (zaL aN cN 36 fN), (zaI aD cD 36 fD), (zaI aY cY 20 fY)]) hP hD [0, 1] rfl hkp hP1 hD1 [some 0, some 1, none, none, none, none, none, none, none, none] [0, 1] rfl (Or.inl rfl) rfl
    exact ⟨⟨r, (im, (n, wk, kb, mi, sn, yk, yv, yc, hl, tp + 1, (fun k => if k = tp then x.toNatClampNeg else tc k), hC, ee), kvm, tm), rfl, ⟨hr9, u_eq (fdF_yes (hp_ge hr9 hge))⟩, _, (fun M9 k9 => k9 aS aI aB aT aG aO aN aD aY th ac sp en wg op se dn ((nI tm.length)) kd nu tv bv cS cI cB cT cG cO cN cD cY (upd (upd fS (91 + tp) x) 4 (nI (tp + 1))) fI fB fT fG fO fN fD fY rfl hJ.1 ⟨hJ.2.1, fun _ _ _ => trivial⟩ hTM ⟨(show MOK (upd (upd fS (91 + tp) x) 4 (nI (tp + 1))) n wk kb hl (tp + 1) from MOK_feed hMS (by omega) pk_us (fun i h1 h2 => by rw [pk_un h1, pk_un (by omega)])), (show MH (upd (upd fS (91 + tp) x) 4 (nI (tp + 1))) hl (tp + 1) (fun k => if k = tp then x.toNatClampNeg else tc k) hC from MH_feed hMH h5 h100 hx0 hx1), (show MV (upd (upd fS (91 + tp) x) 4 (nI (tp + 1))) n mi sn yk yv yc ee from MV_of hMV (fun i hi => by rw [pk_un (by omega), pk_un (by omega)]))⟩ ((show im = 0 ∨ (MOK fI (kvm.1) (kvm.2.1) (kvm.2.2.1) (kvm.2.2.2.2.2.2.2.2.1) (kvm.2.2.2.2.2.2.2.2.2.1) ∧ MH fI (kvm.2.2.2.2.2.2.2.2.1) (kvm.2.2.2.2.2.2.2.2.2.1) (kvm.2.2.2.2.2.2.2.2.2.2.1) (kvm.2.2.2.2.2.2.2.2.2.2.2.1) ∧ MV fI (kvm.1) (kvm.2.2.2.1) (kvm.2.2.2.2.1) (kvm.2.2.2.2.2.1) (kvm.2.2.2.2.2.2.1) (kvm.2.2.2.2.2.2.2.1) (kvm.2.2.2.2.2.2.2.2.2.2.2.2)) from hMI)) (⟨hrq, rfl, hYm⟩)), hJ.2, rfl⟩, hz, fun q h1 h2 => hkp q h1 (fun h => h2 (bl_A hwc _ h))⟩

set_option maxHeartbeats 4000000 in
set_option maxRecDepth 100000 in
theorem v_walk (l : Launch) (dC : Nat → ClassId) (dI : Nat → Nat → Nat) (sK sV : Nat → Nat) (im : Int32) (vm kvm : VS) (tm : List Nat) (T : List (ClassId × FieldType)) (m0 : Nat) (M : va_W) (x : Int32) (sz : Nat) : Met l yX12_walk wsX12_walk ({ frames := 1, cells := 0, slots := 0, locals := 22 } : Room) (va_Pc [.ref m0, .int x] (fun U => U.heap.size = sz ∧ MI dC dI im vm kvm tm T m0 M U.heap ∧ va_K (dC, dI) vwCl T U ∧ Gs sK sV (va_A M sz) U)) (va_Qi (fun (r : Int32) (u : Int32 × VS × VS × List Nat) => r = wkR vm.2.1 x ∧ u = (im, (vm.1, wkN vm.2.1 x, vm.2.2.1, vm.2.2.2.1, vm.2.2.2.2.1, vm.2.2.2.2.2.1, vm.2.2.2.2.2.2.1, vm.2.2.2.2.2.2.2.1, vm.2.2.2.2.2.2.2.2.1, vm.2.2.2.2.2.2.2.2.2.1, vm.2.2.2.2.2.2.2.2.2.2.1, vm.2.2.2.2.2.2.2.2.2.2.2.1, vm.2.2.2.2.2.2.2.2.2.2.2.2), kvm, tm)) (fun (u : Int32 × VS × VS × List Nat) (t : State) => ∃ M1 : va_W, MI dC dI u.1 u.2.1 u.2.2.1 u.2.2.2 T m0 M1 t.heap ∧ va_D (va_A M sz) M1 ∧ M1.map (fun c => c.1) = M.map (fun c => c.1)) (va_A M sz)) 0 0 (va_A M sz) := by
  obtain ⟨n, wk, kb, mi, sn, yk, yv, yc, hl, tp, tc, hC, ee⟩ := vm
  refine met_wrap (fun args s hPc => ?_)
  obtain ⟨rfl, rfl, hMM, hK, hE⟩ := hPc
  have hMM0 := hMM
  refine hMM _ (fun aS aI aB aT aG aO aN aD aY th ac sp en wg op se dn rn kd nu tv bv cS cI cB cT cG cO cN cD cY fS fI fB fT fG fO fN fD fY hM hP hD hTM hMS hMI hrn => ?_)
  have hMV : MV fS n mi sn yk yv yc ee := hMS.2.2
  have hMH : MH fS hl tp tc hC := hMS.2.1
  have hMS : MOK fS n wk kb hl tp := hMS.1
  obtain ⟨hn, zn, h5, z1, hw6, zw, hk12, zk, zb, ht, zt, hHd⟩ := id hMS
  obtain ⟨hrq, rfl, hYm⟩ := hrn
  subst hM
  have hP : va_P (dC, dI) vwCl ([(zo14irriiiiiirriirrrrlriiii m0 th aS aI im ac sp en wg op aB aT se dn aG aO aN aD bv aY (nI tm.length) kd nu tv), (zaI aS cS 901 fS), (zaI aI cI 901 fI), (zaI aB cB 6 fB), (zaI aT cT 64 fT), (zaI aG cG 9 fG), (zaL aO cO 36 fO), (zaL aN cN 36 fN), (zaI aD cD 36 fD), (zaI aY cY 20 fY)] ++ []) s.heap := hP
  have hD : va_D (fun _ => True) ([(zo14irriiiiiirriirrrrlriiii m0 th aS aI im ac sp en wg op aB aT se dn aG aO aN aD bv aY (nI tm.length) kd nu tv), (zaI aS cS 901 fS), (zaI aI cI 901 fI), (zaI aB cB 6 fB), (zaI aT cT 64 fT), (zaI aG cG 9 fG), (zaL aO cO 36 fO), (zaL aN cN 36 fN), (zaI aD cD 36 fD), (zaI aY cY 20 fY)] ++ []) := hD
  have hwc := bl_mem (G := [(zo14irriiiiiirriirrrrlriiii m0 th aS aI im ac sp en wg op aB aT se dn aG aO aN aD bv aY (nI tm.length) kd nu tv), (zaI aS cS 901 fS), (zaI aI cI 901 fI), (zaI aB cB 6 fB), (zaI aT cT 64 fT), (zaI aG cG 9 fG), (zaL aO cO 36 fO), (zaL aN cN 36 fN), (zaI aD cD 36 fD), (zaI aY cY 20 fY)]) (F := [(zo14irriiiiiirriirrrrlriiii m0 th aS aI im ac sp en wg op aB aT se dn aG aO aN aD bv aY (nI tm.length) kd nu tv), (zaI aS cS 901 fS)]) (T := []) [0, 1] rfl
  have hPc := bl_sub (F := [(zo14irriiiiiirriirrrrlriiii m0 th aS aI im ac sp en wg op aB aT se dn aG aO aN aD bv aY (nI tm.length) kd nu tv), (zaI aS cS 901 fS)]) hP [0, 1] rfl
  refine ⟨_, _, _, c_mWalk l dC dI m0 aS aI aB aT aG aO aN aD aY th im ac sp en wg op se dn (nI tm.length) kd nu tv bv cS fS wk x s.heap.size zw hw6, ⟨rfl, rfl, hPc, (K_mem hK hTM).sub [0] rfl, bl_Dsub hD [0, 1] (by decide) rfl⟩, fun o t hQ => ?_, fun q hq => bl_A hwc q hq⟩
  obtain ⟨⟨r, u9, rfl, hpost, hB⟩, hz, hkp⟩ := hQ
  obtain ⟨fS9, rfl⟩ : ∃ z9, z9 = u9 := ⟨_, rfl⟩
  try dsimp only at hpost hB
  obtain ⟨hP1, hK1, hD1⟩ := hB
  obtain ⟨q1, q2, q3⟩ := hpost
  have hJ := bl_gen (F' := [(zo14irriiiiiirriirrrrlriiii m0 th aS aI im ac sp en wg op aB aT se dn aG aO aN aD bv aY (nI tm.length) kd nu tv), (zaI aS cS 901 fS9), (zaI aI cI 901 fI), (zaI aB cB 6 fB), (zaI aT cT 64 fT), (zaI aG cG 9 fG), (zaL aO cO 36 fO), (zaL aN cN 36 fN), (zaI aD cD 36 fD), (zaI aY cY 20 fY)]) hP hD [0, 1] rfl hkp hP1 hD1 [some 0, some 1, none, none, none, none, none, none, none, none] [0, 1] rfl (Or.inl rfl) rfl
  exact ⟨⟨r, (im, (n, wkN wk x, kb, mi, sn, yk, yv, yc, hl, tp, tc, hC, ee), kvm, tm), rfl, ⟨q1, rfl⟩, _, (fun M9 k9 => k9 aS aI aB aT aG aO aN aD aY th ac sp en wg op se dn ((nI tm.length)) kd nu tv bv cS cI cB cT cG cO cN cD cY (fS9) fI fB fT fG fO fN fD fY rfl hJ.1 ⟨hJ.2.1, fun _ _ _ => trivial⟩ hTM ⟨(show MOK fS9 n (wkN wk x) kb hl tp from MOK_walk hMS (wkN_le hw6) q2 q3), (show MH fS9 hl tp tc hC from MH_of hMH h5 ht (fun i hi => q3 i (by omega) (by omega))), (show MV fS9 n mi sn yk yv yc ee from MV_of hMV (fun i hi => q3 i (by omega) (by omega)))⟩ ((show im = 0 ∨ (MOK fI (kvm.1) (kvm.2.1) (kvm.2.2.1) (kvm.2.2.2.2.2.2.2.2.1) (kvm.2.2.2.2.2.2.2.2.2.1) ∧ MH fI (kvm.2.2.2.2.2.2.2.2.1) (kvm.2.2.2.2.2.2.2.2.2.1) (kvm.2.2.2.2.2.2.2.2.2.2.1) (kvm.2.2.2.2.2.2.2.2.2.2.2.1) ∧ MV fI (kvm.1) (kvm.2.2.2.1) (kvm.2.2.2.2.1) (kvm.2.2.2.2.2.1) (kvm.2.2.2.2.2.2.1) (kvm.2.2.2.2.2.2.2.1) (kvm.2.2.2.2.2.2.2.2.2.2.2.2)) from hMI)) (⟨hrq, rfl, hYm⟩)), hJ.2, rfl⟩, hz, fun q h1 h2 => hkp q h1 (fun h => h2 (bl_A hwc _ h))⟩

set_option maxHeartbeats 4000000 in
set_option maxRecDepth 100000 in
theorem v_book (l : Launch) (dC : Nat → ClassId) (dI : Nat → Nat → Nat) (sK sV : Nat → Nat) (im : Int32) (vm kvm : VS) (tm : List Nat) (T : List (ClassId × FieldType)) (m0 : Nat) (M : va_W) (x : Int32) (sz : Nat) : Met l yX12_book wsX12_book ({ frames := 2, cells := 0, slots := 0, locals := 43 } : Room) (va_Pc [.ref m0, .int x] (fun U => U.heap.size = sz ∧ MI dC dI im vm kvm tm T m0 M U.heap ∧ va_K (dC, dI) vwCl T U ∧ Gs sK sV (va_A M sz) U)) (va_Qi (fun (r : Int32) (u : Int32 × VS × VS × List Nat) => r = bkR vm.1 vm.2.2.1 x ∧ u = (im, (vm.1, vm.2.1, bkN vm.1 vm.2.2.1 x, vm.2.2.2.1, vm.2.2.2.2.1, vm.2.2.2.2.2.1, vm.2.2.2.2.2.2.1, vm.2.2.2.2.2.2.2.1, vm.2.2.2.2.2.2.2.2.1, vm.2.2.2.2.2.2.2.2.2.1, vm.2.2.2.2.2.2.2.2.2.2.1, vm.2.2.2.2.2.2.2.2.2.2.2.1, vm.2.2.2.2.2.2.2.2.2.2.2.2), kvm, tm)) (fun (u : Int32 × VS × VS × List Nat) (t : State) => ∃ M1 : va_W, MI dC dI u.1 u.2.1 u.2.2.1 u.2.2.2 T m0 M1 t.heap ∧ va_D (va_A M sz) M1 ∧ M1.map (fun c => c.1) = M.map (fun c => c.1)) (va_A M sz)) 0 0 (va_A M sz) := by
  obtain ⟨n, wk, kb, mi, sn, yk, yv, yc, hl, tp, tc, hC, ee⟩ := vm
  refine met_wrap (fun args s hPc => ?_)
  obtain ⟨rfl, rfl, hMM, hK, hE⟩ := hPc
  have hMM0 := hMM
  refine hMM _ (fun aS aI aB aT aG aO aN aD aY th ac sp en wg op se dn rn kd nu tv bv cS cI cB cT cG cO cN cD cY fS fI fB fT fG fO fN fD fY hM hP hD hTM hMS hMI hrn => ?_)
  have hMV : MV fS n mi sn yk yv yc ee := hMS.2.2
  have hMH : MH fS hl tp tc hC := hMS.2.1
  have hMS : MOK fS n wk kb hl tp := hMS.1
  obtain ⟨hn, zn, h5, z1, hw6, zw, hk12, zk, zb, ht, zt, hHd⟩ := id hMS
  obtain ⟨hrq, rfl, hYm⟩ := hrn
  subst hM
  have hP : va_P (dC, dI) vwCl ([(zo14irriiiiiirriirrrrlriiii m0 th aS aI im ac sp en wg op aB aT se dn aG aO aN aD bv aY (nI tm.length) kd nu tv), (zaI aS cS 901 fS), (zaI aI cI 901 fI), (zaI aB cB 6 fB), (zaI aT cT 64 fT), (zaI aG cG 9 fG), (zaL aO cO 36 fO), (zaL aN cN 36 fN), (zaI aD cD 36 fD), (zaI aY cY 20 fY)] ++ []) s.heap := hP
  have hD : va_D (fun _ => True) ([(zo14irriiiiiirriirrrrlriiii m0 th aS aI im ac sp en wg op aB aT se dn aG aO aN aD bv aY (nI tm.length) kd nu tv), (zaI aS cS 901 fS), (zaI aI cI 901 fI), (zaI aB cB 6 fB), (zaI aT cT 64 fT), (zaI aG cG 9 fG), (zaL aO cO 36 fO), (zaL aN cN 36 fN), (zaI aD cD 36 fD), (zaI aY cY 20 fY)] ++ []) := hD
  have hwc := bl_mem (G := [(zo14irriiiiiirriirrrrlriiii m0 th aS aI im ac sp en wg op aB aT se dn aG aO aN aD bv aY (nI tm.length) kd nu tv), (zaI aS cS 901 fS), (zaI aI cI 901 fI), (zaI aB cB 6 fB), (zaI aT cT 64 fT), (zaI aG cG 9 fG), (zaL aO cO 36 fO), (zaL aN cN 36 fN), (zaI aD cD 36 fD), (zaI aY cY 20 fY)]) (F := [(zo14irriiiiiirriirrrrlriiii m0 th aS aI im ac sp en wg op aB aT se dn aG aO aN aD bv aY (nI tm.length) kd nu tv), (zaI aS cS 901 fS)]) (T := []) [0, 1] rfl
  have hPc := bl_sub (F := [(zo14irriiiiiirriirrrrlriiii m0 th aS aI im ac sp en wg op aB aT se dn aG aO aN aD bv aY (nI tm.length) kd nu tv), (zaI aS cS 901 fS)]) hP [0, 1] rfl
  refine ⟨_, _, _, c_mBook l dC dI m0 aS aI aB aT aG aO aN aD aY th im ac sp en wg op se dn (nI tm.length) kd nu tv bv cS fS n kb x s.heap.size zn hn zk hk12 zb, ⟨rfl, rfl, hPc, (K_mem hK hTM).sub [0] rfl, bl_Dsub hD [0, 1] (by decide) rfl⟩, fun o t hQ => ?_, fun q hq => bl_A hwc q hq⟩
  obtain ⟨⟨r, u9, rfl, hpost, hB⟩, hz, hkp⟩ := hQ
  obtain ⟨fS9, rfl⟩ : ∃ z9, z9 = u9 := ⟨_, rfl⟩
  try dsimp only at hpost hB
  obtain ⟨hP1, hK1, hD1⟩ := hB
  obtain ⟨q1, q2, zb9, q3⟩ := hpost
  have hJ := bl_gen (F' := [(zo14irriiiiiirriirrrrlriiii m0 th aS aI im ac sp en wg op aB aT se dn aG aO aN aD bv aY (nI tm.length) kd nu tv), (zaI aS cS 901 fS9), (zaI aI cI 901 fI), (zaI aB cB 6 fB), (zaI aT cT 64 fT), (zaI aG cG 9 fG), (zaL aO cO 36 fO), (zaL aN cN 36 fN), (zaI aD cD 36 fD), (zaI aY cY 20 fY)]) hP hD [0, 1] rfl hkp hP1 hD1 [some 0, some 1, none, none, none, none, none, none, none, none] [0, 1] rfl (Or.inl rfl) rfl
  exact ⟨⟨r, (im, (n, wk, bkN n kb x, mi, sn, yk, yv, yc, hl, tp, tc, hC, ee), kvm, tm), rfl, ⟨q1, rfl⟩, _, (fun M9 k9 => k9 aS aI aB aT aG aO aN aD aY th ac sp en wg op se dn ((nI tm.length)) kd nu tv bv cS cI cB cT cG cO cN cD cY (fS9) fI fB fT fG fO fN fD fY rfl hJ.1 ⟨hJ.2.1, fun _ _ _ => trivial⟩ hTM ⟨(show MOK fS9 n wk (bkN n kb x) hl tp from MOK_book hMS (bkN_le hk12) q2 zb9 q3), (show MH fS9 hl tp tc hC from MH_of hMH h5 ht (fun i hi => q3 i (by omega) (by omega))), (show MV fS9 n mi sn yk yv yc ee from MV_of hMV (fun i hi => q3 i (by omega) (by omega)))⟩ ((show im = 0 ∨ (MOK fI (kvm.1) (kvm.2.1) (kvm.2.2.1) (kvm.2.2.2.2.2.2.2.2.1) (kvm.2.2.2.2.2.2.2.2.2.1) ∧ MH fI (kvm.2.2.2.2.2.2.2.2.1) (kvm.2.2.2.2.2.2.2.2.2.1) (kvm.2.2.2.2.2.2.2.2.2.2.1) (kvm.2.2.2.2.2.2.2.2.2.2.2.1) ∧ MV fI (kvm.1) (kvm.2.2.2.1) (kvm.2.2.2.2.1) (kvm.2.2.2.2.2.1) (kvm.2.2.2.2.2.2.1) (kvm.2.2.2.2.2.2.2.1) (kvm.2.2.2.2.2.2.2.2.2.2.2.2)) from hMI)) (⟨hrq, rfl, hYm⟩)), hJ.2, rfl⟩, hz, fun q h1 h2 => hkp q h1 (fun h => h2 (bl_A hwc _ h))⟩

set_option maxHeartbeats 4000000 in
set_option maxRecDepth 100000 in
theorem v_set (l : Launch) (dC : Nat → ClassId) (dI : Nat → Nat → Nat) (sK sV : Nat → Nat) (im : Int32) (vm kvm : VS) (tm : List Nat) (T : List (ClassId × FieldType)) (m0 : Nat) (M : va_W) (x : Int32) (y : Int32) (sz : Nat) : Met l yX12_set wsX12_set ({ frames := 1, cells := 0, slots := 0, locals := 22 } : Room) (va_Pc [.ref m0, .int x, .int y] (fun U => U.heap.size = sz ∧ MI dC dI im vm kvm tm T m0 M U.heap ∧ va_K (dC, dI) vwCl T U ∧ Gs sK sV (va_A M sz) U)) (va_Qi (fun (r : Int32) (u : Int32 × VS × VS × List Nat) => r = stR vm.2.2.2.1 vm.2.2.2.2.1 x y ∧ u = (im, (vm.1, vm.2.1, vm.2.2.1, stM vm.2.2.2.1 x y, stN vm.2.2.2.2.1 x y, vm.2.2.2.2.2.1, vm.2.2.2.2.2.2.1, vm.2.2.2.2.2.2.2.1, vm.2.2.2.2.2.2.2.2.1, vm.2.2.2.2.2.2.2.2.2.1, vm.2.2.2.2.2.2.2.2.2.2.1, vm.2.2.2.2.2.2.2.2.2.2.2.1, vm.2.2.2.2.2.2.2.2.2.2.2.2), kvm, tm)) (fun (u : Int32 × VS × VS × List Nat) (t : State) => ∃ M1 : va_W, MI dC dI u.1 u.2.1 u.2.2.1 u.2.2.2 T m0 M1 t.heap ∧ va_D (va_A M sz) M1 ∧ M1.map (fun c => c.1) = M.map (fun c => c.1)) (va_A M sz)) 0 0 (va_A M sz) := by
  obtain ⟨n, wk, kb, mi, sn, yk, yv, yc, hl, tp, tc, hC, ee⟩ := vm
  refine met_wrap (fun args s hPc => ?_)
  obtain ⟨rfl, rfl, hMM, hK, hE⟩ := hPc
  have hMM0 := hMM
  refine hMM _ (fun aS aI aB aT aG aO aN aD aY th ac sp en wg op se dn rn kd nu tv bv cS cI cB cT cG cO cN cD cY fS fI fB fT fG fO fN fD fY hM hP hD hTM hMS hMI hrn => ?_)
  have hMV : MV fS n mi sn yk yv yc ee := hMS.2.2
  have hMH : MH fS hl tp tc hC := hMS.2.1
  have hMS : MOK fS n wk kb hl tp := hMS.1
  obtain ⟨hn, zn, h5, z1, hw6, zw, hk12, zk, zb, ht, zt, hHd⟩ := id hMS
  obtain ⟨hrq, rfl, hYm⟩ := hrn
  subst hM
  have hP : va_P (dC, dI) vwCl ([(zo14irriiiiiirriirrrrlriiii m0 th aS aI im ac sp en wg op aB aT se dn aG aO aN aD bv aY (nI tm.length) kd nu tv), (zaI aS cS 901 fS), (zaI aI cI 901 fI), (zaI aB cB 6 fB), (zaI aT cT 64 fT), (zaI aG cG 9 fG), (zaL aO cO 36 fO), (zaL aN cN 36 fN), (zaI aD cD 36 fD), (zaI aY cY 20 fY)] ++ []) s.heap := hP
  have hD : va_D (fun _ => True) ([(zo14irriiiiiirriirrrrlriiii m0 th aS aI im ac sp en wg op aB aT se dn aG aO aN aD bv aY (nI tm.length) kd nu tv), (zaI aS cS 901 fS), (zaI aI cI 901 fI), (zaI aB cB 6 fB), (zaI aT cT 64 fT), (zaI aG cG 9 fG), (zaL aO cO 36 fO), (zaL aN cN 36 fN), (zaI aD cD 36 fD), (zaI aY cY 20 fY)] ++ []) := hD
  have hwc := bl_mem (G := [(zo14irriiiiiirriirrrrlriiii m0 th aS aI im ac sp en wg op aB aT se dn aG aO aN aD bv aY (nI tm.length) kd nu tv), (zaI aS cS 901 fS), (zaI aI cI 901 fI), (zaI aB cB 6 fB), (zaI aT cT 64 fT), (zaI aG cG 9 fG), (zaL aO cO 36 fO), (zaL aN cN 36 fN), (zaI aD cD 36 fD), (zaI aY cY 20 fY)]) (F := [(zo14irriiiiiirriirrrrlriiii m0 th aS aI im ac sp en wg op aB aT se dn aG aO aN aD bv aY (nI tm.length) kd nu tv), (zaI aS cS 901 fS)]) (T := []) [0, 1] rfl
  have hPc := bl_sub (F := [(zo14irriiiiiirriirrrrlriiii m0 th aS aI im ac sp en wg op aB aT se dn aG aO aN aD bv aY (nI tm.length) kd nu tv), (zaI aS cS 901 fS)]) hP [0, 1] rfl
  refine ⟨_, _, _, c_mSet l dC dI m0 aS aI aB aT aG aO aN aD aY th im ac sp en wg op se dn (nI tm.length) kd nu tv bv cS fS x y s.heap.size , ⟨rfl, rfl, hPc, (K_mem hK hTM).sub [0] rfl, bl_Dsub hD [0, 1] (by decide) rfl⟩, fun o t hQ => ?_, fun q hq => bl_A hwc q hq⟩
  obtain ⟨⟨r, u9, rfl, hpost, hB⟩, hz, hkp⟩ := hQ
  obtain ⟨fS9, rfl⟩ : ∃ z9, z9 = u9 := ⟨_, rfl⟩
  try dsimp only at hpost hB
  obtain ⟨hP1, hK1, hD1⟩ := hB
  obtain ⟨⟨q1, q2, q3⟩, q4⟩ := hpost
  have hJ := bl_gen (F' := [(zo14irriiiiiirriirrrrlriiii m0 th aS aI im ac sp en wg op aB aT se dn aG aO aN aD bv aY (nI tm.length) kd nu tv), (zaI aS cS 901 fS9), (zaI aI cI 901 fI), (zaI aB cB 6 fB), (zaI aT cT 64 fT), (zaI aG cG 9 fG), (zaL aO cO 36 fO), (zaL aN cN 36 fN), (zaI aD cD 36 fD), (zaI aY cY 20 fY)]) hP hD [0, 1] rfl hkp hP1 hD1 [some 0, some 1, none, none, none, none, none, none, none, none] [0, 1] rfl (Or.inl rfl) rfl
  exact ⟨⟨r, (im, (n, wk, kb, stM mi x y, stN sn x y, yk, yv, yc, hl, tp, tc, hC, ee), kvm, tm), rfl, ⟨by rw [← hMV.1, ← hMV.2.1]; exact q1, rfl⟩, _, (fun M9 k9 => k9 aS aI aB aT aG aO aN aD aY th ac sp en wg op se dn ((nI tm.length)) kd nu tv bv cS cI cB cT cG cO cN cD cY (fS9) fI fB fT fG fO fN fD fY rfl hJ.1 ⟨hJ.2.1, fun _ _ _ => trivial⟩ hTM ⟨(show MOK fS9 n wk kb hl tp from MOK_rest hMS (fun i hi => q4 i (by omega) (by omega))), (show MH fS9 hl tp tc hC from MH_of hMH h5 ht (fun i hi => q4 i (by omega) (by omega))), (show MV fS9 n (stM mi x y) (stN sn x y) yk yv yc ee from ⟨by rw [q2, hMV.1], by rw [q3, hMV.2.1], fun k hk => (q4 _ (by omega) (by omega)).trans (hMV.2.2.1 k hk), fun k hk => (q4 _ (by omega) (by omega)).trans (hMV.2.2.2.1 k hk), fun k hk => (q4 _ (by omega) (by omega)).trans (hMV.2.2.2.2.1 k hk), fun k hk => (q4 _ (by omega) (by omega)).trans (hMV.2.2.2.2.2.1 k hk), st_mb hMV.2.2.2.2.2.2⟩)⟩ ((show im = 0 ∨ (MOK fI (kvm.1) (kvm.2.1) (kvm.2.2.1) (kvm.2.2.2.2.2.2.2.2.1) (kvm.2.2.2.2.2.2.2.2.2.1) ∧ MH fI (kvm.2.2.2.2.2.2.2.2.1) (kvm.2.2.2.2.2.2.2.2.2.1) (kvm.2.2.2.2.2.2.2.2.2.2.1) (kvm.2.2.2.2.2.2.2.2.2.2.2.1) ∧ MV fI (kvm.1) (kvm.2.2.2.1) (kvm.2.2.2.2.1) (kvm.2.2.2.2.2.1) (kvm.2.2.2.2.2.2.1) (kvm.2.2.2.2.2.2.2.1) (kvm.2.2.2.2.2.2.2.2.2.2.2.2)) from hMI)) (⟨hrq, rfl, hYm⟩)), hJ.2, rfl⟩, hz, fun q h1 h2 => hkp q h1 (fun h => h2 (bl_A hwc _ h))⟩

set_option maxHeartbeats 4000000 in
set_option maxRecDepth 100000 in
theorem v_edges (l : Launch) (dC : Nat → ClassId) (dI : Nat → Nat → Nat) (sK sV : Nat → Nat) (im : Int32) (vm kvm : VS) (tm : List Nat) (T : List (ClassId × FieldType)) (m0 : Nat) (M : va_W) (x : Int64) (sz : Nat) : Met l yX12_edges wsX12_edges ({ frames := 1, cells := 0, slots := 0, locals := 22 } : Room) (va_Pc [.ref m0, .long x] (fun U => U.heap.size = sz ∧ MI dC dI im vm kvm tm T m0 M U.heap ∧ va_K (dC, dI) vwCl T U ∧ Gs sK sV (va_A M sz) U)) (va_Qi (fun (r : Int32) (u : Int32 × VS × VS × List Nat) => r = edR vm.2.2.2.2.2.2.2.2.2.2.2.2 x ∧ u = (im, (vm.1, vm.2.1, vm.2.2.1, vm.2.2.2.1, vm.2.2.2.2.1, vm.2.2.2.2.2.1, vm.2.2.2.2.2.2.1, vm.2.2.2.2.2.2.2.1, vm.2.2.2.2.2.2.2.2.1, vm.2.2.2.2.2.2.2.2.2.1, vm.2.2.2.2.2.2.2.2.2.2.1, vm.2.2.2.2.2.2.2.2.2.2.2.1, edN vm.2.2.2.2.2.2.2.2.2.2.2.2 x), kvm, tm)) (fun (u : Int32 × VS × VS × List Nat) (t : State) => ∃ M1 : va_W, MI dC dI u.1 u.2.1 u.2.2.1 u.2.2.2 T m0 M1 t.heap ∧ va_D (va_A M sz) M1 ∧ M1.map (fun c => c.1) = M.map (fun c => c.1)) (va_A M sz)) 0 0 (va_A M sz) := by
  obtain ⟨n, wk, kb, mi, sn, yk, yv, yc, hl, tp, tc, hC, ee⟩ := vm
  refine met_wrap (fun args s hPc => ?_)
  obtain ⟨rfl, rfl, hMM, hK, hE⟩ := hPc
  have hMM0 := hMM
  refine hMM _ (fun aS aI aB aT aG aO aN aD aY th ac sp en wg op se dn rn kd nu tv bv cS cI cB cT cG cO cN cD cY fS fI fB fT fG fO fN fD fY hM hP hD hTM hMS hMI hrn => ?_)
  have hMV : MV fS n mi sn yk yv yc ee := hMS.2.2
  have hMH : MH fS hl tp tc hC := hMS.2.1
  have hMS : MOK fS n wk kb hl tp := hMS.1
  obtain ⟨hn, zn, h5, z1, hw6, zw, hk12, zk, zb, ht, zt, hHd⟩ := id hMS
  obtain ⟨hrq, rfl, hYm⟩ := hrn
  subst hM
  have hP : va_P (dC, dI) vwCl ([(zo14irriiiiiirriirrrrlriiii m0 th aS aI im ac sp en wg op aB aT se dn aG aO aN aD bv aY (nI tm.length) kd nu tv), (zaI aS cS 901 fS), (zaI aI cI 901 fI), (zaI aB cB 6 fB), (zaI aT cT 64 fT), (zaI aG cG 9 fG), (zaL aO cO 36 fO), (zaL aN cN 36 fN), (zaI aD cD 36 fD), (zaI aY cY 20 fY)] ++ []) s.heap := hP
  have hD : va_D (fun _ => True) ([(zo14irriiiiiirriirrrrlriiii m0 th aS aI im ac sp en wg op aB aT se dn aG aO aN aD bv aY (nI tm.length) kd nu tv), (zaI aS cS 901 fS), (zaI aI cI 901 fI), (zaI aB cB 6 fB), (zaI aT cT 64 fT), (zaI aG cG 9 fG), (zaL aO cO 36 fO), (zaL aN cN 36 fN), (zaI aD cD 36 fD), (zaI aY cY 20 fY)] ++ []) := hD
  have hwc := bl_mem (G := [(zo14irriiiiiirriirrrrlriiii m0 th aS aI im ac sp en wg op aB aT se dn aG aO aN aD bv aY (nI tm.length) kd nu tv), (zaI aS cS 901 fS), (zaI aI cI 901 fI), (zaI aB cB 6 fB), (zaI aT cT 64 fT), (zaI aG cG 9 fG), (zaL aO cO 36 fO), (zaL aN cN 36 fN), (zaI aD cD 36 fD), (zaI aY cY 20 fY)]) (F := [(zo14irriiiiiirriirrrrlriiii m0 th aS aI im ac sp en wg op aB aT se dn aG aO aN aD bv aY (nI tm.length) kd nu tv), (zaI aS cS 901 fS)]) (T := []) [0, 1] rfl
  have hPc := bl_sub (F := [(zo14irriiiiiirriirrrrlriiii m0 th aS aI im ac sp en wg op aB aT se dn aG aO aN aD bv aY (nI tm.length) kd nu tv), (zaI aS cS 901 fS)]) hP [0, 1] rfl
  refine ⟨_, _, _, c_mEdges l dC dI m0 aS aI aB aT aG aO aN aD aY th im ac sp en wg op se dn (nI tm.length) kd nu tv bv cS fS ee x s.heap.size hMV.2.2.2.2.2.1, ⟨rfl, rfl, hPc, (K_mem hK hTM).sub [0] rfl, bl_Dsub hD [0, 1] (by decide) rfl⟩, fun o t hQ => ?_, fun q hq => bl_A hwc q hq⟩
  obtain ⟨⟨r, u9, rfl, hpost, hB⟩, hz, hkp⟩ := hQ
  obtain ⟨fS9, rfl⟩ : ∃ z9, z9 = u9 := ⟨_, rfl⟩
  try dsimp only at hpost hB
  obtain ⟨hP1, hK1, hD1⟩ := hB
  obtain ⟨hr9, hpost⟩ := hpost
  rcases hpost with ⟨hk9, e9⟩ | ⟨hk9, e, he, em9, q2, q4⟩
  · skip
    obtain rfl := e9.symm
    have hJ := bl_gen (F' := [(zo14irriiiiiirriirrrrlriiii m0 th aS aI im ac sp en wg op aB aT se dn aG aO aN aD bv aY (nI tm.length) kd nu tv), (zaI aS cS 901 fS), (zaI aI cI 901 fI), (zaI aB cB 6 fB), (zaI aT cT 64 fT), (zaI aG cG 9 fG), (zaL aO cO 36 fO), (zaL aN cN 36 fN), (zaI aD cD 36 fD), (zaI aY cY 20 fY)]) hP hD [0, 1] rfl hkp hP1 hD1 [some 0, some 1, none, none, none, none, none, none, none, none] [0, 1] rfl (Or.inl rfl) rfl
    exact ⟨⟨r, (im, (n, wk, kb, mi, sn, yk, yv, yc, hl, tp, tc, hC, ee), kvm, tm), rfl, ⟨hr9, u_eq (by rw [← edN_no hk9])⟩, _, (fun M9 k9 => k9 aS aI aB aT aG aO aN aD aY th ac sp en wg op se dn ((nI tm.length)) kd nu tv bv cS cI cB cT cG cO cN cD cY (fS) fI fB fT fG fO fN fD fY rfl hJ.1 ⟨hJ.2.1, fun _ _ _ => trivial⟩ hTM ⟨(show MOK fS n wk kb hl tp from hMS), (show MH fS hl tp tc hC from hMH), (show MV fS n mi sn yk yv yc ee from hMV)⟩ ((show im = 0 ∨ (MOK fI (kvm.1) (kvm.2.1) (kvm.2.2.1) (kvm.2.2.2.2.2.2.2.2.1) (kvm.2.2.2.2.2.2.2.2.2.1) ∧ MH fI (kvm.2.2.2.2.2.2.2.2.1) (kvm.2.2.2.2.2.2.2.2.2.1) (kvm.2.2.2.2.2.2.2.2.2.2.1) (kvm.2.2.2.2.2.2.2.2.2.2.2.1) ∧ MV fI (kvm.1) (kvm.2.2.2.1) (kvm.2.2.2.2.1) (kvm.2.2.2.2.2.1) (kvm.2.2.2.2.2.2.1) (kvm.2.2.2.2.2.2.2.1) (kvm.2.2.2.2.2.2.2.2.2.2.2.2)) from hMI)) (⟨hrq, rfl, hYm⟩)), hJ.2, rfl⟩, hz, fun q h1 h2 => hkp q h1 (fun h => h2 (bl_A hwc _ h))⟩
  · skip
    subst em9
    have hJ := bl_gen (F' := [(zo14irriiiiiirriirrrrlriiii m0 th aS aI im ac sp en wg op aB aT se dn aG aO aN aD bv aY (nI tm.length) kd nu tv), (zaI aS cS 901 fS9), (zaI aI cI 901 fI), (zaI aB cB 6 fB), (zaI aT cT 64 fT), (zaI aG cG 9 fG), (zaL aO cO 36 fO), (zaL aN cN 36 fN), (zaI aD cD 36 fD), (zaI aY cY 20 fY)]) hP hD [0, 1] rfl hkp hP1 hD1 [some 0, some 1, none, none, none, none, none, none, none, none] [0, 1] rfl (Or.inl rfl) rfl
    exact ⟨⟨r, (im, (n, wk, kb, mi, sn, yk, yv, yc, hl, tp, tc, hC, e), kvm, tm), rfl, ⟨hr9, u_eq (by rw [← edN_yes he hk9])⟩, _, (fun M9 k9 => k9 aS aI aB aT aG aO aN aD aY th ac sp en wg op se dn ((nI tm.length)) kd nu tv bv cS cI cB cT cG cO cN cD cY (fS9) fI fB fT fG fO fN fD fY rfl hJ.1 ⟨hJ.2.1, fun _ _ _ => trivial⟩ hTM ⟨(show MOK fS9 n wk kb hl tp from MOK_rest hMS (fun i hi => q4 i (by omega))), (show MH fS9 hl tp tc hC from MH_of hMH h5 ht (fun i hi => q4 i (by omega))), (show MV fS9 n mi sn yk yv yc e from MV_edg hMV hn q4 q2)⟩ ((show im = 0 ∨ (MOK fI (kvm.1) (kvm.2.1) (kvm.2.2.1) (kvm.2.2.2.2.2.2.2.2.1) (kvm.2.2.2.2.2.2.2.2.2.1) ∧ MH fI (kvm.2.2.2.2.2.2.2.2.1) (kvm.2.2.2.2.2.2.2.2.2.1) (kvm.2.2.2.2.2.2.2.2.2.2.1) (kvm.2.2.2.2.2.2.2.2.2.2.2.1) ∧ MV fI (kvm.1) (kvm.2.2.2.1) (kvm.2.2.2.2.1) (kvm.2.2.2.2.2.1) (kvm.2.2.2.2.2.2.1) (kvm.2.2.2.2.2.2.2.1) (kvm.2.2.2.2.2.2.2.2.2.2.2.2)) from hMI)) (⟨hrq, rfl, hYm⟩)), hJ.2, rfl⟩, hz, fun q h1 h2 => hkp q h1 (fun h => h2 (bl_A hwc _ h))⟩

set_option maxHeartbeats 4000000 in
set_option maxRecDepth 100000 in
theorem v_heap (l : Launch) (dC : Nat → ClassId) (dI : Nat → Nat → Nat) (sK sV : Nat → Nat) (im : Int32) (vm kvm : VS) (tm : List Nat) (T : List (ClassId × FieldType)) (m0 : Nat) (M : va_W) (x : Int32) (y : Int32) (z : Int32) (sz : Nat) : Met l yX12_heap wsX12_heap ({ frames := 2, cells := 0, slots := 0, locals := 42 } : Room) (va_Pc [.ref m0, .int x, .int y, .int z] (fun U => U.heap.size = sz ∧ MI dC dI im vm kvm tm T m0 M U.heap ∧ va_K (dC, dI) vwCl T U ∧ Gs sK sV (va_A M sz) U)) (va_Qi (fun (r : Int32) (u : Int32 × VS × VS × List Nat) => r = hpR vm.1 vm.2.2.2.2.2.2.2.1 x y z ∧ u = (im, hpF vm x y z, kvm, tm)) (fun (u : Int32 × VS × VS × List Nat) (t : State) => ∃ M1 : va_W, MI dC dI u.1 u.2.1 u.2.2.1 u.2.2.2 T m0 M1 t.heap ∧ va_D (va_A M sz) M1 ∧ M1.map (fun c => c.1) = M.map (fun c => c.1)) (va_A M sz)) 0 0 (va_A M sz) := by
  obtain ⟨n, wk, kb, mi, sn, yk, yv, yc, hl, tp, tc, hC, ee⟩ := vm
  refine met_wrap (fun args s hPc => ?_)
  obtain ⟨rfl, rfl, hMM, hK, hE⟩ := hPc
  have hMM0 := hMM
  refine hMM _ (fun aS aI aB aT aG aO aN aD aY th ac sp en wg op se dn rn kd nu tv bv cS cI cB cT cG cO cN cD cY fS fI fB fT fG fO fN fD fY hM hP hD hTM hMS hMI hrn => ?_)
  have hMV : MV fS n mi sn yk yv yc ee := hMS.2.2
  have hMH : MH fS hl tp tc hC := hMS.2.1
  have hMS : MOK fS n wk kb hl tp := hMS.1
  obtain ⟨hn, zn, h5, z1, hw6, zw, hk12, zk, zb, ht, zt, hHd⟩ := id hMS
  obtain ⟨hrq, rfl, hYm⟩ := hrn
  subst hM
  have hP : va_P (dC, dI) vwCl ([(zo14irriiiiiirriirrrrlriiii m0 th aS aI im ac sp en wg op aB aT se dn aG aO aN aD bv aY (nI tm.length) kd nu tv), (zaI aS cS 901 fS), (zaI aI cI 901 fI), (zaI aB cB 6 fB), (zaI aT cT 64 fT), (zaI aG cG 9 fG), (zaL aO cO 36 fO), (zaL aN cN 36 fN), (zaI aD cD 36 fD), (zaI aY cY 20 fY)] ++ []) s.heap := hP
  have hD : va_D (fun _ => True) ([(zo14irriiiiiirriirrrrlriiii m0 th aS aI im ac sp en wg op aB aT se dn aG aO aN aD bv aY (nI tm.length) kd nu tv), (zaI aS cS 901 fS), (zaI aI cI 901 fI), (zaI aB cB 6 fB), (zaI aT cT 64 fT), (zaI aG cG 9 fG), (zaL aO cO 36 fO), (zaL aN cN 36 fN), (zaI aD cD 36 fD), (zaI aY cY 20 fY)] ++ []) := hD
  have hwc := bl_mem (G := [(zo14irriiiiiirriirrrrlriiii m0 th aS aI im ac sp en wg op aB aT se dn aG aO aN aD bv aY (nI tm.length) kd nu tv), (zaI aS cS 901 fS), (zaI aI cI 901 fI), (zaI aB cB 6 fB), (zaI aT cT 64 fT), (zaI aG cG 9 fG), (zaL aO cO 36 fO), (zaL aN cN 36 fN), (zaI aD cD 36 fD), (zaI aY cY 20 fY)]) (F := [(zo14irriiiiiirriirrrrlriiii m0 th aS aI im ac sp en wg op aB aT se dn aG aO aN aD bv aY (nI tm.length) kd nu tv), (zaI aS cS 901 fS)]) (T := []) [0, 1] rfl
  have hPc := bl_sub (F := [(zo14irriiiiiirriirrrrlriiii m0 th aS aI im ac sp en wg op aB aT se dn aG aO aN aD bv aY (nI tm.length) kd nu tv), (zaI aS cS 901 fS)]) hP [0, 1] rfl
  refine ⟨_, _, _, c_mHeap l dC dI m0 aS aI aB aT aG aO aN aD aY th im ac sp en wg op se dn (nI tm.length) kd nu tv bv cS fS n yc x y z s.heap.size zn hn hMV.2.2.2.2.1, ⟨rfl, rfl, hPc, (K_mem hK hTM).sub [0] rfl, bl_Dsub hD [0, 1] (by decide) rfl⟩, fun o t hQ => ?_, fun q hq => bl_A hwc q hq⟩
  obtain ⟨⟨r, u9, rfl, hpost, hB⟩, hz, hkp⟩ := hQ
  obtain ⟨fS9, rfl⟩ : ∃ z9, z9 = u9 := ⟨_, rfl⟩
  try dsimp only at hpost hB
  obtain ⟨hP1, hK1, hD1⟩ := hB
  obtain ⟨hr9, hpost⟩ := hpost
  rcases hpost with ⟨hlt, e9⟩ | ⟨hge, h8, e9⟩
  · skip
    obtain rfl := e9.symm
    have hJ := bl_gen (F' := [(zo14irriiiiiirriirrrrlriiii m0 th aS aI im ac sp en wg op aB aT se dn aG aO aN aD bv aY (nI tm.length) kd nu tv), (zaI aS cS 901 fS), (zaI aI cI 901 fI), (zaI aB cB 6 fB), (zaI aT cT 64 fT), (zaI aG cG 9 fG), (zaL aO cO 36 fO), (zaL aN cN 36 fN), (zaI aD cD 36 fD), (zaI aY cY 20 fY)]) hP hD [0, 1] rfl hkp hP1 hD1 [some 0, some 1, none, none, none, none, none, none, none, none] [0, 1] rfl (Or.inl rfl) rfl
    exact ⟨⟨r, (im, (n, wk, kb, mi, sn, yk, yv, yc, hl, tp, tc, hC, ee), kvm, tm), rfl, ⟨hr9, u_eq (hpF_no (hp_lt hr9 hlt))⟩, _, (fun M9 k9 => k9 aS aI aB aT aG aO aN aD aY th ac sp en wg op se dn ((nI tm.length)) kd nu tv bv cS cI cB cT cG cO cN cD cY (fS) fI fB fT fG fO fN fD fY rfl hJ.1 ⟨hJ.2.1, fun _ _ _ => trivial⟩ hTM ⟨(show MOK fS n wk kb hl tp from hMS), (show MH fS hl tp tc hC from hMH), (show MV fS n mi sn yk yv yc ee from hMV)⟩ ((show im = 0 ∨ (MOK fI (kvm.1) (kvm.2.1) (kvm.2.2.1) (kvm.2.2.2.2.2.2.2.2.1) (kvm.2.2.2.2.2.2.2.2.2.1) ∧ MH fI (kvm.2.2.2.2.2.2.2.2.1) (kvm.2.2.2.2.2.2.2.2.2.1) (kvm.2.2.2.2.2.2.2.2.2.2.1) (kvm.2.2.2.2.2.2.2.2.2.2.2.1) ∧ MV fI (kvm.1) (kvm.2.2.2.1) (kvm.2.2.2.2.1) (kvm.2.2.2.2.2.1) (kvm.2.2.2.2.2.2.1) (kvm.2.2.2.2.2.2.2.1) (kvm.2.2.2.2.2.2.2.2.2.2.2.2)) from hMI)) (⟨hrq, rfl, hYm⟩)), hJ.2, rfl⟩, hz, fun q h1 h2 => hkp q h1 (fun h => h2 (bl_A hwc _ h))⟩
  · skip
    subst e9
    have hJ := bl_gen (F' := [(zo14irriiiiiirriirrrrlriiii m0 th aS aI im ac sp en wg op aB aT se dn aG aO aN aD bv aY (nI tm.length) kd nu tv), (zaI aS cS 901 (upd (upd (upd (upd fS (10 + n) x) (19 + n) y) (28 + n) z) 0 (nI (n + 1)))), (zaI aI cI 901 fI), (zaI aB cB 6 fB), (zaI aT cT 64 fT), (zaI aG cG 9 fG), (zaL aO cO 36 fO), (zaL aN cN 36 fN), (zaI aD cD 36 fD), (zaI aY cY 20 fY)]) hP hD [0, 1] rfl hkp hP1 hD1 [some 0, some 1, none, none, none, none, none, none, none, none] [0, 1] rfl (Or.inl rfl) rfl
    exact ⟨⟨r, (im, (n + 1, wk, kb, mi, sn, (fun k => if k = n then x else yk k), (fun k => if k = n then y else yv k), (fun k => if k = n then z else yc k), hl, tp, tc, hC, ee), kvm, tm), rfl, ⟨hr9, u_eq (hpF_yes (hp_ge hr9 hge))⟩, _, (fun M9 k9 => k9 aS aI aB aT aG aO aN aD aY th ac sp en wg op se dn ((nI tm.length)) kd nu tv bv cS cI cB cT cG cO cN cD cY (upd (upd (upd (upd fS (10 + n) x) (19 + n) y) (28 + n) z) 0 (nI (n + 1))) fI fB fT fG fO fN fD fY rfl hJ.1 ⟨hJ.2.1, fun _ _ _ => trivial⟩ hTM ⟨(show MOK (upd (upd (upd (upd fS (10 + n) x) (19 + n) y) (28 + n) z) 0 (nI (n + 1))) (n + 1) wk kb hl tp from MOK_heap hMS (by omega) pk_us (fun i h1 h2 => by rw [pk_un h1, pk_un (by omega), pk_un (by omega), pk_un (by omega)])), (show MH (upd (upd (upd (upd fS (10 + n) x) (19 + n) y) (28 + n) z) 0 (nI (n + 1))) hl tp tc hC from MH_of hMH h5 ht (fun i hi => by rw [pk_un (by omega), pk_un (by omega), pk_un (by omega), pk_un (by omega)])), (show MV (upd (upd (upd (upd fS (10 + n) x) (19 + n) y) (28 + n) z) 0 (nI (n + 1))) (n + 1) mi sn (fun k => if k = n then x else yk k) (fun k => if k = n then y else yv k) (fun k => if k = n then z else yc k) ee from MV_put hMV h8)⟩ ((show im = 0 ∨ (MOK fI (kvm.1) (kvm.2.1) (kvm.2.2.1) (kvm.2.2.2.2.2.2.2.2.1) (kvm.2.2.2.2.2.2.2.2.2.1) ∧ MH fI (kvm.2.2.2.2.2.2.2.2.1) (kvm.2.2.2.2.2.2.2.2.2.1) (kvm.2.2.2.2.2.2.2.2.2.2.1) (kvm.2.2.2.2.2.2.2.2.2.2.2.1) ∧ MV fI (kvm.1) (kvm.2.2.2.1) (kvm.2.2.2.2.1) (kvm.2.2.2.2.2.1) (kvm.2.2.2.2.2.2.1) (kvm.2.2.2.2.2.2.2.1) (kvm.2.2.2.2.2.2.2.2.2.2.2.2)) from hMI)) (⟨hrq, rfl, hYm⟩)), hJ.2, rfl⟩, hz, fun q h1 h2 => hkp q h1 (fun h => h2 (bl_A hwc _ h))⟩

set_option maxHeartbeats 4000000 in
set_option maxRecDepth 100000 in
theorem v_steps (l : Launch) (dC : Nat → ClassId) (dI : Nat → Nat → Nat) (sK sV : Nat → Nat) (im : Int32) (vm kvm : VS) (tm : List Nat) (T : List (ClassId × FieldType)) (m0 : Nat) (M : va_W) (x : Int32) (y : Int32) (sz : Nat) : Met l yX12_steps wsX12_steps ({ frames := 6, cells := 0, slots := 0, locals := 147 } : Room) (va_Pc [.ref m0, .int x, .int y] (fun U => U.heap.size = sz ∧ MI dC dI im vm kvm tm T m0 M U.heap ∧ va_K (dC, dI) vwCl T U ∧ Gs sK sV (va_A M sz) U)) (va_Qi (fun (r : Int32) (u : Int32 × VS × VS × List Nat) => r = stR_ vm.1 vm.2.2.2.2.2.1 vm.2.2.2.2.2.2.1 vm.2.2.2.2.2.2.2.1 vm.2.2.2.2.2.2.2.2.2.2.2.1 vm.2.2.2.1 vm.2.2.2.2.1 x y ∧ u = (im, vm, kvm, tm)) (fun (u : Int32 × VS × VS × List Nat) (t : State) => ∃ M1 : va_W, MI dC dI u.1 u.2.1 u.2.2.1 u.2.2.2 T m0 M1 t.heap ∧ va_D (va_A M sz) M1 ∧ M1.map (fun c => c.1) = M.map (fun c => c.1)) (va_A M sz)) 0 0 (va_A M sz) := by
  obtain ⟨n, wk, kb, mi, sn, yk, yv, yc, hl, tp, tc, hC, ee⟩ := vm
  refine met_wrap (fun args s hPc => ?_)
  obtain ⟨rfl, rfl, hMM, hK, hE⟩ := hPc
  have hMM0 := hMM
  refine hMM _ (fun aS aI aB aT aG aO aN aD aY th ac sp en wg op se dn rn kd nu tv bv cS cI cB cT cG cO cN cD cY fS fI fB fT fG fO fN fD fY hM hP hD hTM hMS hMI hrn => ?_)
  have hMV : MV fS n mi sn yk yv yc ee := hMS.2.2
  have hMH : MH fS hl tp tc hC := hMS.2.1
  have hMS : MOK fS n wk kb hl tp := hMS.1
  obtain ⟨hn, zn, h5, z1, hw6, zw, hk12, zk, zb, ht, zt, hHd⟩ := id hMS
  obtain ⟨hrq, rfl, hYm⟩ := hrn
  subst hM
  have hP : va_P (dC, dI) vwCl ([(zo14irriiiiiirriirrrrlriiii m0 th aS aI im ac sp en wg op aB aT se dn aG aO aN aD bv aY (nI tm.length) kd nu tv), (zaI aS cS 901 fS), (zaI aI cI 901 fI), (zaI aB cB 6 fB), (zaI aT cT 64 fT), (zaI aG cG 9 fG), (zaL aO cO 36 fO), (zaL aN cN 36 fN), (zaI aD cD 36 fD), (zaI aY cY 20 fY)] ++ []) s.heap := hP
  have hD : va_D (fun _ => True) ([(zo14irriiiiiirriirrrrlriiii m0 th aS aI im ac sp en wg op aB aT se dn aG aO aN aD bv aY (nI tm.length) kd nu tv), (zaI aS cS 901 fS), (zaI aI cI 901 fI), (zaI aB cB 6 fB), (zaI aT cT 64 fT), (zaI aG cG 9 fG), (zaL aO cO 36 fO), (zaL aN cN 36 fN), (zaI aD cD 36 fD), (zaI aY cY 20 fY)] ++ []) := hD
  have hwc := bl_mem (G := [(zo14irriiiiiirriirrrrlriiii m0 th aS aI im ac sp en wg op aB aT se dn aG aO aN aD bv aY (nI tm.length) kd nu tv), (zaI aS cS 901 fS), (zaI aI cI 901 fI), (zaI aB cB 6 fB), (zaI aT cT 64 fT), (zaI aG cG 9 fG), (zaL aO cO 36 fO), (zaL aN cN 36 fN), (zaI aD cD 36 fD), (zaI aY cY 20 fY)]) (F := [(zo14irriiiiiirriirrrrlriiii m0 th aS aI im ac sp en wg op aB aT se dn aG aO aN aD bv aY (nI tm.length) kd nu tv), (zaI aS cS 901 fS), (zaI aB cB 6 fB), (zaI aT cT 64 fT), (zaI aG cG 9 fG)]) (T := []) [0, 1, 3, 4, 5] rfl
  have hPc := bl_sub (F := [(zo14irriiiiiirriirrrrlriiii m0 th aS aI im ac sp en wg op aB aT se dn aG aO aN aD bv aY (nI tm.length) kd nu tv), (zaI aS cS 901 fS), (zaI aB cB 6 fB), (zaI aT cT 64 fT), (zaI aG cG 9 fG)]) hP [0, 1, 3, 4, 5] rfl
  refine ⟨_, _, _, c_mSteps l dC dI m0 aS aI aB aT aG aO aN aD aY th im ac sp en wg op se dn (nI tm.length) kd nu tv bv cS cB cT cG fS fB fT fG n yk yv yc mi sn x y hC s.heap.size zn hn (MH_hol hHd hMH h5) hMV.2.2.1 hMV.2.2.2.1 hMV.2.2.2.2.1 hMV.1 hMV.2.1, ⟨rfl, rfl, hPc, (K_mem hK hTM).sub [0, 2, 3, 4] rfl, bl_Dsub hD [0, 1, 3, 4, 5] (by decide) rfl⟩, fun o t hQ => ?_, fun q hq => bl_A hwc q hq⟩
  obtain ⟨⟨r, u9, rfl, hpost, hB⟩, hz, hkp⟩ := hQ
  obtain ⟨fB9, fT9, se9, dn9, fG9⟩ := u9
  try dsimp only at hpost hB
  obtain ⟨hP1, hK1, hD1⟩ := hB
  have hJ := bl_gen (F' := [(zo14irriiiiiirriirrrrlriiii m0 th aS aI im ac sp en wg op aB aT se9 dn9 aG aO aN aD bv aY (nI tm.length) kd nu tv), (zaI aS cS 901 fS), (zaI aI cI 901 fI), (zaI aB cB 6 fB9), (zaI aT cT 64 fT9), (zaI aG cG 9 fG9), (zaL aO cO 36 fO), (zaL aN cN 36 fN), (zaI aD cD 36 fD), (zaI aY cY 20 fY)]) hP hD [0, 1, 3, 4, 5] rfl hkp hP1 hD1 [some 0, some 1, none, some 2, some 3, some 4, none, none, none, none] [0, 1, 3, 4, 5] rfl (Or.inl rfl) rfl
  exact ⟨⟨r, (im, (n, wk, kb, mi, sn, yk, yv, yc, hl, tp, tc, hC, ee), kvm, tm), rfl, ⟨hpost, rfl⟩, _, (fun M9 k9 => k9 aS aI aB aT aG aO aN aD aY th ac sp en wg op (se9) (dn9) ((nI tm.length)) kd nu tv bv cS cI cB cT cG cO cN cD cY fS fI (fB9) (fT9) (fG9) fO fN fD fY rfl hJ.1 ⟨hJ.2.1, fun _ _ _ => trivial⟩ hTM ⟨(show MOK fS n wk kb hl tp from hMS), (show MH fS hl tp tc hC from hMH), (show MV fS n mi sn yk yv yc ee from hMV)⟩ ((show im = 0 ∨ (MOK fI (kvm.1) (kvm.2.1) (kvm.2.2.1) (kvm.2.2.2.2.2.2.2.2.1) (kvm.2.2.2.2.2.2.2.2.2.1) ∧ MH fI (kvm.2.2.2.2.2.2.2.2.1) (kvm.2.2.2.2.2.2.2.2.2.1) (kvm.2.2.2.2.2.2.2.2.2.2.1) (kvm.2.2.2.2.2.2.2.2.2.2.2.1) ∧ MV fI (kvm.1) (kvm.2.2.2.1) (kvm.2.2.2.2.1) (kvm.2.2.2.2.2.1) (kvm.2.2.2.2.2.2.1) (kvm.2.2.2.2.2.2.2.1) (kvm.2.2.2.2.2.2.2.2.2.2.2.2)) from hMI)) (⟨hrq, rfl, hYm⟩)), hJ.2, rfl⟩, hz, fun q h1 h2 => hkp q h1 (fun h => h2 (bl_A hwc _ h))⟩

set_option maxHeartbeats 4000000 in
set_option maxRecDepth 100000 in
theorem v_via (l : Launch) (dC : Nat → ClassId) (dI : Nat → Nat → Nat) (sK sV : Nat → Nat) (im : Int32) (vm kvm : VS) (tm : List Nat) (T : List (ClassId × FieldType)) (m0 : Nat) (M : va_W) (x : Int32) (y : Int32) (sz : Nat) : Met l yX12_via wsX12_via ({ frames := 6, cells := 0, slots := 0, locals := 147 } : Room) (va_Pc [.ref m0, .int x, .int y] (fun U => U.heap.size = sz ∧ MI dC dI im vm kvm tm T m0 M U.heap ∧ va_K (dC, dI) vwCl T U ∧ Gs sK sV (va_A M sz) U)) (va_Qi (fun (r : Int32) (u : Int32 × VS × VS × List Nat) => r = viR_ vm.1 vm.2.2.2.2.2.1 vm.2.2.2.2.2.2.1 vm.2.2.2.2.2.2.2.1 vm.2.2.2.2.2.2.2.2.2.2.2.1 vm.2.2.2.1 vm.2.2.2.2.1 x y ∧ u = (im, vm, kvm, tm)) (fun (u : Int32 × VS × VS × List Nat) (t : State) => ∃ M1 : va_W, MI dC dI u.1 u.2.1 u.2.2.1 u.2.2.2 T m0 M1 t.heap ∧ va_D (va_A M sz) M1 ∧ M1.map (fun c => c.1) = M.map (fun c => c.1)) (va_A M sz)) 0 0 (va_A M sz) := by
  obtain ⟨n, wk, kb, mi, sn, yk, yv, yc, hl, tp, tc, hC, ee⟩ := vm
  refine met_wrap (fun args s hPc => ?_)
  obtain ⟨rfl, rfl, hMM, hK, hE⟩ := hPc
  have hMM0 := hMM
  refine hMM _ (fun aS aI aB aT aG aO aN aD aY th ac sp en wg op se dn rn kd nu tv bv cS cI cB cT cG cO cN cD cY fS fI fB fT fG fO fN fD fY hM hP hD hTM hMS hMI hrn => ?_)
  have hMV : MV fS n mi sn yk yv yc ee := hMS.2.2
  have hMH : MH fS hl tp tc hC := hMS.2.1
  have hMS : MOK fS n wk kb hl tp := hMS.1
  obtain ⟨hn, zn, h5, z1, hw6, zw, hk12, zk, zb, ht, zt, hHd⟩ := id hMS
  obtain ⟨hrq, rfl, hYm⟩ := hrn
  subst hM
  have hP : va_P (dC, dI) vwCl ([(zo14irriiiiiirriirrrrlriiii m0 th aS aI im ac sp en wg op aB aT se dn aG aO aN aD bv aY (nI tm.length) kd nu tv), (zaI aS cS 901 fS), (zaI aI cI 901 fI), (zaI aB cB 6 fB), (zaI aT cT 64 fT), (zaI aG cG 9 fG), (zaL aO cO 36 fO), (zaL aN cN 36 fN), (zaI aD cD 36 fD), (zaI aY cY 20 fY)] ++ []) s.heap := hP
  have hD : va_D (fun _ => True) ([(zo14irriiiiiirriirrrrlriiii m0 th aS aI im ac sp en wg op aB aT se dn aG aO aN aD bv aY (nI tm.length) kd nu tv), (zaI aS cS 901 fS), (zaI aI cI 901 fI), (zaI aB cB 6 fB), (zaI aT cT 64 fT), (zaI aG cG 9 fG), (zaL aO cO 36 fO), (zaL aN cN 36 fN), (zaI aD cD 36 fD), (zaI aY cY 20 fY)] ++ []) := hD
  have hwc := bl_mem (G := [(zo14irriiiiiirriirrrrlriiii m0 th aS aI im ac sp en wg op aB aT se dn aG aO aN aD bv aY (nI tm.length) kd nu tv), (zaI aS cS 901 fS), (zaI aI cI 901 fI), (zaI aB cB 6 fB), (zaI aT cT 64 fT), (zaI aG cG 9 fG), (zaL aO cO 36 fO), (zaL aN cN 36 fN), (zaI aD cD 36 fD), (zaI aY cY 20 fY)]) (F := [(zo14irriiiiiirriirrrrlriiii m0 th aS aI im ac sp en wg op aB aT se dn aG aO aN aD bv aY (nI tm.length) kd nu tv), (zaI aS cS 901 fS), (zaI aB cB 6 fB), (zaI aT cT 64 fT), (zaI aG cG 9 fG)]) (T := []) [0, 1, 3, 4, 5] rfl
  have hPc := bl_sub (F := [(zo14irriiiiiirriirrrrlriiii m0 th aS aI im ac sp en wg op aB aT se dn aG aO aN aD bv aY (nI tm.length) kd nu tv), (zaI aS cS 901 fS), (zaI aB cB 6 fB), (zaI aT cT 64 fT), (zaI aG cG 9 fG)]) hP [0, 1, 3, 4, 5] rfl
  refine ⟨_, _, _, c_mVia l dC dI m0 aS aI aB aT aG aO aN aD aY th im ac sp en wg op se dn (nI tm.length) kd nu tv bv cS cB cT cG fS fB fT fG n yk yv yc mi sn x y hC s.heap.size zn hn (MH_hol hHd hMH h5) hMV.2.2.1 hMV.2.2.2.1 hMV.2.2.2.2.1 hMV.1 hMV.2.1, ⟨rfl, rfl, hPc, (K_mem hK hTM).sub [0, 2, 3, 4] rfl, bl_Dsub hD [0, 1, 3, 4, 5] (by decide) rfl⟩, fun o t hQ => ?_, fun q hq => bl_A hwc q hq⟩
  obtain ⟨⟨r, u9, rfl, hpost, hB⟩, hz, hkp⟩ := hQ
  obtain ⟨fB9, fT9, se9, dn9, fG9⟩ := u9
  try dsimp only at hpost hB
  obtain ⟨hP1, hK1, hD1⟩ := hB
  have hJ := bl_gen (F' := [(zo14irriiiiiirriirrrrlriiii m0 th aS aI im ac sp en wg op aB aT se9 dn9 aG aO aN aD bv aY (nI tm.length) kd nu tv), (zaI aS cS 901 fS), (zaI aI cI 901 fI), (zaI aB cB 6 fB9), (zaI aT cT 64 fT9), (zaI aG cG 9 fG9), (zaL aO cO 36 fO), (zaL aN cN 36 fN), (zaI aD cD 36 fD), (zaI aY cY 20 fY)]) hP hD [0, 1, 3, 4, 5] rfl hkp hP1 hD1 [some 0, some 1, none, some 2, some 3, some 4, none, none, none, none] [0, 1, 3, 4, 5] rfl (Or.inl rfl) rfl
  exact ⟨⟨r, (im, (n, wk, kb, mi, sn, yk, yv, yc, hl, tp, tc, hC, ee), kvm, tm), rfl, ⟨hpost, rfl⟩, _, (fun M9 k9 => k9 aS aI aB aT aG aO aN aD aY th ac sp en wg op (se9) (dn9) ((nI tm.length)) kd nu tv bv cS cI cB cT cG cO cN cD cY fS fI (fB9) (fT9) (fG9) fO fN fD fY rfl hJ.1 ⟨hJ.2.1, fun _ _ _ => trivial⟩ hTM ⟨(show MOK fS n wk kb hl tp from hMS), (show MH fS hl tp tc hC from hMH), (show MV fS n mi sn yk yv yc ee from hMV)⟩ ((show im = 0 ∨ (MOK fI (kvm.1) (kvm.2.1) (kvm.2.2.1) (kvm.2.2.2.2.2.2.2.2.1) (kvm.2.2.2.2.2.2.2.2.2.1) ∧ MH fI (kvm.2.2.2.2.2.2.2.2.1) (kvm.2.2.2.2.2.2.2.2.2.1) (kvm.2.2.2.2.2.2.2.2.2.2.1) (kvm.2.2.2.2.2.2.2.2.2.2.2.1) ∧ MV fI (kvm.1) (kvm.2.2.2.1) (kvm.2.2.2.2.1) (kvm.2.2.2.2.2.1) (kvm.2.2.2.2.2.2.1) (kvm.2.2.2.2.2.2.2.1) (kvm.2.2.2.2.2.2.2.2.2.2.2.2)) from hMI)) (⟨hrq, rfl, hYm⟩)), hJ.2, rfl⟩, hz, fun q h1 h2 => hkp q h1 (fun h => h2 (bl_A hwc _ h))⟩

set_option maxHeartbeats 4000000 in
set_option maxRecDepth 100000 in
theorem v_cuts (l : Launch) (dC : Nat → ClassId) (dI : Nat → Nat → Nat) (sK sV : Nat → Nat) (im : Int32) (vm kvm : VS) (tm : List Nat) (T : List (ClassId × FieldType)) (m0 : Nat) (M : va_W) (x : Int32) (y : Int32) (sz : Nat) : Met l yX12_cuts wsX12_cuts ({ frames := 6, cells := 0, slots := 0, locals := 147 } : Room) (va_Pc [.ref m0, .int x, .int y] (fun U => U.heap.size = sz ∧ MI dC dI im vm kvm tm T m0 M U.heap ∧ va_K (dC, dI) vwCl T U ∧ Gs sK sV (va_A M sz) U)) (va_Qi (fun (r : Int32) (u : Int32 × VS × VS × List Nat) => r = cuR_ vm.1 vm.2.2.2.2.2.1 vm.2.2.2.2.2.2.1 vm.2.2.2.2.2.2.2.1 vm.2.2.2.2.2.2.2.2.2.2.2.1 vm.2.2.2.1 vm.2.2.2.2.1 x y ∧ u = (im, vm, kvm, tm)) (fun (u : Int32 × VS × VS × List Nat) (t : State) => ∃ M1 : va_W, MI dC dI u.1 u.2.1 u.2.2.1 u.2.2.2 T m0 M1 t.heap ∧ va_D (va_A M sz) M1 ∧ M1.map (fun c => c.1) = M.map (fun c => c.1)) (va_A M sz)) 0 0 (va_A M sz) := by
  obtain ⟨n, wk, kb, mi, sn, yk, yv, yc, hl, tp, tc, hC, ee⟩ := vm
  refine met_wrap (fun args s hPc => ?_)
  obtain ⟨rfl, rfl, hMM, hK, hE⟩ := hPc
  have hMM0 := hMM
  refine hMM _ (fun aS aI aB aT aG aO aN aD aY th ac sp en wg op se dn rn kd nu tv bv cS cI cB cT cG cO cN cD cY fS fI fB fT fG fO fN fD fY hM hP hD hTM hMS hMI hrn => ?_)
  have hMV : MV fS n mi sn yk yv yc ee := hMS.2.2
  have hMH : MH fS hl tp tc hC := hMS.2.1
  have hMS : MOK fS n wk kb hl tp := hMS.1
  obtain ⟨hn, zn, h5, z1, hw6, zw, hk12, zk, zb, ht, zt, hHd⟩ := id hMS
  obtain ⟨hrq, rfl, hYm⟩ := hrn
  subst hM
  have hP : va_P (dC, dI) vwCl ([(zo14irriiiiiirriirrrrlriiii m0 th aS aI im ac sp en wg op aB aT se dn aG aO aN aD bv aY (nI tm.length) kd nu tv), (zaI aS cS 901 fS), (zaI aI cI 901 fI), (zaI aB cB 6 fB), (zaI aT cT 64 fT), (zaI aG cG 9 fG), (zaL aO cO 36 fO), (zaL aN cN 36 fN), (zaI aD cD 36 fD), (zaI aY cY 20 fY)] ++ []) s.heap := hP
  have hD : va_D (fun _ => True) ([(zo14irriiiiiirriirrrrlriiii m0 th aS aI im ac sp en wg op aB aT se dn aG aO aN aD bv aY (nI tm.length) kd nu tv), (zaI aS cS 901 fS), (zaI aI cI 901 fI), (zaI aB cB 6 fB), (zaI aT cT 64 fT), (zaI aG cG 9 fG), (zaL aO cO 36 fO), (zaL aN cN 36 fN), (zaI aD cD 36 fD), (zaI aY cY 20 fY)] ++ []) := hD
  have hwc := bl_mem (G := [(zo14irriiiiiirriirrrrlriiii m0 th aS aI im ac sp en wg op aB aT se dn aG aO aN aD bv aY (nI tm.length) kd nu tv), (zaI aS cS 901 fS), (zaI aI cI 901 fI), (zaI aB cB 6 fB), (zaI aT cT 64 fT), (zaI aG cG 9 fG), (zaL aO cO 36 fO), (zaL aN cN 36 fN), (zaI aD cD 36 fD), (zaI aY cY 20 fY)]) (F := [(zo14irriiiiiirriirrrrlriiii m0 th aS aI im ac sp en wg op aB aT se dn aG aO aN aD bv aY (nI tm.length) kd nu tv), (zaI aS cS 901 fS), (zaI aB cB 6 fB), (zaI aT cT 64 fT), (zaI aG cG 9 fG)]) (T := []) [0, 1, 3, 4, 5] rfl
  have hPc := bl_sub (F := [(zo14irriiiiiirriirrrrlriiii m0 th aS aI im ac sp en wg op aB aT se dn aG aO aN aD bv aY (nI tm.length) kd nu tv), (zaI aS cS 901 fS), (zaI aB cB 6 fB), (zaI aT cT 64 fT), (zaI aG cG 9 fG)]) hP [0, 1, 3, 4, 5] rfl
  refine ⟨_, _, _, c_mCuts l dC dI m0 aS aI aB aT aG aO aN aD aY th im ac sp en wg op se dn (nI tm.length) kd nu tv bv cS cB cT cG fS fB fT fG n yk yv yc mi sn x y hC s.heap.size zn hn (MH_hol hHd hMH h5) hMV.2.2.1 hMV.2.2.2.1 hMV.2.2.2.2.1 hMV.1 hMV.2.1, ⟨rfl, rfl, hPc, (K_mem hK hTM).sub [0, 2, 3, 4] rfl, bl_Dsub hD [0, 1, 3, 4, 5] (by decide) rfl⟩, fun o t hQ => ?_, fun q hq => bl_A hwc q hq⟩
  obtain ⟨⟨r, u9, rfl, hpost, hB⟩, hz, hkp⟩ := hQ
  obtain ⟨fB9, fT9, se9, dn9, fG9⟩ := u9
  try dsimp only at hpost hB
  obtain ⟨hP1, hK1, hD1⟩ := hB
  have hJ := bl_gen (F' := [(zo14irriiiiiirriirrrrlriiii m0 th aS aI im ac sp en wg op aB aT se9 dn9 aG aO aN aD bv aY (nI tm.length) kd nu tv), (zaI aS cS 901 fS), (zaI aI cI 901 fI), (zaI aB cB 6 fB9), (zaI aT cT 64 fT9), (zaI aG cG 9 fG9), (zaL aO cO 36 fO), (zaL aN cN 36 fN), (zaI aD cD 36 fD), (zaI aY cY 20 fY)]) hP hD [0, 1, 3, 4, 5] rfl hkp hP1 hD1 [some 0, some 1, none, some 2, some 3, some 4, none, none, none, none] [0, 1, 3, 4, 5] rfl (Or.inl rfl) rfl
  exact ⟨⟨r, (im, (n, wk, kb, mi, sn, yk, yv, yc, hl, tp, tc, hC, ee), kvm, tm), rfl, ⟨hpost, rfl⟩, _, (fun M9 k9 => k9 aS aI aB aT aG aO aN aD aY th ac sp en wg op (se9) (dn9) ((nI tm.length)) kd nu tv bv cS cI cB cT cG cO cN cD cY fS fI (fB9) (fT9) (fG9) fO fN fD fY rfl hJ.1 ⟨hJ.2.1, fun _ _ _ => trivial⟩ hTM ⟨(show MOK fS n wk kb hl tp from hMS), (show MH fS hl tp tc hC from hMH), (show MV fS n mi sn yk yv yc ee from hMV)⟩ ((show im = 0 ∨ (MOK fI (kvm.1) (kvm.2.1) (kvm.2.2.1) (kvm.2.2.2.2.2.2.2.2.1) (kvm.2.2.2.2.2.2.2.2.2.1) ∧ MH fI (kvm.2.2.2.2.2.2.2.2.1) (kvm.2.2.2.2.2.2.2.2.2.1) (kvm.2.2.2.2.2.2.2.2.2.2.1) (kvm.2.2.2.2.2.2.2.2.2.2.2.1) ∧ MV fI (kvm.1) (kvm.2.2.2.1) (kvm.2.2.2.2.1) (kvm.2.2.2.2.2.1) (kvm.2.2.2.2.2.2.1) (kvm.2.2.2.2.2.2.2.1) (kvm.2.2.2.2.2.2.2.2.2.2.2.2)) from hMI)) (⟨hrq, rfl, hYm⟩)), hJ.2, rfl⟩, hz, fun q h1 h2 => hkp q h1 (fun h => h2 (bl_A hwc _ h))⟩

set_option maxHeartbeats 4000000 in
set_option maxRecDepth 100000 in
theorem v_bears (l : Launch) (dC : Nat → ClassId) (dI : Nat → Nat → Nat) (sK sV : Nat → Nat) (im : Int32) (vm kvm : VS) (tm : List Nat) (T : List (ClassId × FieldType)) (m0 : Nat) (M : va_W) (x : Int32) (y : Int32) (sz : Nat) : Met l yX12_bears wsX12_bears ({ frames := 6, cells := 0, slots := 0, locals := 147 } : Room) (va_Pc [.ref m0, .int x, .int y] (fun U => U.heap.size = sz ∧ MI dC dI im vm kvm tm T m0 M U.heap ∧ va_K (dC, dI) vwCl T U ∧ Gs sK sV (va_A M sz) U)) (va_Qi (fun (r : Int32) (u : Int32 × VS × VS × List Nat) => r = beR_ vm.1 vm.2.2.2.2.2.1 vm.2.2.2.2.2.2.1 vm.2.2.2.2.2.2.2.1 vm.2.2.2.2.2.2.2.2.2.2.2.1 vm.2.2.2.1 x y ∧ u = (im, vm, kvm, tm)) (fun (u : Int32 × VS × VS × List Nat) (t : State) => ∃ M1 : va_W, MI dC dI u.1 u.2.1 u.2.2.1 u.2.2.2 T m0 M1 t.heap ∧ va_D (va_A M sz) M1 ∧ M1.map (fun c => c.1) = M.map (fun c => c.1)) (va_A M sz)) 0 0 (va_A M sz) := by
  obtain ⟨n, wk, kb, mi, sn, yk, yv, yc, hl, tp, tc, hC, ee⟩ := vm
  refine met_wrap (fun args s hPc => ?_)
  obtain ⟨rfl, rfl, hMM, hK, hE⟩ := hPc
  have hMM0 := hMM
  refine hMM _ (fun aS aI aB aT aG aO aN aD aY th ac sp en wg op se dn rn kd nu tv bv cS cI cB cT cG cO cN cD cY fS fI fB fT fG fO fN fD fY hM hP hD hTM hMS hMI hrn => ?_)
  have hMV : MV fS n mi sn yk yv yc ee := hMS.2.2
  have hMH : MH fS hl tp tc hC := hMS.2.1
  have hMS : MOK fS n wk kb hl tp := hMS.1
  obtain ⟨hn, zn, h5, z1, hw6, zw, hk12, zk, zb, ht, zt, hHd⟩ := id hMS
  obtain ⟨hrq, rfl, hYm⟩ := hrn
  subst hM
  have hP : va_P (dC, dI) vwCl ([(zo14irriiiiiirriirrrrlriiii m0 th aS aI im ac sp en wg op aB aT se dn aG aO aN aD bv aY (nI tm.length) kd nu tv), (zaI aS cS 901 fS), (zaI aI cI 901 fI), (zaI aB cB 6 fB), (zaI aT cT 64 fT), (zaI aG cG 9 fG), (zaL aO cO 36 fO), (zaL aN cN 36 fN), (zaI aD cD 36 fD), (zaI aY cY 20 fY)] ++ []) s.heap := hP
  have hD : va_D (fun _ => True) ([(zo14irriiiiiirriirrrrlriiii m0 th aS aI im ac sp en wg op aB aT se dn aG aO aN aD bv aY (nI tm.length) kd nu tv), (zaI aS cS 901 fS), (zaI aI cI 901 fI), (zaI aB cB 6 fB), (zaI aT cT 64 fT), (zaI aG cG 9 fG), (zaL aO cO 36 fO), (zaL aN cN 36 fN), (zaI aD cD 36 fD), (zaI aY cY 20 fY)] ++ []) := hD
  have hwc := bl_mem (G := [(zo14irriiiiiirriirrrrlriiii m0 th aS aI im ac sp en wg op aB aT se dn aG aO aN aD bv aY (nI tm.length) kd nu tv), (zaI aS cS 901 fS), (zaI aI cI 901 fI), (zaI aB cB 6 fB), (zaI aT cT 64 fT), (zaI aG cG 9 fG), (zaL aO cO 36 fO), (zaL aN cN 36 fN), (zaI aD cD 36 fD), (zaI aY cY 20 fY)]) (F := [(zo14irriiiiiirriirrrrlriiii m0 th aS aI im ac sp en wg op aB aT se dn aG aO aN aD bv aY (nI tm.length) kd nu tv), (zaI aS cS 901 fS), (zaI aB cB 6 fB), (zaI aT cT 64 fT), (zaI aG cG 9 fG)]) (T := []) [0, 1, 3, 4, 5] rfl
  have hPc := bl_sub (F := [(zo14irriiiiiirriirrrrlriiii m0 th aS aI im ac sp en wg op aB aT se dn aG aO aN aD bv aY (nI tm.length) kd nu tv), (zaI aS cS 901 fS), (zaI aB cB 6 fB), (zaI aT cT 64 fT), (zaI aG cG 9 fG)]) hP [0, 1, 3, 4, 5] rfl
  refine ⟨_, _, _, c_mBears l dC dI m0 aS aI aB aT aG aO aN aD aY th im ac sp en wg op se dn (nI tm.length) kd nu tv bv cS cB cT cG fS fB fT fG n yk yv yc mi sn x y hC s.heap.size zn hn (MH_hol hHd hMH h5) hMV.2.2.1 hMV.2.2.2.1 hMV.2.2.2.2.1 hMV.1 hMV.2.1, ⟨rfl, rfl, hPc, (K_mem hK hTM).sub [0, 2, 3, 4] rfl, bl_Dsub hD [0, 1, 3, 4, 5] (by decide) rfl⟩, fun o t hQ => ?_, fun q hq => bl_A hwc q hq⟩
  obtain ⟨⟨r, u9, rfl, hpost, hB⟩, hz, hkp⟩ := hQ
  obtain ⟨fB9, fT9, se9, dn9, fG9⟩ := u9
  try dsimp only at hpost hB
  obtain ⟨hP1, hK1, hD1⟩ := hB
  have hJ := bl_gen (F' := [(zo14irriiiiiirriirrrrlriiii m0 th aS aI im ac sp en wg op aB aT se9 dn9 aG aO aN aD bv aY (nI tm.length) kd nu tv), (zaI aS cS 901 fS), (zaI aI cI 901 fI), (zaI aB cB 6 fB9), (zaI aT cT 64 fT9), (zaI aG cG 9 fG9), (zaL aO cO 36 fO), (zaL aN cN 36 fN), (zaI aD cD 36 fD), (zaI aY cY 20 fY)]) hP hD [0, 1, 3, 4, 5] rfl hkp hP1 hD1 [some 0, some 1, none, some 2, some 3, some 4, none, none, none, none] [0, 1, 3, 4, 5] rfl (Or.inl rfl) rfl
  exact ⟨⟨r, (im, (n, wk, kb, mi, sn, yk, yv, yc, hl, tp, tc, hC, ee), kvm, tm), rfl, ⟨hpost, rfl⟩, _, (fun M9 k9 => k9 aS aI aB aT aG aO aN aD aY th ac sp en wg op (se9) (dn9) ((nI tm.length)) kd nu tv bv cS cI cB cT cG cO cN cD cY fS fI (fB9) (fT9) (fG9) fO fN fD fY rfl hJ.1 ⟨hJ.2.1, fun _ _ _ => trivial⟩ hTM ⟨(show MOK fS n wk kb hl tp from hMS), (show MH fS hl tp tc hC from hMH), (show MV fS n mi sn yk yv yc ee from hMV)⟩ ((show im = 0 ∨ (MOK fI (kvm.1) (kvm.2.1) (kvm.2.2.1) (kvm.2.2.2.2.2.2.2.2.1) (kvm.2.2.2.2.2.2.2.2.2.1) ∧ MH fI (kvm.2.2.2.2.2.2.2.2.1) (kvm.2.2.2.2.2.2.2.2.2.1) (kvm.2.2.2.2.2.2.2.2.2.2.1) (kvm.2.2.2.2.2.2.2.2.2.2.2.1) ∧ MV fI (kvm.1) (kvm.2.2.2.1) (kvm.2.2.2.2.1) (kvm.2.2.2.2.2.1) (kvm.2.2.2.2.2.2.1) (kvm.2.2.2.2.2.2.2.1) (kvm.2.2.2.2.2.2.2.2.2.2.2.2)) from hMI)) (⟨hrq, rfl, hYm⟩)), hJ.2, rfl⟩, hz, fun q h1 h2 => hkp q h1 (fun h => h2 (bl_A hwc _ h))⟩

set_option maxHeartbeats 4000000 in
set_option maxRecDepth 100000 in
theorem v_build (l : Launch) (dC : Nat → ClassId) (dI : Nat → Nat → Nat) (sK sV : Nat → Nat) (im : Int32) (vm kvm : VS) (tm : List Nat) (T : List (ClassId × FieldType)) (m0 : Nat) (M : va_W) (x : Int32) (y : Int32) (z : Int32) (sz : Nat) : Met l yX12_build wsX12_build ({ frames := 6, cells := 0, slots := 0, locals := 147 } : Room) (va_Pc [.ref m0, .int x, .int y, .int z] (fun U => U.heap.size = sz ∧ MI dC dI im vm kvm tm T m0 M U.heap ∧ va_K (dC, dI) vwCl T U ∧ Gs sK sV (va_A M sz) U)) (va_Qi (fun (r : Int32) (u : Int32 × VS × VS × List Nat) => r = bdR vm.1 vm.2.2.2.2.2.1 vm.2.2.2.2.2.2.1 vm.2.2.2.2.2.2.2.1 vm.2.2.2.2.2.2.2.2.2.2.2.1 vm.2.2.2.1 vm.2.2.2.2.1 x y z ∧ u = (im, vm, kvm, tm)) (fun (u : Int32 × VS × VS × List Nat) (t : State) => ∃ M1 : va_W, MI dC dI u.1 u.2.1 u.2.2.1 u.2.2.2 T m0 M1 t.heap ∧ va_D (va_A M sz) M1 ∧ M1.map (fun c => c.1) = M.map (fun c => c.1)) (va_A M sz)) 0 0 (va_A M sz) := by
  obtain ⟨n, wk, kb, mi, sn, yk, yv, yc, hl, tp, tc, hC, ee⟩ := vm
  refine met_wrap (fun args s hPc => ?_)
  obtain ⟨rfl, rfl, hMM, hK, hE⟩ := hPc
  have hMM0 := hMM
  refine hMM _ (fun aS aI aB aT aG aO aN aD aY th ac sp en wg op se dn rn kd nu tv bv cS cI cB cT cG cO cN cD cY fS fI fB fT fG fO fN fD fY hM hP hD hTM hMS hMI hrn => ?_)
  have hMV : MV fS n mi sn yk yv yc ee := hMS.2.2
  have hMH : MH fS hl tp tc hC := hMS.2.1
  have hMS : MOK fS n wk kb hl tp := hMS.1
  obtain ⟨hn, zn, h5, z1, hw6, zw, hk12, zk, zb, ht, zt, hHd⟩ := id hMS
  obtain ⟨hrq, rfl, hYm⟩ := hrn
  subst hM
  have hP : va_P (dC, dI) vwCl ([(zo14irriiiiiirriirrrrlriiii m0 th aS aI im ac sp en wg op aB aT se dn aG aO aN aD bv aY (nI tm.length) kd nu tv), (zaI aS cS 901 fS), (zaI aI cI 901 fI), (zaI aB cB 6 fB), (zaI aT cT 64 fT), (zaI aG cG 9 fG), (zaL aO cO 36 fO), (zaL aN cN 36 fN), (zaI aD cD 36 fD), (zaI aY cY 20 fY)] ++ []) s.heap := hP
  have hD : va_D (fun _ => True) ([(zo14irriiiiiirriirrrrlriiii m0 th aS aI im ac sp en wg op aB aT se dn aG aO aN aD bv aY (nI tm.length) kd nu tv), (zaI aS cS 901 fS), (zaI aI cI 901 fI), (zaI aB cB 6 fB), (zaI aT cT 64 fT), (zaI aG cG 9 fG), (zaL aO cO 36 fO), (zaL aN cN 36 fN), (zaI aD cD 36 fD), (zaI aY cY 20 fY)] ++ []) := hD
  have hwc := bl_mem (G := [(zo14irriiiiiirriirrrrlriiii m0 th aS aI im ac sp en wg op aB aT se dn aG aO aN aD bv aY (nI tm.length) kd nu tv), (zaI aS cS 901 fS), (zaI aI cI 901 fI), (zaI aB cB 6 fB), (zaI aT cT 64 fT), (zaI aG cG 9 fG), (zaL aO cO 36 fO), (zaL aN cN 36 fN), (zaI aD cD 36 fD), (zaI aY cY 20 fY)]) (F := [(zo14irriiiiiirriirrrrlriiii m0 th aS aI im ac sp en wg op aB aT se dn aG aO aN aD bv aY (nI tm.length) kd nu tv), (zaI aS cS 901 fS), (zaI aB cB 6 fB), (zaI aT cT 64 fT), (zaI aG cG 9 fG)]) (T := []) [0, 1, 3, 4, 5] rfl
  have hPc := bl_sub (F := [(zo14irriiiiiirriirrrrlriiii m0 th aS aI im ac sp en wg op aB aT se dn aG aO aN aD bv aY (nI tm.length) kd nu tv), (zaI aS cS 901 fS), (zaI aB cB 6 fB), (zaI aT cT 64 fT), (zaI aG cG 9 fG)]) hP [0, 1, 3, 4, 5] rfl
  refine ⟨_, _, _, c_mBuild l dC dI m0 aS aI aB aT aG aO aN aD aY th im ac sp en wg op se dn (nI tm.length) kd nu tv bv cS cB cT cG fS fB fT fG n yk yv yc mi sn x y z hC s.heap.size zn hn (MH_hol hHd hMH h5) hMV.2.2.1 hMV.2.2.2.1 hMV.2.2.2.2.1 hMV.1 hMV.2.1, ⟨rfl, rfl, hPc, (K_mem hK hTM).sub [0, 2, 3, 4] rfl, bl_Dsub hD [0, 1, 3, 4, 5] (by decide) rfl⟩, fun o t hQ => ?_, fun q hq => bl_A hwc q hq⟩
  obtain ⟨⟨r, u9, rfl, hpost, hB⟩, hz, hkp⟩ := hQ
  obtain ⟨fB9, fT9, se9, dn9, fG9, fS9⟩ := u9
  try dsimp only at hpost hB
  obtain ⟨hP1, hK1, hD1⟩ := hB
  obtain ⟨hp1, hp2⟩ := hpost
  have hJ := bl_gen (F' := [(zo14irriiiiiirriirrrrlriiii m0 th aS aI im ac sp en wg op aB aT se9 dn9 aG aO aN aD bv aY (nI tm.length) kd nu tv), (zaI aS cS 901 fS9), (zaI aI cI 901 fI), (zaI aB cB 6 fB9), (zaI aT cT 64 fT9), (zaI aG cG 9 fG9), (zaL aO cO 36 fO), (zaL aN cN 36 fN), (zaI aD cD 36 fD), (zaI aY cY 20 fY)]) hP hD [0, 1, 3, 4, 5] rfl hkp hP1 hD1 [some 0, some 1, none, some 2, some 3, some 4, none, none, none, none] [0, 1, 3, 4, 5] rfl (Or.inl rfl) rfl
  exact ⟨⟨r, (im, (n, wk, kb, mi, sn, yk, yv, yc, hl, tp, tc, hC, ee), kvm, tm), rfl, ⟨hp1, rfl⟩, _, (fun M9 k9 => k9 aS aI aB aT aG aO aN aD aY th ac sp en wg op (se9) (dn9) ((nI tm.length)) kd nu tv bv cS cI cB cT cG cO cN cD cY (fS9) fI (fB9) (fT9) (fG9) fO fN fD fY rfl hJ.1 ⟨hJ.2.1, fun _ _ _ => trivial⟩ hTM ⟨(show MOK fS9 n wk kb hl tp from MOK_rest hMS (fun i hi => hp2 i (by omega) (by omega) (by omega))), (show MH fS9 hl tp tc hC from MH_of hMH h5 ht (fun i hi => hp2 i (by omega) (by omega) (by omega))), (show MV fS9 n mi sn yk yv yc ee from MV_of hMV (fun i hi => hp2 i (by omega) (by omega) (by omega)))⟩ ((show im = 0 ∨ (MOK fI (kvm.1) (kvm.2.1) (kvm.2.2.1) (kvm.2.2.2.2.2.2.2.2.1) (kvm.2.2.2.2.2.2.2.2.2.1) ∧ MH fI (kvm.2.2.2.2.2.2.2.2.1) (kvm.2.2.2.2.2.2.2.2.2.1) (kvm.2.2.2.2.2.2.2.2.2.2.1) (kvm.2.2.2.2.2.2.2.2.2.2.2.1) ∧ MV fI (kvm.1) (kvm.2.2.2.1) (kvm.2.2.2.2.1) (kvm.2.2.2.2.2.1) (kvm.2.2.2.2.2.2.1) (kvm.2.2.2.2.2.2.2.1) (kvm.2.2.2.2.2.2.2.2.2.2.2.2)) from hMI)) (⟨hrq, rfl, hYm⟩)), hJ.2, rfl⟩, hz, fun q h1 h2 => hkp q h1 (fun h => h2 (bl_A hwc _ h))⟩

set_option maxHeartbeats 4000000 in
set_option maxRecDepth 100000 in
theorem v_hill (l : Launch) (dC : Nat → ClassId) (dI : Nat → Nat → Nat) (sK sV : Nat → Nat) (im : Int32) (vm kvm : VS) (tm : List Nat) (T : List (ClassId × FieldType)) (m0 : Nat) (M : va_W)  (sz : Nat) : Met l yX12_hill wsX12_hill ({ frames := 26, cells := 0, slots := 0, locals := 555 } : Room) (va_Pc [.ref m0] (fun U => U.heap.size = sz ∧ MI dC dI im vm kvm tm T m0 M U.heap ∧ va_K (dC, dI) vwCl T U ∧ Gs sK sV (va_A M sz) U)) (va_Qi (fun (r : Int32) (u : Int32 × VS × VS × List Nat) => r = hlR vm.2.2.2.2.2.2.2.2.1 vm.2.2.2.2.2.2.2.2.2.1 vm.2.2.2.2.2.2.2.2.2.2.1 ∧ u = (im, hlF vm, kvm, tm)) (fun (u : Int32 × VS × VS × List Nat) (t : State) => ∃ M1 : va_W, MI dC dI u.1 u.2.1 u.2.2.1 u.2.2.2 T m0 M1 t.heap ∧ va_D (va_A M sz) M1 ∧ M1.map (fun c => c.1) = M.map (fun c => c.1)) (va_A M sz)) 0 0 (va_A M sz) := by
  obtain ⟨n, wk, kb, mi, sn, yk, yv, yc, hl, tp, tc, hC, ee⟩ := vm
  refine met_wrap (fun args s hPc => ?_)
  obtain ⟨rfl, rfl, hMM, hK, hE⟩ := hPc
  have hMM0 := hMM
  refine hMM _ (fun aS aI aB aT aG aO aN aD aY th ac sp en wg op se dn rn kd nu tv bv cS cI cB cT cG cO cN cD cY fS fI fB fT fG fO fN fD fY hM hP hD hTM hMS hMI hrn => ?_)
  have hMV : MV fS n mi sn yk yv yc ee := hMS.2.2
  have hMH : MH fS hl tp tc hC := hMS.2.1
  have hMS : MOK fS n wk kb hl tp := hMS.1
  obtain ⟨hn, zn, h5, z1, hw6, zw, hk12, zk, zb, ht, zt, hHd⟩ := id hMS
  obtain ⟨hrq, rfl, hYm⟩ := hrn
  subst hM
  have hP : va_P (dC, dI) vwCl ([(zo14irriiiiiirriirrrrlriiii m0 th aS aI im ac sp en wg op aB aT se dn aG aO aN aD bv aY (nI tm.length) kd nu tv), (zaI aS cS 901 fS), (zaI aI cI 901 fI), (zaI aB cB 6 fB), (zaI aT cT 64 fT), (zaI aG cG 9 fG), (zaL aO cO 36 fO), (zaL aN cN 36 fN), (zaI aD cD 36 fD), (zaI aY cY 20 fY)] ++ []) s.heap := hP
  have hD : va_D (fun _ => True) ([(zo14irriiiiiirriirrrrlriiii m0 th aS aI im ac sp en wg op aB aT se dn aG aO aN aD bv aY (nI tm.length) kd nu tv), (zaI aS cS 901 fS), (zaI aI cI 901 fI), (zaI aB cB 6 fB), (zaI aT cT 64 fT), (zaI aG cG 9 fG), (zaL aO cO 36 fO), (zaL aN cN 36 fN), (zaI aD cD 36 fD), (zaI aY cY 20 fY)] ++ []) := hD
  have hwc := bl_mem (G := [(zo14irriiiiiirriirrrrlriiii m0 th aS aI im ac sp en wg op aB aT se dn aG aO aN aD bv aY (nI tm.length) kd nu tv), (zaI aS cS 901 fS), (zaI aI cI 901 fI), (zaI aB cB 6 fB), (zaI aT cT 64 fT), (zaI aG cG 9 fG), (zaL aO cO 36 fO), (zaL aN cN 36 fN), (zaI aD cD 36 fD), (zaI aY cY 20 fY)]) (F := [(zo14irriiiiiirriirrrrlriiii m0 th aS aI im ac sp en wg op aB aT se dn aG aO aN aD bv aY (nI tm.length) kd nu tv), (zaI aS cS 901 fS)]) (T := []) [0, 1] rfl
  have hPc := bl_sub (F := [(zo14irriiiiiirriirrrrlriiii m0 th aS aI im ac sp en wg op aB aT se dn aG aO aN aD bv aY (nI tm.length) kd nu tv), (zaI aS cS 901 fS)]) hP [0, 1] rfl
  refine ⟨_, _, _, c_mHill l dC dI sK sV m0 aS aI aB aT aG aO aN aD aY th im ac sp en wg op se dn (nI tm.length) kd nu tv bv cS fS hl tp tc s.heap.size z1 h5 zt ht hHd hMH.1, ⟨rfl, rfl, hPc, (K_mem hK hTM).sub [0] rfl, bl_Dsub hD [0, 1] (by decide) rfl, hE.call va_S.rf rfl (State.WarmedH.refl s) (bl_A hwc)⟩, fun o t hQ => ?_, fun q hq => bl_A hwc q hq⟩
  obtain ⟨⟨r, u9, rfl, hpost, hB⟩, hz, hkp⟩ := hQ
  obtain ⟨fS9, ac9, sp9, en9, wg9, op9⟩ := u9
  try dsimp only at hpost hB
  obtain ⟨hP1, hK1, hD1⟩ := hB
  rcases hpost with ⟨hl9, er, e9⟩ | ⟨hl9, hq9, z49, hpost⟩
  · skip
    obtain rfl := e9.symm
    have hJ := bl_gen (F' := [(zo14irriiiiiirriirrrrlriiii m0 th aS aI im ac9 sp9 en9 wg9 op9 aB aT se dn aG aO aN aD bv aY (nI tm.length) kd nu tv), (zaI aS cS 901 fS), (zaI aI cI 901 fI), (zaI aB cB 6 fB), (zaI aT cT 64 fT), (zaI aG cG 9 fG), (zaL aO cO 36 fO), (zaL aN cN 36 fN), (zaI aD cD 36 fD), (zaI aY cY 20 fY)]) hP hD [0, 1] rfl hkp hP1 hD1 [some 0, some 1, none, none, none, none, none, none, none, none] [0, 1] rfl (Or.inl rfl) rfl
    exact ⟨⟨r, (im, (n, wk, kb, mi, sn, yk, yv, yc, hl, tp, tc, hC, ee), kvm, tm), rfl, ⟨er.trans (hlR_5 hl9), u_eq (hlF_5 hl9)⟩, _, (fun M9 k9 => k9 aS aI aB aT aG aO aN aD aY th (ac9) (sp9) (en9) (wg9) (op9) se dn ((nI tm.length)) kd nu tv bv cS cI cB cT cG cO cN cD cY (fS) fI fB fT fG fO fN fD fY rfl hJ.1 ⟨hJ.2.1, fun _ _ _ => trivial⟩ hTM ⟨(show MOK fS n wk kb hl tp from hMS), (show MH fS hl tp tc hC from hMH), (show MV fS n mi sn yk yv yc ee from hMV)⟩ ((show im = 0 ∨ (MOK fI (kvm.1) (kvm.2.1) (kvm.2.2.1) (kvm.2.2.2.2.2.2.2.2.1) (kvm.2.2.2.2.2.2.2.2.2.1) ∧ MH fI (kvm.2.2.2.2.2.2.2.2.1) (kvm.2.2.2.2.2.2.2.2.2.1) (kvm.2.2.2.2.2.2.2.2.2.2.1) (kvm.2.2.2.2.2.2.2.2.2.2.2.1) ∧ MV fI (kvm.1) (kvm.2.2.2.1) (kvm.2.2.2.2.1) (kvm.2.2.2.2.2.1) (kvm.2.2.2.2.2.2.1) (kvm.2.2.2.2.2.2.2.1) (kvm.2.2.2.2.2.2.2.2.2.2.2.2)) from hMI)) (⟨hrq, rfl, hYm⟩)), hJ.2, rfl⟩, hz, fun q h1 h2 => hkp q h1 (fun h => h2 (bl_A hwc _ h))⟩
  · skip
    have mv9 : MV fS9 n mi sn yk yv yc ee := MV_of hMV (fun i hi => hq9.2.2 i (by omega) (by omega) (by omega) (by omega))
    rcases hpost with ⟨q0, hq0, eC0, er, he9⟩ | ⟨C0, q0, eC0, er, z19, z59, hcd⟩
    · skip
      have hJ := bl_gen (F' := [(zo14irriiiiiirriirrrrlriiii m0 th aS aI im ac9 sp9 en9 wg9 op9 aB aT se dn aG aO aN aD bv aY (nI tm.length) kd nu tv), (zaI aS cS 901 fS9), (zaI aI cI 901 fI), (zaI aB cB 6 fB), (zaI aT cT 64 fT), (zaI aG cG 9 fG), (zaL aO cO 36 fO), (zaL aN cN 36 fN), (zaI aD cD 36 fD), (zaI aY cY 20 fY)]) hP hD [0, 1] rfl hkp hP1 hD1 [some 0, some 1, none, none, none, none, none, none, none, none] [0, 1] rfl (Or.inl rfl) rfl
      exact ⟨⟨r, (im, (n, wk, kb, mi, sn, yk, yv, yc, hl, 0, (fun _ => 0), hC, ee), kvm, tm), rfl, ⟨er.trans (hlR_b (show ¬ hl = 5 by omega) eC0), u_eq (hlF_b (show ¬ hl = 5 by omega) eC0)⟩, _, (fun M9 k9 => k9 aS aI aB aT aG aO aN aD aY th (ac9) (sp9) (en9) (wg9) (op9) se dn ((nI tm.length)) kd nu tv bv cS cI cB cT cG cO cN cD cY (fS9) fI fB fT fG fO fN fD fY rfl hJ.1 ⟨hJ.2.1, fun _ _ _ => trivial⟩ hTM ⟨(show MOK fS9 n wk kb hl 0 from MOK_hill hMS hq9 h5 ((he9 1 (by omega) (by omega) (by omega) (by omega)).trans z1) (by omega) z49), (show MH fS9 hl 0 (fun _ => 0) hC from MH_bad hMH hl9 he9), (show MV fS9 n mi sn yk yv yc ee from mv9)⟩ ((show im = 0 ∨ (MOK fI (kvm.1) (kvm.2.1) (kvm.2.2.1) (kvm.2.2.2.2.2.2.2.2.1) (kvm.2.2.2.2.2.2.2.2.2.1) ∧ MH fI (kvm.2.2.2.2.2.2.2.2.1) (kvm.2.2.2.2.2.2.2.2.2.1) (kvm.2.2.2.2.2.2.2.2.2.2.1) (kvm.2.2.2.2.2.2.2.2.2.2.2.1) ∧ MV fI (kvm.1) (kvm.2.2.2.1) (kvm.2.2.2.2.1) (kvm.2.2.2.2.2.1) (kvm.2.2.2.2.2.2.1) (kvm.2.2.2.2.2.2.2.1) (kvm.2.2.2.2.2.2.2.2.2.2.2.2)) from hMI)) (⟨hrq, rfl, hYm⟩)), hJ.2, rfl⟩, hz, fun q h1 h2 => hkp q h1 (fun h => h2 (bl_A hwc _ h))⟩
    · skip
      have hJ := bl_gen (F' := [(zo14irriiiiiirriirrrrlriiii m0 th aS aI im ac9 sp9 en9 wg9 op9 aB aT se dn aG aO aN aD bv aY (nI tm.length) kd nu tv), (zaI aS cS 901 fS9), (zaI aI cI 901 fI), (zaI aB cB 6 fB), (zaI aT cT 64 fT), (zaI aG cG 9 fG), (zaL aO cO 36 fO), (zaL aN cN 36 fN), (zaI aD cD 36 fD), (zaI aY cY 20 fY)]) hP hD [0, 1] rfl hkp hP1 hD1 [some 0, some 1, none, none, none, none, none, none, none, none] [0, 1] rfl (Or.inl rfl) rfl
      exact ⟨⟨r, (im, (n, wk, kb, mi, sn, yk, yv, yc, hl + 1, 0, (fun _ => 0), C0, ee), kvm, tm), rfl, ⟨er.trans (hlR_g (show ¬ hl = 5 by omega) eC0), u_eq (hlF_g (show ¬ hl = 5 by omega) eC0)⟩, _, (fun M9 k9 => k9 aS aI aB aT aG aO aN aD aY th (ac9) (sp9) (en9) (wg9) (op9) se dn ((nI tm.length)) kd nu tv bv cS cI cB cT cG cO cN cD cY (fS9) fI fB fT fG fO fN fD fY rfl hJ.1 ⟨hJ.2.1, fun _ _ _ => trivial⟩ hTM ⟨(show MOK fS9 n wk kb (hl + 1) 0 from MOK_hill hMS hq9 (by omega) z19 (by omega) z49), (show MH fS9 (hl + 1) 0 (fun _ => 0) C0 from MH_good z59 hcd (wf_hl eC0)), (show MV fS9 n mi sn yk yv yc ee from mv9)⟩ ((show im = 0 ∨ (MOK fI (kvm.1) (kvm.2.1) (kvm.2.2.1) (kvm.2.2.2.2.2.2.2.2.1) (kvm.2.2.2.2.2.2.2.2.2.1) ∧ MH fI (kvm.2.2.2.2.2.2.2.2.1) (kvm.2.2.2.2.2.2.2.2.2.1) (kvm.2.2.2.2.2.2.2.2.2.2.1) (kvm.2.2.2.2.2.2.2.2.2.2.2.1) ∧ MV fI (kvm.1) (kvm.2.2.2.1) (kvm.2.2.2.2.1) (kvm.2.2.2.2.2.1) (kvm.2.2.2.2.2.2.1) (kvm.2.2.2.2.2.2.2.1) (kvm.2.2.2.2.2.2.2.2.2.2.2.2)) from hMI)) (⟨hrq, rfl, hYm⟩)), hJ.2, rfl⟩, hz, fun q h1 h2 => hkp q h1 (fun h => h2 (bl_A hwc _ h))⟩

set_option maxHeartbeats 4000000 in
set_option maxRecDepth 100000 in
theorem v_act (l : Launch) (dC : Nat → ClassId) (dI : Nat → Nat → Nat) (sK sV : Nat → Nat) (im : Int32) (vm kvm : VS) (tm : List Nat) (T : List (ClassId × FieldType)) (m0 : Nat) (M : va_W) (x : Int32) (y : Int32) (z : Int32) (sz : Nat) : Met l yX12_act wsX12_act ({ frames := 7, cells := 0, slots := 0, locals := 148 } : Room) (va_Pc [.ref m0, .int x, .int y, .int z] (fun U => U.heap.size = sz ∧ MI dC dI im vm kvm tm T m0 M U.heap ∧ va_K (dC, dI) vwCl T U ∧ Gs sK sV (va_A M sz) U)) (va_Qi (fun (r : Int32) (u : Int32 × VS × VS × List Nat) => r = acR vm.1 vm.2.2.2.2.2.1 vm.2.2.2.2.2.2.1 x y z ∧ u = (im, vm, kvm, acT vm.1 vm.2.2.2.2.2.1 x y)) (fun (u : Int32 × VS × VS × List Nat) (t : State) => ∃ M1 : va_W, MI dC dI u.1 u.2.1 u.2.2.1 u.2.2.2 T m0 M1 t.heap ∧ va_D (va_A M sz) M1 ∧ M1.map (fun c => c.1) = M.map (fun c => c.1)) (va_A M sz)) 0 0 (va_A M sz) := by
  obtain ⟨n, wk, kb, mi, sn, yk, yv, yc, hl, tp, tc, hC, ee⟩ := vm
  refine met_wrap (fun args s hPc => ?_)
  obtain ⟨rfl, rfl, hMM, hK, hE⟩ := hPc
  have hMM0 := hMM
  refine hMM _ (fun aS aI aB aT aG aO aN aD aY th ac sp en wg op se dn rn kd nu tv bv cS cI cB cT cG cO cN cD cY fS fI fB fT fG fO fN fD fY hM hP hD hTM hMS hMI hrn => ?_)
  have hMV : MV fS n mi sn yk yv yc ee := hMS.2.2
  have hMH : MH fS hl tp tc hC := hMS.2.1
  have hMS : MOK fS n wk kb hl tp := hMS.1
  obtain ⟨hn, zn, h5, z1, hw6, zw, hk12, zk, zb, ht, zt, hHd⟩ := id hMS
  obtain ⟨hrq, rfl, hYm⟩ := hrn
  subst hM
  have hP : va_P (dC, dI) vwCl ([(zo14irriiiiiirriirrrrlriiii m0 th aS aI im ac sp en wg op aB aT se dn aG aO aN aD bv aY (nI tm.length) kd nu tv), (zaI aS cS 901 fS), (zaI aI cI 901 fI), (zaI aB cB 6 fB), (zaI aT cT 64 fT), (zaI aG cG 9 fG), (zaL aO cO 36 fO), (zaL aN cN 36 fN), (zaI aD cD 36 fD), (zaI aY cY 20 fY)] ++ []) s.heap := hP
  have hD : va_D (fun _ => True) ([(zo14irriiiiiirriirrrrlriiii m0 th aS aI im ac sp en wg op aB aT se dn aG aO aN aD bv aY (nI tm.length) kd nu tv), (zaI aS cS 901 fS), (zaI aI cI 901 fI), (zaI aB cB 6 fB), (zaI aT cT 64 fT), (zaI aG cG 9 fG), (zaL aO cO 36 fO), (zaL aN cN 36 fN), (zaI aD cD 36 fD), (zaI aY cY 20 fY)] ++ []) := hD
  have hwc := bl_mem (G := [(zo14irriiiiiirriirrrrlriiii m0 th aS aI im ac sp en wg op aB aT se dn aG aO aN aD bv aY (nI tm.length) kd nu tv), (zaI aS cS 901 fS), (zaI aI cI 901 fI), (zaI aB cB 6 fB), (zaI aT cT 64 fT), (zaI aG cG 9 fG), (zaL aO cO 36 fO), (zaL aN cN 36 fN), (zaI aD cD 36 fD), (zaI aY cY 20 fY)]) (F := [(zo14irriiiiiirriirrrrlriiii m0 th aS aI im ac sp en wg op aB aT se dn aG aO aN aD bv aY (nI tm.length) kd nu tv), (zaI aS cS 901 fS), (zaI aY cY 20 fY)]) (T := []) [0, 1, 9] rfl
  have hPc := bl_sub (F := [(zo14irriiiiiirriirrrrlriiii m0 th aS aI im ac sp en wg op aB aT se dn aG aO aN aD bv aY (nI tm.length) kd nu tv), (zaI aS cS 901 fS), (zaI aY cY 20 fY)]) hP [0, 1, 9] rfl
  refine ⟨_, _, _, c_mAct l dC dI m0 aS aI aB aT aG aO aN aD aY th im ac sp en wg op se dn (nI tm.length) kd nu tv bv cS cY fS fY n yk yv x y z s.heap.size zn hn hMV.2.2.1 hMV.2.2.2.1, ⟨rfl, rfl, hPc, (K_mem hK hTM).sub [0, 8] rfl, bl_Dsub hD [0, 1, 9] (by decide) rfl⟩, fun o t hQ => ?_, fun q hq => bl_A hwc q hq⟩
  obtain ⟨⟨r, u9, rfl, hpost, hB⟩, hz, hkp⟩ := hQ
  obtain ⟨fY9, rn9, kd9, nu9, tv9⟩ := u9
  try dsimp only at hpost hB
  obtain ⟨hP1, hK1, hD1⟩ := hB
  obtain ⟨q1, q2, q3⟩ := hpost
  have hJ := bl_gen (F' := [(zo14irriiiiiirriirrrrlriiii m0 th aS aI im ac sp en wg op aB aT se dn aG aO aN aD bv aY rn9 kd9 nu9 tv9), (zaI aS cS 901 fS), (zaI aI cI 901 fI), (zaI aB cB 6 fB), (zaI aT cT 64 fT), (zaI aG cG 9 fG), (zaL aO cO 36 fO), (zaL aN cN 36 fN), (zaI aD cD 36 fD), (zaI aY cY 20 fY9)]) hP hD [0, 1, 9] rfl hkp hP1 hD1 [some 0, some 1, none, none, none, none, none, none, none, some 2] [0, 1, 9] rfl (Or.inl rfl) rfl
  exact ⟨⟨r, (im, (n, wk, kb, mi, sn, yk, yv, yc, hl, tp, tc, hC, ee), kvm, acT n yk x y), rfl, ⟨q1, rfl⟩, _, (fun M9 k9 => k9 aS aI aB aT aG aO aN aD aY th ac sp en wg op se dn (rn9) (kd9) (nu9) (tv9) bv cS cI cB cT cG cO cN cD cY fS fI fB fT fG fO fN fD (fY9) rfl hJ.1 ⟨hJ.2.1, fun _ _ _ => trivial⟩ hTM ⟨(show MOK fS n wk kb hl tp from hMS), (show MH fS hl tp tc hC from hMH), (show MV fS n mi sn yk yv yc ee from hMV)⟩ ((show im = 0 ∨ (MOK fI (kvm.1) (kvm.2.1) (kvm.2.2.1) (kvm.2.2.2.2.2.2.2.2.1) (kvm.2.2.2.2.2.2.2.2.2.1) ∧ MH fI (kvm.2.2.2.2.2.2.2.2.1) (kvm.2.2.2.2.2.2.2.2.2.1) (kvm.2.2.2.2.2.2.2.2.2.2.1) (kvm.2.2.2.2.2.2.2.2.2.2.2.1) ∧ MV fI (kvm.1) (kvm.2.2.2.1) (kvm.2.2.2.2.1) (kvm.2.2.2.2.2.1) (kvm.2.2.2.2.2.2.1) (kvm.2.2.2.2.2.2.2.1) (kvm.2.2.2.2.2.2.2.2.2.2.2.2)) from hMI)) (⟨Nat.le_trans acT_le (by omega), q2, q3⟩)), hJ.2, rfl⟩, hz, fun q h1 h2 => hkp q h1 (fun h => h2 (bl_A hwc _ h))⟩

set_option maxHeartbeats 4000000 in
set_option maxRecDepth 100000 in
theorem v_trace (l : Launch) (dC : Nat → ClassId) (dI : Nat → Nat → Nat) (sK sV : Nat → Nat) (im : Int32) (vm kvm : VS) (tm : List Nat) (T : List (ClassId × FieldType)) (m0 : Nat) (M : va_W) (x : Int32) (sz : Nat) : Met l yX12_trace wsX12_trace ({ frames := 1, cells := 0, slots := 0, locals := 22 } : Room) (va_Pc [.ref m0, .int x] (fun U => U.heap.size = sz ∧ MI dC dI im vm kvm tm T m0 M U.heap ∧ va_K (dC, dI) vwCl T U ∧ Gs sK sV (va_A M sz) U)) (va_Qi (fun (r : Int32) (u : Int32 × VS × VS × List Nat) => r = trR tm x ∧ u = (im, vm, kvm, tm)) (fun (u : Int32 × VS × VS × List Nat) (t : State) => ∃ M1 : va_W, MI dC dI u.1 u.2.1 u.2.2.1 u.2.2.2 T m0 M1 t.heap ∧ va_D (va_A M sz) M1 ∧ M1.map (fun c => c.1) = M.map (fun c => c.1)) (va_A M sz)) 0 0 (va_A M sz) := by
  obtain ⟨n, wk, kb, mi, sn, yk, yv, yc, hl, tp, tc, hC, ee⟩ := vm
  refine met_wrap (fun args s hPc => ?_)
  obtain ⟨rfl, rfl, hMM, hK, hE⟩ := hPc
  have hMM0 := hMM
  refine hMM _ (fun aS aI aB aT aG aO aN aD aY th ac sp en wg op se dn rn kd nu tv bv cS cI cB cT cG cO cN cD cY fS fI fB fT fG fO fN fD fY hM hP hD hTM hMS hMI hrn => ?_)
  have hMV : MV fS n mi sn yk yv yc ee := hMS.2.2
  have hMH : MH fS hl tp tc hC := hMS.2.1
  have hMS : MOK fS n wk kb hl tp := hMS.1
  obtain ⟨hn, zn, h5, z1, hw6, zw, hk12, zk, zb, ht, zt, hHd⟩ := id hMS
  obtain ⟨hrq, rfl, hYm⟩ := hrn
  subst hM
  have hP : va_P (dC, dI) vwCl ([(zo14irriiiiiirriirrrrlriiii m0 th aS aI im ac sp en wg op aB aT se dn aG aO aN aD bv aY (nI tm.length) kd nu tv), (zaI aS cS 901 fS), (zaI aI cI 901 fI), (zaI aB cB 6 fB), (zaI aT cT 64 fT), (zaI aG cG 9 fG), (zaL aO cO 36 fO), (zaL aN cN 36 fN), (zaI aD cD 36 fD), (zaI aY cY 20 fY)] ++ []) s.heap := hP
  have hD : va_D (fun _ => True) ([(zo14irriiiiiirriirrrrlriiii m0 th aS aI im ac sp en wg op aB aT se dn aG aO aN aD bv aY (nI tm.length) kd nu tv), (zaI aS cS 901 fS), (zaI aI cI 901 fI), (zaI aB cB 6 fB), (zaI aT cT 64 fT), (zaI aG cG 9 fG), (zaL aO cO 36 fO), (zaL aN cN 36 fN), (zaI aD cD 36 fD), (zaI aY cY 20 fY)] ++ []) := hD
  have hwc := bl_mem (G := [(zo14irriiiiiirriirrrrlriiii m0 th aS aI im ac sp en wg op aB aT se dn aG aO aN aD bv aY (nI tm.length) kd nu tv), (zaI aS cS 901 fS), (zaI aI cI 901 fI), (zaI aB cB 6 fB), (zaI aT cT 64 fT), (zaI aG cG 9 fG), (zaL aO cO 36 fO), (zaL aN cN 36 fN), (zaI aD cD 36 fD), (zaI aY cY 20 fY)]) (F := [(zo14irriiiiiirriirrrrlriiii m0 th aS aI im ac sp en wg op aB aT se dn aG aO aN aD bv aY (nI tm.length) kd nu tv), (zaI aY cY 20 fY)]) (T := []) [0, 9] rfl
  have hPc := bl_sub (F := [(zo14irriiiiiirriirrrrlriiii m0 th aS aI im ac sp en wg op aB aT se dn aG aO aN aD bv aY (nI tm.length) kd nu tv), (zaI aY cY 20 fY)]) hP [0, 9] rfl
  refine ⟨_, _, _, c_mTrace l dC dI m0 aS aI aB aT aG aO aN aD aY th im ac sp en wg op se dn (nI tm.length) kd nu tv bv cY fY tm x (by omega) hYm, ⟨rfl, hPc, (K_mem hK hTM).sub [8] rfl⟩, fun o t hQ => ?_, fun q hq => hq.elim⟩
  obtain ⟨r, rfl, hpost, hh⟩ := hQ
  exact ⟨⟨r, (im, (n, wk, kb, mi, sn, yk, yv, yc, hl, tp, tc, hC, ee), kvm, tm), rfl, ⟨hpost, rfl⟩, _, by rw [hh]; exact hMM0, ⟨hD.1, fun k q hq => Or.inl ⟨k, q.2, hq⟩⟩, rfl⟩, by rw [hh]; exact Nat.le_refl _, fun q _ _ => by rw [hh]⟩

set_option maxHeartbeats 4000000 in
set_option maxRecDepth 100000 in
theorem v_image (l : Launch) (dC : Nat → ClassId) (dI : Nat → Nat → Nat) (sK sV : Nat → Nat) (im : Int32) (vm kvm : VS) (tm : List Nat) (T : List (ClassId × FieldType)) (m0 : Nat) (M : va_W)  (sz : Nat) : Met l yX12_image wsX12_image ({ frames := 0, cells := 0, slots := 0, locals := 0 } : Room) (va_Pc [.ref m0] (fun U => U.heap.size = sz ∧ MI dC dI im vm kvm tm T m0 M U.heap ∧ va_K (dC, dI) vwCl T U ∧ Gs sK sV (va_A M sz) U)) (va_Qi (fun (r : Int32) (u : Int32 × VS × VS × List Nat) => r = nI vm.1 ∧ u = (1, vm, vm, tm)) (fun (u : Int32 × VS × VS × List Nat) (t : State) => ∃ M1 : va_W, MI dC dI u.1 u.2.1 u.2.2.1 u.2.2.2 T m0 M1 t.heap ∧ va_D (va_A M sz) M1 ∧ M1.map (fun c => c.1) = M.map (fun c => c.1)) (va_A M sz)) 0 0 (va_A M sz) := by
  obtain ⟨n, wk, kb, mi, sn, yk, yv, yc, hl, tp, tc, hC, ee⟩ := vm
  refine met_wrap (fun args s hPc => ?_)
  obtain ⟨rfl, rfl, hMM, hK, hE⟩ := hPc
  have hMM0 := hMM
  refine hMM _ (fun aS aI aB aT aG aO aN aD aY th ac sp en wg op se dn rn kd nu tv bv cS cI cB cT cG cO cN cD cY fS fI fB fT fG fO fN fD fY hM hP hD hTM hMS hMI hrn => ?_)
  have hMV : MV fS n mi sn yk yv yc ee := hMS.2.2
  have hMH : MH fS hl tp tc hC := hMS.2.1
  have hMS : MOK fS n wk kb hl tp := hMS.1
  obtain ⟨hn, zn, h5, z1, hw6, zw, hk12, zk, zb, ht, zt, hHd⟩ := id hMS
  obtain ⟨hrq, rfl, hYm⟩ := hrn
  subst hM
  have hP : va_P (dC, dI) vwCl ([(zo14irriiiiiirriirrrrlriiii m0 th aS aI im ac sp en wg op aB aT se dn aG aO aN aD bv aY (nI tm.length) kd nu tv), (zaI aS cS 901 fS), (zaI aI cI 901 fI), (zaI aB cB 6 fB), (zaI aT cT 64 fT), (zaI aG cG 9 fG), (zaL aO cO 36 fO), (zaL aN cN 36 fN), (zaI aD cD 36 fD), (zaI aY cY 20 fY)] ++ []) s.heap := hP
  have hD : va_D (fun _ => True) ([(zo14irriiiiiirriirrrrlriiii m0 th aS aI im ac sp en wg op aB aT se dn aG aO aN aD bv aY (nI tm.length) kd nu tv), (zaI aS cS 901 fS), (zaI aI cI 901 fI), (zaI aB cB 6 fB), (zaI aT cT 64 fT), (zaI aG cG 9 fG), (zaL aO cO 36 fO), (zaL aN cN 36 fN), (zaI aD cD 36 fD), (zaI aY cY 20 fY)] ++ []) := hD
  have hwc := bl_mem (G := [(zo14irriiiiiirriirrrrlriiii m0 th aS aI im ac sp en wg op aB aT se dn aG aO aN aD bv aY (nI tm.length) kd nu tv), (zaI aS cS 901 fS), (zaI aI cI 901 fI), (zaI aB cB 6 fB), (zaI aT cT 64 fT), (zaI aG cG 9 fG), (zaL aO cO 36 fO), (zaL aN cN 36 fN), (zaI aD cD 36 fD), (zaI aY cY 20 fY)]) (F := [(zo14irriiiiiirriirrrrlriiii m0 th aS aI im ac sp en wg op aB aT se dn aG aO aN aD bv aY (nI tm.length) kd nu tv), (zaI aS cS 901 fS), (zaI aI cI 901 fI)]) (T := []) [0, 1, 2] rfl
  have hPc := bl_sub (F := [(zo14irriiiiiirriirrrrlriiii m0 th aS aI im ac sp en wg op aB aT se dn aG aO aN aD bv aY (nI tm.length) kd nu tv), (zaI aS cS 901 fS), (zaI aI cI 901 fI)]) hP [0, 1, 2] rfl
  refine ⟨_, _, _, c_mImage l dC dI m0 aS aI aB aT aG aO aN aD aY th im ac sp en wg op se dn (nI tm.length) kd nu tv bv cS cI fS fI s.heap.size , ⟨rfl, rfl, hPc, (K_mem hK hTM).sub [0, 1] rfl, bl_Dsub hD [0, 1, 2] (by decide) rfl⟩, fun o t hQ => ?_, fun q hq => bl_A hwc q hq⟩
  obtain ⟨⟨r, u9, rfl, hpost, hB⟩, hz, hkp⟩ := hQ
  obtain ⟨fI9, im9⟩ := u9
  try dsimp only at hpost hB
  obtain ⟨hP1, hK1, hD1⟩ := hB
  obtain ⟨er, e1, q2⟩ := hpost
  obtain rfl := e1
  have hJ := bl_gen (F' := [(zo14irriiiiiirriirrrrlriiii m0 th aS aI 1 ac sp en wg op aB aT se dn aG aO aN aD bv aY (nI tm.length) kd nu tv), (zaI aS cS 901 fS), (zaI aI cI 901 fI9), (zaI aB cB 6 fB), (zaI aT cT 64 fT), (zaI aG cG 9 fG), (zaL aO cO 36 fO), (zaL aN cN 36 fN), (zaI aD cD 36 fD), (zaI aY cY 20 fY)]) hP hD [0, 1, 2] rfl hkp hP1 hD1 [some 0, some 1, some 2, none, none, none, none, none, none, none] [0, 1, 2] rfl (Or.inl rfl) rfl
  exact ⟨⟨r, (1, (n, wk, kb, mi, sn, yk, yv, yc, hl, tp, tc, hC, ee), (n, wk, kb, mi, sn, yk, yv, yc, hl, tp, tc, hC, ee), tm), rfl, ⟨er.trans zn, rfl⟩, _, (fun M9 k9 => k9 aS aI aB aT aG aO aN aD aY th ac sp en wg op se dn ((nI tm.length)) kd nu tv bv cS cI cB cT cG cO cN cD cY fS (fI9) fB fT fG fO fN fD fY rfl hJ.1 ⟨hJ.2.1, fun _ _ _ => trivial⟩ hTM ⟨(show MOK fS n wk kb hl tp from hMS), (show MH fS hl tp tc hC from hMH), (show MV fS n mi sn yk yv yc ee from hMV)⟩ ((show 1 = 0 ∨ (MOK fI9 n wk kb hl tp ∧ MH fI9 hl tp tc hC ∧ MV fI9 n mi sn yk yv yc ee) from Or.inr ⟨MOK_rest hMS (fun i hi => q2 i (by omega)), MH_of hMH h5 ht (fun i hi => q2 i (by omega)), MV_of hMV (fun i hi => q2 i (by omega))⟩)) (⟨hrq, rfl, hYm⟩)), hJ.2, rfl⟩, hz, fun q h1 h2 => hkp q h1 (fun h => h2 (bl_A hwc _ h))⟩

set_option maxHeartbeats 4000000 in
set_option maxRecDepth 100000 in
theorem v_undo (l : Launch) (dC : Nat → ClassId) (dI : Nat → Nat → Nat) (sK sV : Nat → Nat) (im : Int32) (vm kvm : VS) (tm : List Nat) (T : List (ClassId × FieldType)) (m0 : Nat) (M : va_W)  (sz : Nat) : Met l yX12_undo wsX12_undo ({ frames := 0, cells := 0, slots := 0, locals := 0 } : Room) (va_Pc [.ref m0] (fun U => U.heap.size = sz ∧ MI dC dI im vm kvm tm T m0 M U.heap ∧ va_K (dC, dI) vwCl T U ∧ Gs sK sV (va_A M sz) U)) (va_Qi (fun (r : Int32) (u : Int32 × VS × VS × List Nat) => (im = 0 ∧ r = -3 ∧ u = (im, vm, kvm, tm)) ∨ (¬ im = 0 ∧ r = nI kvm.1 ∧ u = (im, kvm, kvm, tm))) (fun (u : Int32 × VS × VS × List Nat) (t : State) => ∃ M1 : va_W, MI dC dI u.1 u.2.1 u.2.2.1 u.2.2.2 T m0 M1 t.heap ∧ va_D (va_A M sz) M1 ∧ M1.map (fun c => c.1) = M.map (fun c => c.1)) (va_A M sz)) 0 0 (va_A M sz) := by
  obtain ⟨n, wk, kb, mi, sn, yk, yv, yc, hl, tp, tc, hC, ee⟩ := vm
  refine met_wrap (fun args s hPc => ?_)
  obtain ⟨rfl, rfl, hMM, hK, hE⟩ := hPc
  have hMM0 := hMM
  refine hMM _ (fun aS aI aB aT aG aO aN aD aY th ac sp en wg op se dn rn kd nu tv bv cS cI cB cT cG cO cN cD cY fS fI fB fT fG fO fN fD fY hM hP hD hTM hMS hMI hrn => ?_)
  have hMV : MV fS n mi sn yk yv yc ee := hMS.2.2
  have hMH : MH fS hl tp tc hC := hMS.2.1
  have hMS : MOK fS n wk kb hl tp := hMS.1
  obtain ⟨hn, zn, h5, z1, hw6, zw, hk12, zk, zb, ht, zt, hHd⟩ := id hMS
  obtain ⟨hrq, rfl, hYm⟩ := hrn
  subst hM
  have hP : va_P (dC, dI) vwCl ([(zo14irriiiiiirriirrrrlriiii m0 th aS aI im ac sp en wg op aB aT se dn aG aO aN aD bv aY (nI tm.length) kd nu tv), (zaI aS cS 901 fS), (zaI aI cI 901 fI), (zaI aB cB 6 fB), (zaI aT cT 64 fT), (zaI aG cG 9 fG), (zaL aO cO 36 fO), (zaL aN cN 36 fN), (zaI aD cD 36 fD), (zaI aY cY 20 fY)] ++ []) s.heap := hP
  have hD : va_D (fun _ => True) ([(zo14irriiiiiirriirrrrlriiii m0 th aS aI im ac sp en wg op aB aT se dn aG aO aN aD bv aY (nI tm.length) kd nu tv), (zaI aS cS 901 fS), (zaI aI cI 901 fI), (zaI aB cB 6 fB), (zaI aT cT 64 fT), (zaI aG cG 9 fG), (zaL aO cO 36 fO), (zaL aN cN 36 fN), (zaI aD cD 36 fD), (zaI aY cY 20 fY)] ++ []) := hD
  have hwc := bl_mem (G := [(zo14irriiiiiirriirrrrlriiii m0 th aS aI im ac sp en wg op aB aT se dn aG aO aN aD bv aY (nI tm.length) kd nu tv), (zaI aS cS 901 fS), (zaI aI cI 901 fI), (zaI aB cB 6 fB), (zaI aT cT 64 fT), (zaI aG cG 9 fG), (zaL aO cO 36 fO), (zaL aN cN 36 fN), (zaI aD cD 36 fD), (zaI aY cY 20 fY)]) (F := [(zo14irriiiiiirriirrrrlriiii m0 th aS aI im ac sp en wg op aB aT se dn aG aO aN aD bv aY (nI tm.length) kd nu tv), (zaI aS cS 901 fS), (zaI aI cI 901 fI)]) (T := []) [0, 1, 2] rfl
  have hPc := bl_sub (F := [(zo14irriiiiiirriirrrrlriiii m0 th aS aI im ac sp en wg op aB aT se dn aG aO aN aD bv aY (nI tm.length) kd nu tv), (zaI aS cS 901 fS), (zaI aI cI 901 fI)]) hP [0, 1, 2] rfl
  refine ⟨_, _, _, c_mUndo l dC dI m0 aS aI aB aT aG aO aN aD aY th im ac sp en wg op se dn (nI tm.length) kd nu tv bv cS cI fS fI s.heap.size , ⟨rfl, rfl, hPc, (K_mem hK hTM).sub [0, 1] rfl, bl_Dsub hD [0, 1, 2] (by decide) rfl⟩, fun o t hQ => ?_, fun q hq => bl_A hwc q hq⟩
  obtain ⟨⟨r, u9, rfl, hpost, hB⟩, hz, hkp⟩ := hQ
  obtain ⟨fS9, rfl⟩ : ∃ z9, z9 = u9 := ⟨_, rfl⟩
  try dsimp only at hpost hB
  obtain ⟨hP1, hK1, hD1⟩ := hB
  rcases hpost with ⟨him, er, e1⟩ | ⟨him, er, q2⟩
  · skip
    obtain rfl := e1.symm
    have hJ := bl_gen (F' := [(zo14irriiiiiirriirrrrlriiii m0 th aS aI im ac sp en wg op aB aT se dn aG aO aN aD bv aY (nI tm.length) kd nu tv), (zaI aS cS 901 fS), (zaI aI cI 901 fI), (zaI aB cB 6 fB), (zaI aT cT 64 fT), (zaI aG cG 9 fG), (zaL aO cO 36 fO), (zaL aN cN 36 fN), (zaI aD cD 36 fD), (zaI aY cY 20 fY)]) hP hD [0, 1, 2] rfl hkp hP1 hD1 [some 0, some 1, some 2, none, none, none, none, none, none, none] [0, 1, 2] rfl (Or.inl rfl) rfl
    exact ⟨⟨r, (im, (n, wk, kb, mi, sn, yk, yv, yc, hl, tp, tc, hC, ee), kvm, tm), rfl, Or.inl ⟨him, er, rfl⟩, _, (fun M9 k9 => k9 aS aI aB aT aG aO aN aD aY th ac sp en wg op se dn ((nI tm.length)) kd nu tv bv cS cI cB cT cG cO cN cD cY (fS) fI fB fT fG fO fN fD fY rfl hJ.1 ⟨hJ.2.1, fun _ _ _ => trivial⟩ hTM ⟨(show MOK fS n wk kb hl tp from hMS), (show MH fS hl tp tc hC from hMH), (show MV fS n mi sn yk yv yc ee from hMV)⟩ ((show im = 0 ∨ (MOK fI (kvm.1) (kvm.2.1) (kvm.2.2.1) (kvm.2.2.2.2.2.2.2.2.1) (kvm.2.2.2.2.2.2.2.2.2.1) ∧ MH fI (kvm.2.2.2.2.2.2.2.2.1) (kvm.2.2.2.2.2.2.2.2.2.1) (kvm.2.2.2.2.2.2.2.2.2.2.1) (kvm.2.2.2.2.2.2.2.2.2.2.2.1) ∧ MV fI (kvm.1) (kvm.2.2.2.1) (kvm.2.2.2.2.1) (kvm.2.2.2.2.2.1) (kvm.2.2.2.2.2.2.1) (kvm.2.2.2.2.2.2.2.1) (kvm.2.2.2.2.2.2.2.2.2.2.2.2)) from hMI)) (⟨hrq, rfl, hYm⟩)), hJ.2, rfl⟩, hz, fun q h1 h2 => hkp q h1 (fun h => h2 (bl_A hwc _ h))⟩
  · skip
    obtain ⟨hI9, hH9, hV9⟩ := hMI.resolve_left him
    have hn9 := (MOK_n hI9).2
    have hb9 := MOK_b hI9
    have hJ := bl_gen (F' := [(zo14irriiiiiirriirrrrlriiii m0 th aS aI im ac sp en wg op aB aT se dn aG aO aN aD bv aY (nI tm.length) kd nu tv), (zaI aS cS 901 fS9), (zaI aI cI 901 fI), (zaI aB cB 6 fB), (zaI aT cT 64 fT), (zaI aG cG 9 fG), (zaL aO cO 36 fO), (zaL aN cN 36 fN), (zaI aD cD 36 fD), (zaI aY cY 20 fY)]) hP hD [0, 1, 2] rfl hkp hP1 hD1 [some 0, some 1, some 2, none, none, none, none, none, none, none] [0, 1, 2] rfl (Or.inl rfl) rfl
    exact ⟨⟨r, (im, kvm, kvm, tm), rfl, Or.inr ⟨him, er.trans (MOK_n hI9).1, rfl⟩, _, (fun M9 k9 => k9 aS aI aB aT aG aO aN aD aY th ac sp en wg op se dn ((nI tm.length)) kd nu tv bv cS cI cB cT cG cO cN cD cY (fS9) fI fB fT fG fO fN fD fY rfl hJ.1 ⟨hJ.2.1, fun _ _ _ => trivial⟩ hTM ⟨(show MOK fS9 (kvm.1) (kvm.2.1) (kvm.2.2.1) (kvm.2.2.2.2.2.2.2.2.1) (kvm.2.2.2.2.2.2.2.2.2.1) from MOK_rest hI9 (fun i hi => q2 i (by omega))), (show MH fS9 (kvm.2.2.2.2.2.2.2.2.1) (kvm.2.2.2.2.2.2.2.2.2.1) (kvm.2.2.2.2.2.2.2.2.2.2.1) (kvm.2.2.2.2.2.2.2.2.2.2.2.1) from MH_of hH9 hb9.1 hb9.2 (fun i hi => q2 i (by omega))), (show MV fS9 (kvm.1) (kvm.2.2.2.1) (kvm.2.2.2.2.1) (kvm.2.2.2.2.2.1) (kvm.2.2.2.2.2.2.1) (kvm.2.2.2.2.2.2.2.1) (kvm.2.2.2.2.2.2.2.2.2.2.2.2) from MV_of hV9 (fun i hi => q2 i (by omega)))⟩ ((show im = 0 ∨ (MOK fI (kvm.1) (kvm.2.1) (kvm.2.2.1) (kvm.2.2.2.2.2.2.2.2.1) (kvm.2.2.2.2.2.2.2.2.2.1) ∧ MH fI (kvm.2.2.2.2.2.2.2.2.1) (kvm.2.2.2.2.2.2.2.2.2.1) (kvm.2.2.2.2.2.2.2.2.2.2.1) (kvm.2.2.2.2.2.2.2.2.2.2.2.1) ∧ MV fI (kvm.1) (kvm.2.2.2.1) (kvm.2.2.2.2.1) (kvm.2.2.2.2.2.1) (kvm.2.2.2.2.2.2.1) (kvm.2.2.2.2.2.2.2.1) (kvm.2.2.2.2.2.2.2.2.2.2.2.2)) from hMI)) (⟨hrq, rfl, hYm⟩)), hJ.2, rfl⟩, hz, fun q h1 h2 => hkp q h1 (fun h => h2 (bl_A hwc _ h))⟩
end mg19a
section mg19a

section
variable {dC : Nat → ClassId} {dI : Nat → Nat → Nat} {ad : Nat → Nat} {bS : Nat} {Y : Nat → Prop} {s : State} {A : Nat → Prop} {h0 m0 : Nat}
theorem FzX.keptY {ws X : va_W} {H H1 : Heap} (h : FzX dC dI ws X Y H) (hk : ∀ q : Nat, q < H.size → ¬ Y q → H1[q]? = H[q]?) : FzX dC dI ws X Y H1 := ⟨h.1.kept (fun k q hq => hk q.1 (h.1 k q hq).lt (h.2 q (List.mem_of_getElem? hq)).2), h.2⟩
theorem HsX.keptY {n : Nat} {hx ha : Nat → Nat} {hk' hv hc : Nat → Int32} {X : va_W} {H H1 : Heap} (h : HsX dC dI n hx ha hk' hv hc X Y H) (hk : ∀ q : Nat, q < H.size → ¬ Y q → H1[q]? = H[q]?) : HsX dC dI n hx ha hk' hv hc X Y H1 := fun i hi => ⟨(h i hi).1, (h i hi).2.keptY hk⟩
set_option maxHeartbeats 4000000 in
set_option maxRecDepth 100000 in
theorem XI.kept {ik : Int32} {vs kvs : VS} {tl : List Nat} {T : List (ClassId × FieldType)} {X : va_W} {H H1 : Heap} (h : XI dC dI ad bS Y ik vs kvs tl T h0 X H) (hX : ∀ c ∈ X, ¬ Y c.1) (hk : ∀ q : Nat, q < H.size → ¬ Y q → H1[q]? = H[q]?) : XI dC dI ad bS Y ik vs kvs tl T h0 X H1 := fun M9 k9 => h M9 (fun sc kp bl go ch bo aTp ts aHl nh ee mi sn aHs n aWk wz aBk bz aFc cTp fTp cHs fHs cWk fWk cBk fBk cFc fFc kTp kts kHl knh kee kmi ksn kHs kn kWk kwz kBk kbz kFc kcTp kfTp kcHs kfHs kcWk kfWk kcBk kfBk kcFc kfFc esg ecl eW eA eE eC cdd etv szz att em ceW feW ceA feA ceE feE ceC feC gR gO lk gS cR fR cO fO i0 scl ft fr dr tO hO cD fD cTO rt cT ft0 ft1 ft2 cHO rh cH g0 g1 g2 g3 g4 g5 g6 g7 sg cl bW bA bE bC hcd tpv hsz hat nmb cbW fbW cbA fbA cbE fbE cbC fbC ksg kcl kbW kbA kbE kbC khcd ktpv khsz khat knmb kcbW kfbW kcbA kfbA kcbE kfbE kcbC kfbC yi ya yk yv yc kyi kya kyk kyv kyc tc ktc hC khC LB w1_ w2_ hP w4_ w5_ w6_ w7_ w8_ w9_ w10_ w11_ w12_ w13_ hZ hZk hHs hHk hvs hkv => k9 sc kp bl go ch bo aTp ts aHl nh ee mi sn aHs n aWk wz aBk bz aFc cTp fTp cHs fHs cWk fWk cBk fBk cFc fFc kTp kts kHl knh kee kmi ksn kHs kn kWk kwz kBk kbz kFc kcTp kfTp kcHs kfHs kcWk kfWk kcBk kfBk kcFc kfFc esg ecl eW eA eE eC cdd etv szz att em ceW feW ceA feA ceE feE ceC feC gR gO lk gS cR fR cO fO i0 scl ft fr dr tO hO cD fD cTO rt cT ft0 ft1 ft2 cHO rh cH g0 g1 g2 g3 g4 g5 g6 g7 sg cl bW bA bE bC hcd tpv hsz hat nmb cbW fbW cbA fbA cbE fbE cbC fbC ksg kcl kbW kbA kbE kbC khcd ktpv khsz khat knmb kcbW kfbW kcbA kfbA kcbE kfbE kcbC kfbC yi ya yk yv yc kyi kya kyk kyv kyc tc ktc hC khC LB w1_ w2_ (hP.kept (fun k q hq => hk q.1 (hP k q hq).lt (hX q (List.mem_of_getElem? hq)))) w4_ w5_ w6_ w7_ w8_ w9_ w10_ w11_ w12_ w13_ (hZ.keptY hk) (hZk.keptY hk) (hHs.keptY hk) (hHk.keptY hk) hvs hkv)
set_option maxHeartbeats 4000000 in
set_option maxRecDepth 100000 in
theorem XI.recv {ik : Int32} {vs kvs : VS} {tl : List Nat} {T : List (ClassId × FieldType)} {X : va_W} {H : Heap} (h : XI dC dI ad bS Y ik vs kvs tl T h0 X H) (hK : va_K (dC, dI) vwCl T s) : ∃ cell : Cell, H[h0]? = some cell ∧ cell.vm.isStatics = false ∧ s.vm.findClass RX11 = some cell.cls := h _ (fun sc kp bl go ch bo aTp ts aHl nh ee mi sn aHs n aWk wz aBk bz aFc cTp fTp cHs fHs cWk fWk cBk fBk cFc fFc kTp kts kHl knh kee kmi ksn kHs kn kWk kwz kBk kbz kFc kcTp kfTp kcHs kfHs kcWk kfWk kcBk kfBk kcFc kfFc esg ecl eW eA eE eC cdd etv szz att em ceW feW ceA feA ceE feE ceC feC gR gO lk gS cR fR cO fO i0 scl ft fr dr tO hO cD fD cTO rt cT ft0 ft1 ft2 cHO rh cH g0 g1 g2 g3 g4 g5 g6 g7 sg cl bW bA bE bC hcd tpv hsz hat nmb cbW fbW cbA fbA cbE fbE cbC fbC ksg kcl kbW kbA kbE kbC khcd ktpv khsz khat knmb kcbW kfbW kcbA kfbA kcbE kfbE kcbC kfbC yi ya yk yv yc kyi kya kyk kyv kyc tc ktc hC khC LB hX w2_ hP w4_ w5_ w6_ w7_ w8_ w9_ w10_ w11_ w12_ w13_ hZ hZk hHs hHk hvs hkv => by
  subst hX
  exact va_recv (K_mem hK w5_) hP (ci := 13) (q := (RX11, TX11, 7)) (q0 := 0) rfl rfl)
set_option maxHeartbeats 4000000 in
set_option maxRecDepth 100000 in
theorem MI.kept {im : Int32} {vm kvm : VS} {tm : List Nat} {T : List (ClassId × FieldType)} {M : va_W} {H H1 : Heap} (h : MI dC dI im vm kvm tm T m0 M H) (hk : ∀ c ∈ M, H1[c.1]? = H[c.1]?) : MI dC dI im vm kvm tm T m0 M H1 := fun M9 k9 => h M9 (fun aS aI aB aT aG aO aN aD aY th ac sp en wg op se dn rn kd nu tv bv cS cI cB cT cG cO cN cD cY fS fI fB fT fG fO fN fD fY w1_ hP w3_ w4_ w5_ w6_ w7_ => k9 aS aI aB aT aG aO aN aD aY th ac sp en wg op se dn rn kd nu tv bv cS cI cB cT cG cO cN cD cY fS fI fB fT fG fO fN fD fY w1_ (hP.kept (fun k q hq => hk q (List.mem_of_getElem? hq))) w3_ w4_ w5_ w6_ w7_)
set_option maxHeartbeats 4000000 in
set_option maxRecDepth 100000 in
theorem MI.recv {im : Int32} {vm kvm : VS} {tm : List Nat} {T : List (ClassId × FieldType)} {M : va_W} {H : Heap} (h : MI dC dI im vm kvm tm T m0 M H) (hK : va_K (dC, dI) vwCl T s) : ∃ cell : Cell, H[m0]? = some cell ∧ cell.vm.isStatics = false ∧ s.vm.findClass RX12 = some cell.cls := h _ (fun aS aI aB aT aG aO aN aD aY th ac sp en wg op se dn rn kd nu tv bv cS cI cB cT cG cO cN cD cY fS fI fB fT fG fO fN fD fY hM hP w3_ w4_ w5_ w6_ w7_ => by
  subst hM
  exact va_recv (K_mem hK w4_) hP (ci := 14) (q := (RX12, TX12, 23)) (q0 := 0) rfl rfl)
/-- both objects, side by side -/
def Lst (dC : Nat → ClassId) (dI : Nat → Nat → Nat) (ad : Nat → Nat) (bS : Nat) (Y : Nat → Prop) (s : State) (A : Nat → Prop) (h0 m0 : Nat) (ik : Int32) (vs kvs : VS) (tl : List Nat) (im : Int32) (vm kvm : VS) (tm : List Nat) (X : va_W) (T : List (ClassId × FieldType)) (M : va_W) (T2 : List (ClassId × FieldType)) (H : Heap) : Prop := XI dC dI ad bS Y ik vs kvs tl T h0 X H ∧ MI dC dI im vm kvm tm T2 m0 M H ∧ va_K (dC, dI) vwCl T s ∧ va_K (dC, dI) vwCl T2 s ∧ va_D A X ∧ va_D A M ∧ (∀ c ∈ X, ¬ Y c.1) ∧ (∀ c ∈ M, Y c.1) ∧ ∀ q, Y q → q < H.size
theorem K_new {T T1 : List (ClassId × FieldType)} {t : State} (hK : va_K (dC, dI) vwCl T s) (hvm : s.vm.Alike t.vm) (h : ∀ p ∈ T1, p ∈ T ∨ va_K (dC, dI) vwCl [p] t) : va_K (dC, dI) vwCl T1 s := ⟨hK.1, fun k q hq => by
  rcases h q (List.mem_of_getElem? hq) with h1 | h1
  · obtain ⟨i, hi⟩ := List.getElem?_of_mem h1
    exact hK.2 i q hi
  · exact (va_K.moved hvm.symm h1).2 0 q rfl⟩
theorem bl_in {X : va_W} {H : Heap} {locs : List Loc} (hD : va_D A X) (hS : va_S A s.heap H locs) (hA : ∀ q, s.heap.size ≤ q → A q) : ∀ q, va_A X H.size q → A q := by
  intro q h
  rcases h with ⟨k, e, hk⟩ | h
  · exact hD.2 k _ hk
  · exact hA q (Nat.le_trans hS.1 h)
variable {p : Program} {l : Launch} {e : Env} {R : Room} {m : MethodId} {args : Array Value} {below : List Frame} {meth : Method} {c : Code} {H : Heap} {locs : List Loc} {cells slots : Nat} {Q : State → Prop} {pc : Nat} {ls : Array Slot} {rest st0 : List Value} {a : Array Value} {mc ms : Nat} {ik im : Int32} {vs kvs vm kvm : VS} {tl tm : List Nat} {X M : va_W} {T T2 : List (ClassId × FieldType)}
theorem lx_i {post : Int32 → Int32 × VS × VS × List Nat → Prop} (hr : va_Run p l e R s m args below meth c H locs cells slots mc ms (F0 m pc ls st0) rest (va_Qi post (fun (u : Int32 × VS × VS × List Nat) (t : State) => ∃ (X1 : va_W) (T1 : List (ClassId × FieldType)), XI dC dI ad bS Y u.1 u.2.1 u.2.2.1 u.2.2.2 T1 h0 X1 t.heap ∧ va_D (va_A X H.size) X1 ∧ ∀ p ∈ T1, p ∈ T ∨ va_K (dC, dI) vwCl [p] t) (va_A X H.size) a) (va_A X H.size)) (hLS : Lst dC dI ad bS Y s A h0 m0 ik vs kvs tl im vm kvm tm X T M T2 H) (hS : va_S A s.heap H locs) (hA : ∀ q, s.heap.size ≤ q → A q)
    (kk : ∀ (r : Int32) (u : Int32 × VS × VS × List Nat) (H1 : Heap) (locs1 : List Loc) (X1 : va_W) (T1 : List (ClassId × FieldType)), post r u → Lst dC dI ad bS Y s A h0 m0 u.1 u.2.1 u.2.2.1 u.2.2.2 im vm kvm tm X1 T1 M T2 H1 → va_S A s.heap H1 locs1 → W p l e R s m args below meth c H1 locs1 (cells + mc) (slots + ms) Q (F0 m (pc + 3) ls (.int r :: rest))) : W p l e R s m args below meth c H locs cells slots Q (F0 m pc ls st0) := by
  obtain ⟨hXI, hMI, hK, hK2, hDX, hDM, hX, hM, hY⟩ := hLS
  have hin := bl_in hDX hS hA
  refine va_calli hr hS (fun q _ h => hin q h) hin (fun r u t H1 locs1 ht hvm hpost hB hz hk hS1 => ?_)
  obtain ⟨X1, T1, h1, h2, h3⟩ := hB
  rw [ht] at h1
  refine kk r u H1 locs1 X1 T1 hpost ⟨h1, hMI.kept (fun c hc => hk c.1 (hY c.1 (hM c hc)) (fun h => ?_)), K_new hK hvm h3, hK2, h2.weaken (fun k q _ h => hin q.1 h), hDM, fun c hc => ?_, hM, fun q hq => Nat.lt_of_lt_of_le (hY q hq) hz⟩ hS1
  · rcases h with ⟨k, e9, hk9⟩ | h
    · exact hX _ (List.mem_of_getElem? hk9) (hM c hc)
    · exact absurd (hY c.1 (hM c hc)) (Nat.not_lt.mpr h)
  · rcases D_mem h2 c hc with ⟨k, e9, hk9⟩ | h
    · exact hX (c.1, e9) (List.mem_of_getElem? hk9)
    · exact fun hy => absurd (hY c.1 hy) (Nat.not_lt.mpr h)
theorem lm_i {post : Int32 → Int32 × VS × VS × List Nat → Prop} (hr : va_Run p l e R s m args below meth c H locs cells slots mc ms (F0 m pc ls st0) rest (va_Qi post (fun (u : Int32 × VS × VS × List Nat) (t : State) => ∃ M1 : va_W, MI dC dI u.1 u.2.1 u.2.2.1 u.2.2.2 T2 m0 M1 t.heap ∧ va_D (va_A M H.size) M1 ∧ M1.map (fun c => c.1) = M.map (fun c => c.1)) (va_A M H.size) a) (va_A M H.size)) (hLS : Lst dC dI ad bS Y s A h0 m0 ik vs kvs tl im vm kvm tm X T M T2 H) (hS : va_S A s.heap H locs) (hA : ∀ q, s.heap.size ≤ q → A q)
    (kk : ∀ (r : Int32) (u : Int32 × VS × VS × List Nat) (H1 : Heap) (locs1 : List Loc) (M1 : va_W), post r u → Lst dC dI ad bS Y s A h0 m0 ik vs kvs tl u.1 u.2.1 u.2.2.1 u.2.2.2 X T M1 T2 H1 → va_S A s.heap H1 locs1 → W p l e R s m args below meth c H1 locs1 (cells + mc) (slots + ms) Q (F0 m (pc + 3) ls (.int r :: rest))) : W p l e R s m args below meth c H locs cells slots Q (F0 m pc ls st0) := by
  obtain ⟨hXI, hMI, hK, hK2, hDX, hDM, hX, hM, hY⟩ := hLS
  have hin := bl_in hDM hS hA
  refine va_calli hr hS (fun q _ h => hin q h) hin (fun r u t H1 locs1 ht hvm hpost hB hz hk hS1 => ?_)
  obtain ⟨M1, h1, h2, h3⟩ := hB
  rw [ht] at h1
  refine kk r u H1 locs1 M1 hpost ⟨hXI.kept hX (fun q hq hny => hk q hq (fun h => ?_)), h1, hK, hK2, hDX, h2.weaken (fun k q _ h => hin q.1 h), hX, fun c hc => ?_, fun q hq => Nat.lt_of_lt_of_le (hY q hq) hz⟩ hS1
  · rcases h with ⟨k, e9, hk9⟩ | h
    · exact hny (hM _ (List.mem_of_getElem? hk9))
    · exact absurd hq (Nat.not_lt.mpr h)
  · have hm : c.1 ∈ M1.map (fun c => c.1) := List.mem_map.mpr ⟨c, hc, rfl⟩
    rw [h3] at hm
    obtain ⟨d, hd, e9⟩ := List.mem_map.mp hm
    rw [← e9]
    exact hM d hd
theorem lx_l {post : Int64 → Int32 × VS × VS × List Nat → Prop} (hr : va_Run p l e R s m args below meth c H locs cells slots mc ms (F0 m pc ls st0) rest (va_Ql post (fun (u : Int32 × VS × VS × List Nat) (t : State) => ∃ (X1 : va_W) (T1 : List (ClassId × FieldType)), XI dC dI ad bS Y u.1 u.2.1 u.2.2.1 u.2.2.2 T1 h0 X1 t.heap ∧ va_D (va_A X H.size) X1 ∧ ∀ p ∈ T1, p ∈ T ∨ va_K (dC, dI) vwCl [p] t) (va_A X H.size) a) (va_A X H.size)) (hLS : Lst dC dI ad bS Y s A h0 m0 ik vs kvs tl im vm kvm tm X T M T2 H) (hS : va_S A s.heap H locs) (hA : ∀ q, s.heap.size ≤ q → A q)
    (kk : ∀ (r : Int64) (u : Int32 × VS × VS × List Nat) (H1 : Heap) (locs1 : List Loc) (X1 : va_W) (T1 : List (ClassId × FieldType)), post r u → Lst dC dI ad bS Y s A h0 m0 u.1 u.2.1 u.2.2.1 u.2.2.2 im vm kvm tm X1 T1 M T2 H1 → va_S A s.heap H1 locs1 → W p l e R s m args below meth c H1 locs1 (cells + mc) (slots + ms) Q (F0 m (pc + 3) ls (.long r :: rest))) : W p l e R s m args below meth c H locs cells slots Q (F0 m pc ls st0) := by
  obtain ⟨hXI, hMI, hK, hK2, hDX, hDM, hX, hM, hY⟩ := hLS
  have hin := bl_in hDX hS hA
  refine va_calll hr hS (fun q _ h => hin q h) hin (fun r u t H1 locs1 ht hvm hpost hB hz hk hS1 => ?_)
  obtain ⟨X1, T1, h1, h2, h3⟩ := hB
  rw [ht] at h1
  refine kk r u H1 locs1 X1 T1 hpost ⟨h1, hMI.kept (fun c hc => hk c.1 (hY c.1 (hM c hc)) (fun h => ?_)), K_new hK hvm h3, hK2, h2.weaken (fun k q _ h => hin q.1 h), hDM, fun c hc => ?_, hM, fun q hq => Nat.lt_of_lt_of_le (hY q hq) hz⟩ hS1
  · rcases h with ⟨k, e9, hk9⟩ | h
    · exact hX _ (List.mem_of_getElem? hk9) (hM c hc)
    · exact absurd (hY c.1 (hM c hc)) (Nat.not_lt.mpr h)
  · rcases D_mem h2 c hc with ⟨k, e9, hk9⟩ | h
    · exact hX (c.1, e9) (List.mem_of_getElem? hk9)
    · exact fun hy => absurd (hY c.1 hy) (Nat.not_lt.mpr h)
theorem lm_l {post : Int64 → Int32 × VS × VS × List Nat → Prop} (hr : va_Run p l e R s m args below meth c H locs cells slots mc ms (F0 m pc ls st0) rest (va_Ql post (fun (u : Int32 × VS × VS × List Nat) (t : State) => ∃ M1 : va_W, MI dC dI u.1 u.2.1 u.2.2.1 u.2.2.2 T2 m0 M1 t.heap ∧ va_D (va_A M H.size) M1 ∧ M1.map (fun c => c.1) = M.map (fun c => c.1)) (va_A M H.size) a) (va_A M H.size)) (hLS : Lst dC dI ad bS Y s A h0 m0 ik vs kvs tl im vm kvm tm X T M T2 H) (hS : va_S A s.heap H locs) (hA : ∀ q, s.heap.size ≤ q → A q)
    (kk : ∀ (r : Int64) (u : Int32 × VS × VS × List Nat) (H1 : Heap) (locs1 : List Loc) (M1 : va_W), post r u → Lst dC dI ad bS Y s A h0 m0 ik vs kvs tl u.1 u.2.1 u.2.2.1 u.2.2.2 X T M1 T2 H1 → va_S A s.heap H1 locs1 → W p l e R s m args below meth c H1 locs1 (cells + mc) (slots + ms) Q (F0 m (pc + 3) ls (.long r :: rest))) : W p l e R s m args below meth c H locs cells slots Q (F0 m pc ls st0) := by
  obtain ⟨hXI, hMI, hK, hK2, hDX, hDM, hX, hM, hY⟩ := hLS
  have hin := bl_in hDM hS hA
  refine va_calll hr hS (fun q _ h => hin q h) hin (fun r u t H1 locs1 ht hvm hpost hB hz hk hS1 => ?_)
  obtain ⟨M1, h1, h2, h3⟩ := hB
  rw [ht] at h1
  refine kk r u H1 locs1 M1 hpost ⟨hXI.kept hX (fun q hq hny => hk q hq (fun h => ?_)), h1, hK, hK2, hDX, h2.weaken (fun k q _ h => hin q.1 h), hX, fun c hc => ?_, fun q hq => Nat.lt_of_lt_of_le (hY q hq) hz⟩ hS1
  · rcases h with ⟨k, e9, hk9⟩ | h
    · exact hny (hM _ (List.mem_of_getElem? hk9))
    · exact absurd hq (Nat.not_lt.mpr h)
  · have hm : c.1 ∈ M1.map (fun c => c.1) := List.mem_map.mpr ⟨c, hc, rfl⟩
    rw [h3] at hm
    obtain ⟨d, hd, e9⟩ := List.mem_map.mp hm
    rw [← e9]
    exact hM d hd
end
end mg19a
section mg19a
theorem ggL_law_X11_act : GoodIn lw_tbl wsX11_act := gla_of 914 rfl rfl rfl
set_option maxRecDepth 100000 in
theorem gL_law_X11_act : GoodIn lw_tbl (wsV RL 120 RX11 yX11_act wsX11_act) := goodIn_app (tb_good [911, 912, 913, 63] rfl rfl rfl) ggL_law_X11_act
theorem ggL_law_X11_best : GoodIn lw_tbl wsX11_best := gla_of 863 rfl rfl rfl
set_option maxRecDepth 100000 in
theorem gL_law_X11_best : GoodIn lw_tbl (wsV RL 90 RX11 yX11_best wsX11_best) := goodIn_app (tb_good [860, 861, 862, 63] rfl rfl rfl) ggL_law_X11_best
theorem ggL_law_X11_build : GoodIn lw_tbl wsX11_build := gla_of 790 rfl rfl rfl
set_option maxRecDepth 100000 in
theorem gL_law_X11_build : GoodIn lw_tbl (wsV RL 73 RX11 yX11_build wsX11_build) := goodIn_app (tb_good [787, 788, 789, 63] rfl rfl rfl) ggL_law_X11_build
theorem ggL_law_X11_drift : GoodIn lw_tbl wsX11_drift := gla_of 805 rfl rfl rfl
set_option maxRecDepth 100000 in
theorem gL_law_X11_drift : GoodIn lw_tbl (wsV RL 77 RX11 yX11_drift wsX11_drift) := goodIn_app (tb_good [802, 803, 804, 63] rfl rfl rfl) ggL_law_X11_drift
theorem ggL_law_X11_heap : GoodIn lw_tbl wsX11_heap := gla_of 546 rfl rfl rfl
set_option maxRecDepth 100000 in
theorem gL_law_X11_heap : GoodIn lw_tbl (wsV RL 39 RX11 yX11_heap wsX11_heap) := goodIn_app (tb_good [543, 544, 545, 63] rfl rfl rfl) ggL_law_X11_heap
theorem ggL_law_X11_line : GoodIn lw_tbl wsX11_line := gla_of 896 rfl rfl rfl
set_option maxRecDepth 100000 in
theorem gL_law_X11_line : GoodIn lw_tbl (wsV RL 104 RX11 yX11_line wsX11_line) := goodIn_app (tb_good [893, 894, 895, 63] rfl rfl rfl) ggL_law_X11_line
theorem ggL_law_X11_odds : GoodIn lw_tbl wsX11_odds := gla_of 818 rfl rfl rfl
set_option maxRecDepth 100000 in
theorem gL_law_X11_odds : GoodIn lw_tbl (wsV RL 85 RX11 yX11_odds wsX11_odds) := goodIn_app (tb_good [815, 816, 817, 63] rfl rfl rfl) ggL_law_X11_odds
theorem ggL_law_X11_sees : GoodIn lw_tbl wsX11_sees := gla_of 688 rfl rfl rfl
set_option maxRecDepth 100000 in
theorem gL_law_X11_sees : GoodIn lw_tbl (wsV RL 48 RX11 yX11_sees wsX11_sees) := goodIn_app (tb_good [685, 686, 687, 63] rfl rfl rfl) ggL_law_X11_sees
theorem ggL_law_X11_told : GoodIn lw_tbl wsX11_told := gla_of 541 rfl rfl rfl
set_option maxRecDepth 100000 in
theorem gL_law_X11_told : GoodIn lw_tbl (wsV RL 35 RX11 yX11_told wsX11_told) := goodIn_app (tb_good [542, 539, 540, 63] rfl rfl rfl) ggL_law_X11_told
theorem ggL_law_X11_via : GoodIn lw_tbl wsX11_via := gla_of 765 rfl rfl rfl
set_option maxRecDepth 100000 in
theorem gL_law_X11_via : GoodIn lw_tbl (wsV RL 61 RX11 yX11_via wsX11_via) := goodIn_app (tb_good [762, 763, 764, 63] rfl rfl rfl) ggL_law_X11_via
theorem ggL_law_X12_act : GoodIn lw_tbl wsX12_act := gla_of 1489 rfl rfl rfl
set_option maxRecDepth 100000 in
theorem gL_law_X12_act : GoodIn lw_tbl (wsV RL 123 RX12 yX12_act wsX12_act) := goodIn_app (tb_good [1486, 1487, 1488, 72] rfl rfl rfl) ggL_law_X12_act
theorem ggL_law_X12_best : GoodIn lw_tbl wsX12_best := gla_of 1450 rfl rfl rfl
set_option maxRecDepth 100000 in
theorem gL_law_X12_best : GoodIn lw_tbl (wsV RL 94 RX12 yX12_best wsX12_best) := goodIn_app (tb_good [1447, 1448, 1449, 72] rfl rfl rfl) ggL_law_X12_best
theorem ggL_law_X12_build : GoodIn lw_tbl wsX12_build := gla_of 1400 rfl rfl rfl
set_option maxRecDepth 100000 in
theorem gL_law_X12_build : GoodIn lw_tbl (wsV RL 76 RX12 yX12_build wsX12_build) := goodIn_app (tb_good [1397, 1398, 1399, 72] rfl rfl rfl) ggL_law_X12_build
theorem ggL_law_X12_drift : GoodIn lw_tbl wsX12_drift := gla_of 1404 rfl rfl rfl
set_option maxRecDepth 100000 in
theorem gL_law_X12_drift : GoodIn lw_tbl (wsV RL 80 RX12 yX12_drift wsX12_drift) := goodIn_app (tb_good [1401, 1402, 1403, 72] rfl rfl rfl) ggL_law_X12_drift
theorem ggL_law_X12_heap : GoodIn lw_tbl wsX12_heap := gla_of 1301 rfl rfl rfl
set_option maxRecDepth 100000 in
theorem gL_law_X12_heap : GoodIn lw_tbl (wsV RL 43 RX12 yX12_heap wsX12_heap) := goodIn_app (tb_good [1298, 1299, 1300, 72] rfl rfl rfl) ggL_law_X12_heap
theorem ggL_law_X12_line : GoodIn lw_tbl wsX12_line := gla_of 1473 rfl rfl rfl
set_option maxRecDepth 100000 in
theorem gL_law_X12_line : GoodIn lw_tbl (wsV RL 107 RX12 yX12_line wsX12_line) := goodIn_app (tb_good [1470, 1471, 1472, 72] rfl rfl rfl) ggL_law_X12_line
theorem ggL_law_X12_odds : GoodIn lw_tbl wsX12_odds := gla_of 1416 rfl rfl rfl
set_option maxRecDepth 100000 in
theorem gL_law_X12_odds : GoodIn lw_tbl (wsV RL 89 RX12 yX12_odds wsX12_odds) := goodIn_app (tb_good [1413, 1414, 1415, 72] rfl rfl rfl) ggL_law_X12_odds
theorem ggL_law_X12_sees : GoodIn lw_tbl wsX12_sees := gla_of 1332 rfl rfl rfl
set_option maxRecDepth 100000 in
theorem gL_law_X12_sees : GoodIn lw_tbl (wsV RL 51 RX12 yX12_sees wsX12_sees) := goodIn_app (tb_good [1329, 1330, 1331, 72] rfl rfl rfl) ggL_law_X12_sees
theorem ggL_law_X12_told : GoodIn lw_tbl wsX12_told := gla_of 1293 rfl rfl rfl
set_option maxRecDepth 100000 in
theorem gL_law_X12_told : GoodIn lw_tbl (wsV RL 38 RX12 yX12_told wsX12_told) := goodIn_app (tb_good [1290, 1291, 1292, 72] rfl rfl rfl) ggL_law_X12_told
theorem ggL_law_X12_via : GoodIn lw_tbl wsX12_via := gla_of 1388 rfl rfl rfl
set_option maxRecDepth 100000 in
theorem gL_law_X12_via : GoodIn lw_tbl (wsV RL 64 RX12 yX12_via wsX12_via) := goodIn_app (tb_good [1385, 1386, 1387, 72] rfl rfl rfl) ggL_law_X12_via
theorem ggL_law_X12_init : GoodIn lw_tbl wsX12_init := gla_of 1139 rfl rfl rfl
theorem ggL_law_X11_as : GoodIn lw_tbl wsX11_as := gla_of 1104 rfl rfl rfl
set_option maxRecDepth 100000 in
theorem gL_law_X11_as : GoodIn lw_tbl (wsV RL 128 RX11 yX11_as wsX11_as) := goodIn_app (tb_good [1101, 1102, 1103, 63] rfl rfl rfl) ggL_law_X11_as
theorem ggL_law_X11_bestOdds : GoodIn lw_tbl wsX11_bestOdds := gla_of 887 rfl rfl rfl
set_option maxRecDepth 100000 in
theorem gL_law_X11_bestOdds : GoodIn lw_tbl (wsV RL 95 RX11 yX11_bestOdds wsX11_bestOdds) := goodIn_app (tb_good [884, 885, 886, 63] rfl rfl rfl) ggL_law_X11_bestOdds
theorem ggL_law_X11_count : GoodIn lw_tbl wsX11_count := gla_of 1134 rfl rfl rfl
set_option maxRecDepth 100000 in
theorem gL_law_X11_count : GoodIn lw_tbl (wsV RL 140 RX11 yX11_count wsX11_count) := goodIn_app (tb_good [1131, 1132, 1133, 63] rfl rfl rfl) ggL_law_X11_count
theorem ggL_law_X11_edges : GoodIn lw_tbl wsX11_edges := gla_of 526 rfl rfl rfl
set_option maxRecDepth 100000 in
theorem gL_law_X11_edges : GoodIn lw_tbl (wsV RL 25 RX11 yX11_edges wsX11_edges) := goodIn_app (tb_good [523, 524, 525, 63] rfl rfl rfl) ggL_law_X11_edges
theorem ggL_law_X11_hill : GoodIn lw_tbl wsX11_hill := gla_of 357 rfl rfl rfl
set_option maxRecDepth 100000 in
theorem gL_law_X11_hill : GoodIn lw_tbl (wsV RL 18 RX11 yX11_hill wsX11_hill) := goodIn_app (tb_good [354, 355, 356, 63] rfl rfl rfl) ggL_law_X11_hill
theorem ggL_law_X11_looked : GoodIn lw_tbl wsX11_looked := gla_of 909 rfl rfl rfl
set_option maxRecDepth 100000 in
theorem gL_law_X11_looked : GoodIn lw_tbl (wsV RL 116 RX11 yX11_looked wsX11_looked) := goodIn_app (tb_good [906, 907, 908, 63] rfl rfl rfl) ggL_law_X11_looked
theorem ggL_law_X11_of : GoodIn lw_tbl wsX11_of := gla_of 628 rfl rfl rfl
set_option maxRecDepth 100000 in
theorem gL_law_X11_of : GoodIn lw_tbl (wsV RL 44 RX11 yX11_of wsX11_of) := goodIn_app (tb_good [625, 626, 627, 63] rfl rfl rfl) ggL_law_X11_of
theorem ggL_law_X11_set : GoodIn lw_tbl wsX11_set := gla_of 537 rfl rfl rfl
set_option maxRecDepth 100000 in
theorem gL_law_X11_set : GoodIn lw_tbl (wsV RL 30 RX11 yX11_set wsX11_set) := goodIn_app (tb_good [534, 535, 536, 63] rfl rfl rfl) ggL_law_X11_set
theorem ggL_law_X11_trace : GoodIn lw_tbl wsX11_trace := gla_of 1082 rfl rfl rfl
set_option maxRecDepth 100000 in
theorem gL_law_X11_trace : GoodIn lw_tbl (wsV RL 124 RX11 yX11_trace wsX11_trace) := goodIn_app (tb_good [1079, 1080, 1081, 63] rfl rfl rfl) ggL_law_X11_trace
theorem ggL_law_X11_walk : GoodIn lw_tbl wsX11_walk := gla_of 814 rfl rfl rfl
set_option maxRecDepth 100000 in
theorem gL_law_X11_walk : GoodIn lw_tbl (wsV RL 81 RX11 yX11_walk wsX11_walk) := goodIn_app (tb_good [811, 812, 813, 63] rfl rfl rfl) ggL_law_X11_walk
theorem ggL_law_X12_as : GoodIn lw_tbl wsX12_as := gla_of 1528 rfl rfl rfl
set_option maxRecDepth 100000 in
theorem gL_law_X12_as : GoodIn lw_tbl (wsV RL 131 RX12 yX12_as wsX12_as) := goodIn_app (tb_good [1525, 1526, 1527, 72] rfl rfl rfl) ggL_law_X12_as
theorem ggL_law_X12_bestOdds : GoodIn lw_tbl wsX12_bestOdds := gla_of 1465 rfl rfl rfl
set_option maxRecDepth 100000 in
theorem gL_law_X12_bestOdds : GoodIn lw_tbl (wsV RL 99 RX12 yX12_bestOdds wsX12_bestOdds) := goodIn_app (tb_good [1462, 1463, 1464, 72] rfl rfl rfl) ggL_law_X12_bestOdds
theorem ggL_law_X12_count : GoodIn lw_tbl wsX12_count := gla_of 1540 rfl rfl rfl
set_option maxRecDepth 100000 in
theorem gL_law_X12_count : GoodIn lw_tbl (wsV RL 143 RX12 yX12_count wsX12_count) := goodIn_app (tb_good [1537, 1538, 1539, 72] rfl rfl rfl) ggL_law_X12_count
theorem ggL_law_X12_edges : GoodIn lw_tbl wsX12_edges := gla_of 1281 rfl rfl rfl
set_option maxRecDepth 100000 in
theorem gL_law_X12_edges : GoodIn lw_tbl (wsV RL 29 RX12 yX12_edges wsX12_edges) := goodIn_app (tb_good [1278, 1279, 1280, 72] rfl rfl rfl) ggL_law_X12_edges
theorem ggL_law_X12_hill : GoodIn lw_tbl wsX12_hill := gla_of 1221 rfl rfl rfl
set_option maxRecDepth 100000 in
theorem gL_law_X12_hill : GoodIn lw_tbl (wsV RL 22 RX12 yX12_hill wsX12_hill) := goodIn_app (tb_good [1218, 1219, 1220, 72] rfl rfl rfl) ggL_law_X12_hill
theorem ggL_law_X12_looked : GoodIn lw_tbl wsX12_looked := gla_of 1485 rfl rfl rfl
set_option maxRecDepth 100000 in
theorem gL_law_X12_looked : GoodIn lw_tbl (wsV RL 119 RX12 yX12_looked wsX12_looked) := goodIn_app (tb_good [1482, 1483, 1484, 72] rfl rfl rfl) ggL_law_X12_looked
theorem ggL_law_X12_of : GoodIn lw_tbl wsX12_of := gla_of 1316 rfl rfl rfl
set_option maxRecDepth 100000 in
theorem gL_law_X12_of : GoodIn lw_tbl (wsV RL 47 RX12 yX12_of wsX12_of) := goodIn_app (tb_good [1313, 1314, 1315, 72] rfl rfl rfl) ggL_law_X12_of
theorem ggL_law_X12_set : GoodIn lw_tbl wsX12_set := gla_of 1289 rfl rfl rfl
set_option maxRecDepth 100000 in
theorem gL_law_X12_set : GoodIn lw_tbl (wsV RL 34 RX12 yX12_set wsX12_set) := goodIn_app (tb_good [1286, 1287, 1288, 72] rfl rfl rfl) ggL_law_X12_set
theorem ggL_law_X12_trace : GoodIn lw_tbl wsX12_trace := gla_of 1524 rfl rfl rfl
set_option maxRecDepth 100000 in
theorem gL_law_X12_trace : GoodIn lw_tbl (wsV RL 127 RX12 yX12_trace wsX12_trace) := goodIn_app (tb_good [1521, 1522, 1523, 72] rfl rfl rfl) ggL_law_X12_trace
theorem ggL_law_X12_walk : GoodIn lw_tbl wsX12_walk := gla_of 1412 rfl rfl rfl
set_option maxRecDepth 100000 in
theorem gL_law_X12_walk : GoodIn lw_tbl (wsV RL 84 RX12 yX12_walk wsX12_walk) := goodIn_app (tb_good [1409, 1410, 1411, 72] rfl rfl rfl) ggL_law_X12_walk
theorem ggL_law_X11_init : GoodIn lw_tbl wsX11_init := gla_of 97 rfl rfl rfl
theorem ggL_law_X11_bears : GoodIn lw_tbl wsX11_bears := gla_of 786 rfl rfl rfl
set_option maxRecDepth 100000 in
theorem gL_law_X11_bears : GoodIn lw_tbl (wsV RL 69 RX11 yX11_bears wsX11_bears) := goodIn_app (tb_good [783, 784, 785, 63] rfl rfl rfl) ggL_law_X11_bears
theorem ggL_law_X11_book : GoodIn lw_tbl wsX11_book := gla_of 905 rfl rfl rfl
set_option maxRecDepth 100000 in
theorem gL_law_X11_book : GoodIn lw_tbl (wsV RL 112 RX11 yX11_book wsX11_book) := goodIn_app (tb_good [902, 903, 904, 63] rfl rfl rfl) ggL_law_X11_book
theorem ggL_law_X11_cuts : GoodIn lw_tbl wsX11_cuts := gla_of 778 rfl rfl rfl
set_option maxRecDepth 100000 in
theorem gL_law_X11_cuts : GoodIn lw_tbl (wsV RL 65 RX11 yX11_cuts wsX11_cuts) := goodIn_app (tb_good [775, 776, 777, 63] rfl rfl rfl) ggL_law_X11_cuts
theorem ggL_law_X11_feed : GoodIn lw_tbl wsX11_feed := gla_of 353 rfl rfl rfl
set_option maxRecDepth 100000 in
theorem gL_law_X11_feed : GoodIn lw_tbl (wsV RL 13 RX11 yX11_feed wsX11_feed) := goodIn_app (tb_good [350, 351, 352, 63] rfl rfl rfl) ggL_law_X11_feed
theorem ggL_law_X11_image : GoodIn lw_tbl wsX11_image := gla_of 1121 rfl rfl rfl
set_option maxRecDepth 100000 in
theorem gL_law_X11_image : GoodIn lw_tbl (wsV RL 132 RX11 yX11_image wsX11_image) := goodIn_app (tb_good [1118, 1119, 1120, 63] rfl rfl rfl) ggL_law_X11_image
theorem ggL_law_X11_next : GoodIn lw_tbl wsX11_next := gla_of 901 rfl rfl rfl
set_option maxRecDepth 100000 in
theorem gL_law_X11_next : GoodIn lw_tbl (wsV RL 108 RX11 yX11_next wsX11_next) := goodIn_app (tb_good [898, 899, 900, 63] rfl rfl rfl) ggL_law_X11_next
theorem ggL_law_X11_safe : GoodIn lw_tbl wsX11_safe := gla_of 891 rfl rfl rfl
set_option maxRecDepth 100000 in
theorem gL_law_X11_safe : GoodIn lw_tbl (wsV RL 100 RX11 yX11_safe wsX11_safe) := goodIn_app (tb_good [888, 889, 890, 63] rfl rfl rfl) ggL_law_X11_safe
theorem ggL_law_X11_steps : GoodIn lw_tbl wsX11_steps := gla_of 715 rfl rfl rfl
set_option maxRecDepth 100000 in
theorem gL_law_X11_steps : GoodIn lw_tbl (wsV RL 57 RX11 yX11_steps wsX11_steps) := goodIn_app (tb_good [712, 713, 714, 63] rfl rfl rfl) ggL_law_X11_steps
theorem ggL_law_X11_undo : GoodIn lw_tbl wsX11_undo := gla_of 1130 rfl rfl rfl
set_option maxRecDepth 100000 in
theorem gL_law_X11_undo : GoodIn lw_tbl (wsV RL 136 RX11 yX11_undo wsX11_undo) := goodIn_app (tb_good [1127, 1128, 1129, 63] rfl rfl rfl) ggL_law_X11_undo
theorem ggL_law_X11_where : GoodIn lw_tbl wsX11_where := gla_of 710 rfl rfl rfl
set_option maxRecDepth 100000 in
theorem gL_law_X11_where : GoodIn lw_tbl (wsV RL 52 RX11 yX11_where wsX11_where) := goodIn_app (tb_good [707, 708, 709, 63] rfl rfl rfl) ggL_law_X11_where
theorem ggL_law_X12_bears : GoodIn lw_tbl wsX12_bears := gla_of 1396 rfl rfl rfl
set_option maxRecDepth 100000 in
theorem gL_law_X12_bears : GoodIn lw_tbl (wsV RL 72 RX12 yX12_bears wsX12_bears) := goodIn_app (tb_good [1393, 1394, 1395, 72] rfl rfl rfl) ggL_law_X12_bears
theorem ggL_law_X12_book : GoodIn lw_tbl wsX12_book := gla_of 1481 rfl rfl rfl
set_option maxRecDepth 100000 in
theorem gL_law_X12_book : GoodIn lw_tbl (wsV RL 115 RX12 yX12_book wsX12_book) := goodIn_app (tb_good [1478, 1479, 1480, 72] rfl rfl rfl) ggL_law_X12_book
theorem ggL_law_X12_cuts : GoodIn lw_tbl wsX12_cuts := gla_of 1392 rfl rfl rfl
set_option maxRecDepth 100000 in
theorem gL_law_X12_cuts : GoodIn lw_tbl (wsV RL 68 RX12 yX12_cuts wsX12_cuts) := goodIn_app (tb_good [1389, 1390, 1391, 72] rfl rfl rfl) ggL_law_X12_cuts
theorem ggL_law_X12_feed : GoodIn lw_tbl wsX12_feed := gla_of 1214 rfl rfl rfl
set_option maxRecDepth 100000 in
theorem gL_law_X12_feed : GoodIn lw_tbl (wsV RL 17 RX12 yX12_feed wsX12_feed) := goodIn_app (tb_good [1211, 1212, 1213, 72] rfl rfl rfl) ggL_law_X12_feed
theorem ggL_law_X12_image : GoodIn lw_tbl wsX12_image := gla_of 1532 rfl rfl rfl
set_option maxRecDepth 100000 in
theorem gL_law_X12_image : GoodIn lw_tbl (wsV RL 135 RX12 yX12_image wsX12_image) := goodIn_app (tb_good [1529, 1530, 1531, 72] rfl rfl rfl) ggL_law_X12_image
theorem ggL_law_X12_next : GoodIn lw_tbl wsX12_next := gla_of 1477 rfl rfl rfl
set_option maxRecDepth 100000 in
theorem gL_law_X12_next : GoodIn lw_tbl (wsV RL 111 RX12 yX12_next wsX12_next) := goodIn_app (tb_good [1474, 1475, 1476, 72] rfl rfl rfl) ggL_law_X12_next
theorem ggL_law_X12_safe : GoodIn lw_tbl wsX12_safe := gla_of 1469 rfl rfl rfl
set_option maxRecDepth 100000 in
theorem gL_law_X12_safe : GoodIn lw_tbl (wsV RL 103 RX12 yX12_safe wsX12_safe) := goodIn_app (tb_good [1466, 1467, 1468, 72] rfl rfl rfl) ggL_law_X12_safe
theorem ggL_law_X12_steps : GoodIn lw_tbl wsX12_steps := gla_of 1355 rfl rfl rfl
set_option maxRecDepth 100000 in
theorem gL_law_X12_steps : GoodIn lw_tbl (wsV RL 60 RX12 yX12_steps wsX12_steps) := goodIn_app (tb_good [1352, 1353, 1354, 72] rfl rfl rfl) ggL_law_X12_steps
theorem ggL_law_X12_undo : GoodIn lw_tbl wsX12_undo := gla_of 1536 rfl rfl rfl
set_option maxRecDepth 100000 in
theorem gL_law_X12_undo : GoodIn lw_tbl (wsV RL 139 RX12 yX12_undo wsX12_undo) := goodIn_app (tb_good [1533, 1534, 1535, 72] rfl rfl rfl) ggL_law_X12_undo
theorem ggL_law_X12_where : GoodIn lw_tbl wsX12_where := gla_of 1350 rfl rfl rfl
set_option maxRecDepth 100000 in
theorem gL_law_X12_where : GoodIn lw_tbl (wsV RL 56 RX12 yX12_where wsX12_where) := goodIn_app (tb_good [1347, 1348, 1349, 72] rfl rfl rfl) ggL_law_X12_where
theorem wsL_law_in : ∀ w ∈ lw_tbl, w ∈ lw_tbl := fun _ h => h
end mg19a
section mg19a
/-! THE CLAIM OUT OF ONE WALK OF THE LAW'S BODY. Your part is whole_start (and what it stands on); all else here is the same for every law, but numbers. -/
def R_law : String := "MistHeapsLaw"
def lw_P (b : Addr) (xs : List Int32) (args : Array Value) (s : State) : Prop := args = #[.ref b] ∧ s.IntsAt b xs ∧ xs.length ≤ 320 ∧ (Jvm.Cond.and given_1 narrow_1).before args s = true
def lw_Q (_ : Array Value) (s : State) (o : Outcome) (t : State) : Prop := o = .returned (some (.int 1)) ∧ Framed s o t [] 600000 7302250
def lw_Z (below : List Frame) (a : Array Value) (s : State) : State → Prop := fun t => ∃ o, t.status = .running ∧ Ended t below o ∧ lw_Q a s o t
/-- the law's own end, with 1 on the stack, nothing written that was there before, its room as the claim has it -/
theorem lw_ret {p : Program} {l : Launch} {e : Env} {s : State} {m : MethodId} {below : List Frame} {meth : Method} {c : Code} {b : Nat} (hx : p.tables.exec = Jvm.exec) (hb : c.code = code) (hr : meth.sig.returnType = ret) (hlocks : meth.locks = false) {pc : Nat} {H : Heap} {ls : Array Slot} (hdg : decode code pc = .ok (.ireturn, 1)) : W p l e room_1 s m #[Value.ref b] below meth c H [] 600000 7302250 (lw_Z below #[Value.ref b] s) (F0 m pc ls [.int 1]) := by
  intro T hT X
  obtain ⟨fs, hret, hrun, hended, hW, hframe⟩ := X.leave (v := some (.int 1)) (hlocks := hlocks) (fun h => by rw [hr] at h; cases h)
  have hmeth' : T.vm.method? m = some meth := X.method'
  refine ⟨T.setFrames fs, ?_, .returned (some (.int 1)), hrun, hended, rfl, ⟨_, rfl⟩, hW, hframe⟩
  jvm_step X.here [X.here.top, hx, hb, hdg, hmeth', hr, ret, narrow_b1]
  (try refine ⟨rfl, ?_⟩); (try refine ⟨rfl, ?_⟩)
  first | (intro acts; rw [hret _ acts rfl rfl rfl]) | rw [hret _ _ rfl rfl rfl]
  exact Steps.refl _
/-- what holds at the law's entry: the machine, the code, the tables' words (any of lw_tbl by 'hts w (by decide +kernel)'), the script of L ints xs at the cell b, what the Statement gives of the start (any of its parts by flat_of_before) -/
def lw_At (p : Program) (s : State) (m : MethodId) (meth : Method) (c : Code) (b L : Nat) (xs : Nat → Int32) : Prop :=
  p.tables.exec = Jvm.exec ∧ c.code = code ∧ meth.sig.returnType = ret ∧ c.maxLocals = 4 ∧ s.vm.findClass R_law = some m.cls ∧ (∀ w ∈ lw_tbl, w.before #[Value.ref b] s = true) ∧ va_X b L xs s s.heap ∧ b < s.heap.size ∧ meth.locks = false ∧ (Jvm.Cond.and given_1 narrow_1).before #[Value.ref b] s = true
theorem goodIn_td {big ws : List Cond} (k : Nat) (h1 : GoodIn big (ws.take k)) (h2 : GoodIn big (ws.drop k)) : GoodIn big ws := fun w h => by
  rw [← List.take_append_drop k ws] at h
  rcases List.mem_append.mp h with q | q
  · exact h1 w q
  · exact h2 w q
end mg19a
