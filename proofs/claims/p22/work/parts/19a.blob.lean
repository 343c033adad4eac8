
/-! a method's contract taken over the whole of an object's cells -/
theorem met_wrap {l : Launch} {y : MethodName} {ws : List Cond} {rm : Room} {Pc' : Array Value → State → Prop} {Qc' : Array Value → State → Outcome → State → Prop} {mc ms : Nat} {free' : Addr → Prop} (h : ∀ (args : Array Value) (s : State), Pc' args s → ∃ (Pc : Array Value → State → Prop) (Qc : Array Value → State → Outcome → State → Prop) (free : Addr → Prop), Met l y ws rm Pc Qc mc ms free ∧ Pc args s ∧ (∀ o t, Qc args s o t → Qc' args s o t) ∧ ∀ q, free q → free' q) : Met l y ws rm Pc' Qc' mc ms free' := by
  intro p e hl hc hcl s m args below hf ha hP hK
  obtain ⟨Pc, Qc, free, hM, hp, hq, hfr⟩ := h args s hP
  obtain ⟨n, o, h1, h2, h3, hQ, L, hF, hL⟩ := hM p e hl hc hcl s m args below hf ha hp trivial
  exact ⟨n, o, h1, h2, h3, hq _ _ hQ, L, hF, fun q hq' => hfr _ (hL q hq')⟩
theorem K_mem {D : va_G} {cl : List vw_C} {T tys : List (ClassId × FieldType)} {U : State} (h : va_K D cl T U) (hm : ∀ p ∈ tys, p ∈ T) : va_K D cl tys U := ⟨h.1, fun k q hq => by
  obtain ⟨i, hi⟩ := List.getElem?_of_mem (hm q (List.mem_of_getElem? hq))
  exact h.2 i q hi⟩
theorem bl_sub {D : va_G} {cl : List vw_C} {G F T : va_W} {H : Heap} (h : va_P D cl (G ++ T) H) (is : List Nat) (hs : is.map (fun i => G[i]?) = F.map some) : va_P D cl F H := by
  intro k q hq
  obtain ⟨i, -, hi⟩ := va_in_of is hs hq
  exact h i q (by rw [List.getElem?_append_left (List.getElem?_eq_some_iff.mp hi).1]; exact hi)
theorem bl_Dsub {A : Nat → Prop} {G F T : va_W} (h : va_D A (G ++ T)) (is : List Nat) (hn : va_nd is = true) (hs : is.map (fun i => G[i]?) = F.map some) : va_D A F := by
  have hG : va_D A G := ⟨fun i j x y hx hy e => h.1 i j x y (by rw [List.getElem?_append_left (List.getElem?_eq_some_iff.mp hx).1]; exact hx) (by rw [List.getElem?_append_left (List.getElem?_eq_some_iff.mp hy).1]; exact hy) e, fun k q hq => h.2 k q (by rw [List.getElem?_append_left (List.getElem?_eq_some_iff.mp hq).1]; exact hq)⟩
  exact hG.sub is hn hs
theorem bl_mem {G F T : va_W} (is : List Nat) (hs : is.map (fun i => G[i]?) = F.map some) : ∀ c ∈ F, c ∈ G ++ T := by
  intro c hc
  obtain ⟨k, hk⟩ := List.getElem?_of_mem hc
  obtain ⟨i, -, hi⟩ := va_in_of is hs hk
  exact List.mem_append_left _ (List.mem_of_getElem? hi)
theorem bl_A {wc X : va_W} {sz : Nat} (h : ∀ c ∈ wc, c ∈ X) : ∀ q, va_A wc sz q → va_A X sz q := by
  intro q hq
  rcases hq with ⟨k, e, hk⟩ | hq
  · obtain ⟨i, hi⟩ := List.getElem?_of_mem (h _ (List.mem_of_getElem? hk))
    exact Or.inl ⟨i, e, hi⟩
  · exact Or.inr hq
/-- where the cells behind a call come from: out of what came back, or left as they were -/
noncomputable def bl_ok (sel : List (Option Nat)) (pos isC : List Nat) : Bool := sel.zipIdx.all (fun p => match p.1 with | some k => decide (pos[k]? = some p.2) | none => decide (p.2 ∉ isC))
section
variable {B : Nat → Prop} {D : va_G} {cl : List vw_C} {F F' T wc w1 : va_W} {H H1 : Heap}
theorem bl_key (isC : List Nat) (hC : isC.map (fun i => F[i]?) = wc.map some) (sel : List (Option Nat)) (pos : List Nat) (hs : sel.zipIdx.map (fun p => match p.1 with | some k => w1[k]? | none => F[p.2]?) = F'.map some) (hl : sel.length = F.length ∨ T = []) (hok : bl_ok sel pos isC = true) (i : Nat) (c : Nat × va_E) (hi : (F' ++ T)[i]? = some c) : (∃ k : Nat, w1[k]? = some c ∧ pos[k]? = some i) ∨ ((F ++ T)[i]? = some c ∧ i ∉ isC) := by
  have hl' : sel.length = F'.length := by
    have e := congrArg List.length hs
    simp only [List.length_map, List.length_zipIdx] at e
    exact e
  rcases Nat.lt_or_ge i F'.length with q | q
  · rw [List.getElem?_append_left q] at hi
    have e : (sel.zipIdx.map (fun p => match p.1 with | some k => w1[k]? | none => F[p.2]?))[i]? = some (some c) := by rw [hs, List.getElem?_map, hi]; rfl
    rw [List.getElem?_map, List.getElem?_zipIdx] at e
    rcases hsi : sel[i]? with _ | o
    · rw [hsi] at e; cases e
    · rw [hsi] at e
      simp only [Option.map_some, Nat.zero_add, Option.some.injEq] at e
      have hm : (o, i) ∈ sel.zipIdx := by
        apply List.mem_of_getElem? (i := i)
        rw [List.getElem?_zipIdx, hsi]
        simp
      have hp := List.all_eq_true.mp hok _ hm
      rcases o with _ | k
      · right
        simp only [decide_eq_true_eq] at hp
        exact ⟨by rw [List.getElem?_append_left (List.getElem?_eq_some_iff.mp e).1]; exact e, hp⟩
      · left
        simp only [decide_eq_true_eq] at hp
        exact ⟨k, e, hp⟩
  · right
    rw [List.getElem?_append_right q] at hi
    have hlF : F'.length = F.length := by
      rcases hl with hl | hl
      · omega
      · subst hl; simp at hi
    refine ⟨by rw [List.getElem?_append_right (by omega), ← hlF]; exact hi, fun hm => ?_⟩
    obtain ⟨k, hk⟩ := List.getElem?_of_mem hm
    have e : (isC.map (fun i => F[i]?))[k]? = (wc.map some)[k]? := by rw [hC]
    rw [List.getElem?_map, hk, List.getElem?_map] at e
    simp only [Option.map_some] at e
    rcases hw : wc[k]? with _ | z
    · rw [hw] at e; cases e
    · rw [hw] at e
      simp only [Option.map_some, Option.some.injEq] at e
      have := (List.getElem?_eq_some_iff.mp e).1
      omega
theorem bl_kept (hP : va_P D cl (F ++ T) H) (hD : va_D B (F ++ T)) (isC : List Nat) (hC : isC.map (fun i => F[i]?) = wc.map some) {i : Nat} {c : Nat × va_E} (hi : (F ++ T)[i]? = some c) (hn : i ∉ isC) : ¬ va_A wc H.size c.1 := by
  intro h
  rcases h with ⟨k, e, hk⟩ | h
  · obtain ⟨j, h3, h4⟩ := va_in_of isC hC hk
    have hij := hD.1 i j c (c.1, e) hi (by rw [List.getElem?_append_left (List.getElem?_eq_some_iff.mp h4).1]; exact h4) rfl
    rw [hij] at hn
    exact hn (List.mem_of_getElem? h3)
  · have := (hP i c hi).lt
    omega
theorem bl_gen (hP : va_P D cl (F ++ T) H) (hD : va_D B (F ++ T)) (isC : List Nat) (hC : isC.map (fun i => F[i]?) = wc.map some) (hk : ∀ q : Nat, q < H.size → ¬ va_A wc H.size q → H1[q]? = H[q]?) (hP1 : va_P D cl w1 H1) (hD1 : va_D (va_A wc H.size) w1) (sel : List (Option Nat)) (pos : List Nat) (hs : sel.zipIdx.map (fun p => match p.1 with | some k => w1[k]? | none => F[p.2]?) = F'.map some) (hl : sel.length = F.length ∨ T = []) (hok : bl_ok sel pos isC = true) : va_P D cl (F' ++ T) H1 ∧ va_D (va_A (F ++ T) H.size) (F' ++ T) := by
  have key := bl_key (T := T) isC hC sel pos hs hl hok
  refine ⟨fun i c hi => ?_, fun i j x y hx hy exy => ?_, fun i c hi => ?_⟩
  · rcases key i c hi with ⟨k, h1, -⟩ | ⟨h1, h2⟩
    · exact hP1 k c h1
    · exact (hP i c h1).kept (hk c.1 (hP i c h1).lt (bl_kept hP hD isC hC h1 h2))
  · rcases key i x hx with ⟨k, h1, h2⟩ | ⟨h1, h2⟩
    · rcases key j y hy with ⟨k', h3, h4⟩ | ⟨h3, h4⟩
      · have e := hD1.1 k k' x y h1 h3 exy
        rw [e] at h2
        exact Option.some.inj (h2.symm.trans h4)
      · exact absurd (by rw [← exy]; exact hD1.2 k x h1) (bl_kept hP hD isC hC h3 h4)
    · rcases key j y hy with ⟨k', h3, h4⟩ | ⟨h3, h4⟩
      · exact absurd (by rw [exy]; exact hD1.2 k' y h3) (bl_kept hP hD isC hC h1 h2)
      · exact hD.1 i j x y h1 h3 exy
  · rcases key i c hi with ⟨k, h1, -⟩ | ⟨h1, -⟩
    · exact bl_A (bl_mem (T := T) isC hC) _ (hD1.2 k c h1)
    · exact Or.inl ⟨i, c.2, h1⟩
/-- a cell that came back and has no place among the object's own: apart from all of them -/
theorem bl_out (hP : va_P D cl (F ++ T) H) (hD : va_D B (F ++ T)) (isC : List Nat) (hC : isC.map (fun i => F[i]?) = wc.map some) (hD1 : va_D (va_A wc H.size) w1) (sel : List (Option Nat)) (pos : List Nat) (hs : sel.zipIdx.map (fun p => match p.1 with | some k => w1[k]? | none => F[p.2]?) = F'.map some) (hl : sel.length = F.length ∨ T = []) (hok : bl_ok sel pos isC = true) {k : Nat} {q : Nat × va_E} (hq : w1[k]? = some q) (hp : pos[k]? = none) : ∀ c ∈ F' ++ T, c.1 ≠ q.1 := by
  intro c hc e
  obtain ⟨i, hi⟩ := List.getElem?_of_mem hc
  rcases bl_key (T := T) isC hC sel pos hs hl hok i c hi with ⟨k', h1, h2⟩ | ⟨h1, h2⟩
  · have e2 := hD1.1 k' k c q h1 hq e
    rw [e2, hp] at h2
    cases h2
  · exact absurd (by rw [e]; exact hD1.2 k q hq) (bl_kept hP hD isC hC h1 h2)
end
/-- cells that stand and that nobody changes any more: apart from the object's own, and from others' -/
noncomputable def FzX (dC : Nat → ClassId) (dI : Nat → Nat → Nat) (ws X : va_W) (Y : Nat → Prop) (H : Heap) : Prop := va_P (dC, dI) vwCl ws H ∧ ∀ q ∈ ws, (∀ c ∈ X, c.1 ≠ q.1) ∧ ¬ Y q.1
noncomputable def HsX (dC : Nat → ClassId) (dI : Nat → Nat → Nat) (n : Nat) (hx ha : Nat → Nat) (hk hv hc : Nat → Int32) (X : va_W) (Y : Nat → Prop) (H : Heap) : Prop := ∀ i, i < n → hpK (hx i) ∧ FzX dC dI [hpE hx hk hv hc ha i] X Y H
section
variable {dC : Nat → ClassId} {dI : Nat → Nat → Nat} {ws X X' wc : va_W} {Y : Nat → Prop}
theorem FzX.out {H : Heap} (h : FzX dC dI ws X Y H) (hwc : ∀ c ∈ wc, c ∈ X) {k : Nat} {q : Nat × va_E} (hq : ws[k]? = some q) : ¬ va_A wc H.size q.1 := by
  intro hA
  rcases hA with ⟨k2, e, hk⟩ | hA
  · exact (h.2 q (List.mem_of_getElem? hq)).1 _ (hwc _ (List.mem_of_getElem? hk)) rfl
  · have := (h.1 k q hq).lt
    omega
theorem FzX.at {U : State} {tys : List (ClassId × FieldType)} (h : FzX dC dI ws X Y U.heap) (hK : va_K (dC, dI) vwCl tys U) (hwc : ∀ c ∈ wc, c ∈ X) : Fz dC dI ws tys (va_A wc U.heap.size) U := ⟨h.1, hK, fun _ _ hq => ⟨h.out hwc hq, (h.1 _ _ hq).lt⟩⟩
theorem FzX.atF {U : State} {tys : List (ClassId × FieldType)} (h : FzX dC dI ws X Y U.heap) (hK : va_K (dC, dI) vwCl tys U) : Fz dC dI ws tys (fun _ => False) U := ⟨h.1, hK, fun _ _ hq => ⟨fun z => z, (h.1 _ _ hq).lt⟩⟩
theorem FzX.kept {H H1 : Heap} (h : FzX dC dI ws X Y H) (hk : ∀ q : Nat, q < H.size → ¬ va_A wc H.size q → H1[q]? = H[q]?) (hwc : ∀ c ∈ wc, c ∈ X) (hX : ∀ c ∈ X', va_A X H.size c.1) : FzX dC dI ws X' Y H1 := by
  refine ⟨h.1.kept (fun k q hq => hk q.1 (h.1 k q hq).lt (h.out hwc hq)), fun q hq => ⟨fun c hc e => ?_, (h.2 q hq).2⟩⟩
  obtain ⟨k, hk'⟩ := List.getElem?_of_mem hq
  exact h.out (wc := X) (fun _ z => z) hk' (by rw [← e]; exact hX c hc)
theorem HsX.at {n : Nat} {hx ha : Nat → Nat} {hk hv hc : Nat → Int32} {U : State} (h : HsX dC dI n hx ha hk hv hc X Y U.heap) (hK : va_K (dC, dI) vwCl [] U) (hwc : ∀ c ∈ wc, c ∈ X) : Hs dC dI n hx ha hk hv hc (va_A wc U.heap.size) U := fun i hi => ⟨(h i hi).1, (h i hi).2.at hK hwc⟩
theorem HsX.atF {n : Nat} {hx ha : Nat → Nat} {hk hv hc : Nat → Int32} {U : State} (h : HsX dC dI n hx ha hk hv hc X Y U.heap) (hK : va_K (dC, dI) vwCl [] U) : Hs dC dI n hx ha hk hv hc (fun _ => False) U := fun i hi => ⟨(h i hi).1, (h i hi).2.atF hK⟩
theorem HsX.kept {n : Nat} {hx ha : Nat → Nat} {hk' hv hc : Nat → Int32} {H H1 : Heap} (h : HsX dC dI n hx ha hk' hv hc X Y H) (hk : ∀ q : Nat, q < H.size → ¬ va_A wc H.size q → H1[q]? = H[q]?) (hwc : ∀ c ∈ wc, c ∈ X) (hX : ∀ c ∈ X', va_A X H.size c.1) : HsX dC dI n hx ha hk' hv hc X' Y H1 := fun i hi => ⟨(h i hi).1, (h i hi).2.kept hk hwc hX⟩
end
theorem D_mem {A : Nat → Prop} {ws : va_W} (h : va_D A ws) : ∀ c ∈ ws, A c.1 := fun c hc => by
  obtain ⟨k, hk⟩ := List.getElem?_of_mem hc
  exact h.2 k c hk
theorem notY {wc X : va_W} {Y : Nat → Prop} {sz a : Nat} (h : va_A wc sz a) (hwc : ∀ c ∈ wc, c ∈ X) (hY1 : ∀ c ∈ X, ¬ Y c.1) (hY2 : ∀ q, sz ≤ q → ¬ Y q) : ¬ Y a := by
  rcases h with ⟨k, e, hk⟩ | h
  · exact hY1 _ (hwc _ (List.mem_of_getElem? hk))
  · exact hY2 a h
/-- cells that came back and have no place among the object's own stand from now on -/
theorem bl_fz {dC : Nat → ClassId} {dI : Nat → Nat → Nat} {Y : Nat → Prop} {B : Nat → Prop} {F F' T wc w1 ws : va_W} {H H1 : Heap} (hP : va_P (dC, dI) vwCl (F ++ T) H) (hD : va_D B (F ++ T)) (isC : List Nat) (hC : isC.map (fun i => F[i]?) = wc.map some) (hP1 : va_P (dC, dI) vwCl w1 H1) (hD1 : va_D (va_A wc H.size) w1) (sel : List (Option Nat)) (pos : List Nat) (hs : sel.zipIdx.map (fun p => match p.1 with | some k => w1[k]? | none => F[p.2]?) = F'.map some) (hl : sel.length = F.length ∨ T = []) (hok : bl_ok sel pos isC = true) (hY1 : ∀ c ∈ F ++ T, ¬ Y c.1) (hY2 : ∀ q, H.size ≤ q → ¬ Y q) (is : List Nat) (hi : is.map (fun i => w1[i]?) = ws.map some) (hp : is.all (fun i => decide (pos[i]? = none)) = true) : FzX dC dI ws (F' ++ T) Y H1 := by
  refine ⟨fun k q hq => ?_, fun q hq => ?_⟩
  · obtain ⟨i, -, h2⟩ := va_in_of is hi hq
    exact hP1 i q h2
  · obtain ⟨k, hk⟩ := List.getElem?_of_mem hq
    obtain ⟨i, h1, h2⟩ := va_in_of is hi hk
    have h3 := List.all_eq_true.mp hp i (List.mem_of_getElem? h1)
    simp only [decide_eq_true_eq] at h3
    exact ⟨bl_out hP hD isC hC hD1 sel pos hs hl hok h2 h3, notY (hD1.2 i q h2) (bl_mem isC hC) hY1 hY2⟩
theorem hs_add {dC : Nat → ClassId} {dI : Nat → Nat → Nat} {n : Nat} {yi ya : Nat → Nat} {yk yv yc : Nat → Int32} {X : va_W} {Y : Nat → Prop} {H : Heap} {ci qn : Nat} {a b c : Int32} (h : HsX dC dI n yi ya yk yv yc X Y H) (hci : hpK ci) (hq : FzX dC dI [(qn, .inr (ci, [.int a, .int (nI n), .int b, .int c]))] X Y H) : HsX dC dI (n + 1) (fun k => if k = n then ci else yi k) (fun k => if k = n then qn else ya k) (fun k => if k = n then a else yk k) (fun k => if k = n then b else yv k) (fun k => if k = n then c else yc k) X Y H := by
  intro i hi
  by_cases e : i = n
  · subst e
    have e1 : hpE (fun k => if k = i then ci else yi k) (fun k => if k = i then a else yk k) (fun k => if k = i then b else yv k) (fun k => if k = i then c else yc k) (fun k => if k = i then qn else ya k) i = (qn, .inr (ci, [.int a, .int (nI i), .int b, .int c])) := by simp [hpE]
    rw [e1]
    exact ⟨by simpa using hci, hq⟩
  · have h9 := h i (by omega)
    have e1 : hpE (fun k => if k = n then ci else yi k) (fun k => if k = n then a else yk k) (fun k => if k = n then b else yv k) (fun k => if k = n then c else yc k) (fun k => if k = n then qn else ya k) i = hpE yi yk yv yc ya i := by simp [hpE, e]
    rw [e1]
    exact ⟨by simpa [e] using h9.1, h9.2⟩
theorem up_hs {f : Nat → Option Nat} {ya : Nat → Nat} {n qn : Nat} (h : ∀ k0, k0 < n → f k0 = some (ya k0)) : ∀ k0, k0 < n + 1 → va_up f n (some qn) k0 = some (if k0 = n then qn else ya k0) := by
  intro k hk
  by_cases e : k = n
  · simp [va_up, e]
  · simp only [va_up, if_neg e]; exact h k (by omega)
theorem up_hn {f : Nat → Option Nat} {n qn : Nat} (h : ∀ k0, n ≤ k0 → k0 < 8 → f k0 = none) : ∀ k0, n + 1 ≤ k0 → k0 < 8 → va_up f n (some qn) k0 = none := by
  intro k hk h8
  simp only [va_up, if_neg (show ¬ k = n by omega)]
  exact h k (by omega) h8
theorem up_yk {f : Nat → Int32} {n M j : Nat} (h : ∀ k0, k0 < n → ∃ v0 : Nat, v0 < M ∧ f k0 = nI v0) (hj : j < M) : ∀ k0, k0 < n + 1 → ∃ v0 : Nat, v0 < M ∧ (if k0 = n then nI j else f k0) = nI v0 := by
  intro k hk
  by_cases e : k = n
  · exact ⟨j, hj, if_pos e⟩
  · obtain ⟨v, hv, e2⟩ := h k (by omega)
    exact ⟨v, hv, by rw [if_neg e]; exact e2⟩
theorem up_yv {f : Nat → Int32} {n j : Nat} (h : ∀ k0, k0 < n → ∃ v0 : Nat, v0 ≤ 9 ∧ f k0 = nI v0) (hj : j ≤ 9) : ∀ k0, k0 < n + 1 → ∃ v0 : Nat, v0 ≤ 9 ∧ (if k0 = n then nI j else f k0) = nI v0 := by
  intro k hk
  by_cases e : k = n
  · exact ⟨j, hj, if_pos e⟩
  · obtain ⟨v, hv, e2⟩ := h k (by omega)
    exact ⟨v, hv, by rw [if_neg e]; exact e2⟩
