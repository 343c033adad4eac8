
noncomputable def holdH (f : Nat → Int32) (hl : Nat) : Prop := f 5 = -1 ∨ ∃ h : Nat, h < hl ∧ f 5 = nI h ∧ okP f h
theorem holdH.hold {f : Nat → Int32} {hl : Nat} (h : holdH f hl) (hl5 : hl ≤ 5) : hold f := by
  rcases h with h | ⟨k, hk, h⟩
  · exact Or.inl h
  · exact Or.inr ⟨k, by omega, h⟩
theorem okP_of {f g : Nat → Int32} {h : Nat} (hp : okP f h) (he : ∀ i, (i = 196 + h ∨ (201 + 140 * h ≤ i ∧ i < 201 + 140 * h + 140)) → g i = f i) : okP g h := by
  obtain ⟨n, hn, h2, h3⟩ := hp
  refine ⟨n, hn, (he _ (Or.inl rfl)).trans h2, ?_⟩
  rw [sdep_cong (f := fun i => f (201 + 140 * h + i)) (fun i hi => he _ (Or.inr (by omega)))]; exact h3
theorem holdH_of {f g : Nat → Int32} {hl : Nat} (h : holdH f hl) (hl5 : hl ≤ 5) (he : ∀ i, (i = 5 ∨ (196 ≤ i ∧ i < 196 + hl) ∨ (201 ≤ i ∧ i < 201 + 140 * hl)) → g i = f i) : holdH g hl := by
  rcases h with h | ⟨k, hk, h, hp⟩
  · exact Or.inl ((he 5 (Or.inl rfl)).trans h)
  · exact Or.inr ⟨k, hk, (he 5 (Or.inl rfl)).trans h, okP_of hp (fun i hi => he i (by omega))⟩
theorem PI.ok {f : Nat → Int32} {a d p E : Nat} {K : List Nat} (h : PI f a K d p E) : okP f a := by
  obtain ⟨a1, a2, a3, a4, a5, a6, a7, a8⟩ := h
  exact ⟨K.length, by omega, a4, by rw [a7]; exact Option.some_ne_none _⟩
theorem h0_PI {f : Nat → Int32} {a E : Nat} {x : Int32} (ha : a < 5) (hE : E ≤ 100) : PI (upd (upd f (191 + a) x) (196 + a) 0) a [] 0 0 E := ⟨ha, by omega, hE, pk_us, Nat.le_refl _, Nat.le_refl _, rfl, fun i hi => absurd hi (Nat.not_lt_zero i)⟩
theorem sg_stp {f : Int32} {C : List pCla} {c : pCla} {x : Int32} (h : x = if c.1 = 2 then nI c.2.1 else f) (h2 : f = nI (sgC C)) : x = nI (sgC (C ++ [c])) := by
  rw [sgC_add, h]
  split
  · rfl
  · exact h2
theorem hl_s1 {s : Nat → Nat} {E q : Nat} {c : pCla} (h : pCl s 0 = (some c, q)) : pHl s E = pAf s E (10 - 1) ([] ++ [c]) q := by
  rw [show 10 - 1 = 9 from rfl, List.nil_append]; exact hl_s h
theorem PI.fl {f : Nat → Int32} {a d p E : Nat} {C : List pCla} {c : pCla} (h : PI f a (flC C ++ fl1 c) d p E) : PI f a (flC (C ++ [c])) d p E := by rw [flC_add]; exact h
/-- behind a hill: what is kept -/
noncomputable def HQ (f g : Nat → Int32) : Prop := (∃ hl : Nat, hl ≤ 5 ∧ g 1 = nI hl ∧ holdH g hl) ∧ (∃ t : Nat, t ≤ 100 ∧ g 4 = nI t) ∧ ∀ i, i ≠ 1 → i ≠ 4 → i ≠ 5 → i < 191 → g i = f i
theorem HQ_bad {f f0 g : Nat → Int32} {hl : Nat} (h5 : hl < 5) (z1 : f 1 = nI hl) (hH : holdH f hl) (z0 : f0 4 = 0) (hF0 : ∀ i, i ≠ 4 → i ≠ 191 + hl → i ≠ 196 + hl → f0 i = f i) (hF : PQ hl f0 g) : HQ f g := by
  have e : ∀ i, i ≠ 4 → i ≠ 191 + hl → i ≠ 196 + hl → ¬ (201 + 140 * hl ≤ i ∧ i < 201 + 140 * hl + 140) → g i = f i := fun i a b c d => (hF i b c d).trans (hF0 i a b c)
  refine ⟨⟨hl, by omega, (e 1 (by omega) (by omega) (by omega) (by omega)).trans z1, holdH_of hH (by omega) (fun i hi => e i (by omega) (by omega) (by omega) (by omega))⟩, ⟨0, by omega, (hF 4 (by omega) (by omega) (by omega)).trans z0⟩, fun i _ a _ b => e i a (by omega) (by omega) (by omega)⟩
theorem HQ_good {f f0 g : Nat → Int32} {hl p E : Nat} {K : List Nat} (h5 : hl < 5) (z0 : f0 4 = 0) (hF0 : ∀ i, i ≠ 4 → i ≠ 191 + hl → i ≠ 196 + hl → f0 i = f i) (hF : PQ hl f0 g) (hI : PI g hl K 0 p E) : HQ f (upd (upd g 1 (nI (hl + 1))) 5 (nI hl)) := by
  have e : ∀ i, i ≠ 4 → i ≠ 191 + hl → i ≠ 196 + hl → ¬ (201 + 140 * hl ≤ i ∧ i < 201 + 140 * hl + 140) → g i = f i := fun i a b c d => (hF i b c d).trans (hF0 i a b c)
  refine ⟨⟨hl + 1, by omega, (pk_un (by omega)).trans pk_us, Or.inr ⟨hl, by omega, pk_us, okP_of hI.ok (fun i hi => by rw [pk_un (by omega), pk_un (by omega)])⟩⟩, ⟨0, by omega, ?_⟩, fun i a b c d => ?_⟩
  · rw [pk_un (by omega), pk_un (by omega)]; exact (hF 4 (by omega) (by omega) (by omega)).trans z0
  · rw [pk_un c, pk_un a]; exact e i b (by omega) (by omega) (by omega)
