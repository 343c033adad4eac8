
/-! the reference at every state: what its numbers keep to -/
noncomputable def stepd (x : Int32) (d : Nat) : Option Nat := if 0 ≤ x then (if x - x / 8 * 8 < 6 ∧ d < 60 then some (d + 1) else none) else if x = -1 then (if 1 ≤ d then some d else none) else if -10 < x then (if 2 ≤ d then some (d - 1) else none) else some 0
noncomputable def sdep (g : Nat → Int32) : Nat → Option Nat
  | 0 => some 0
  | i + 1 => match sdep g i with
    | none => none
    | some d => stepd (g i) d
noncomputable def okP (f : Nat → Int32) (h : Nat) : Prop := ∃ k : Nat, k ≤ 140 ∧ f (196 + h) = nI k ∧ sdep (fun i => f (201 + 140 * h + i)) k ≠ none
noncomputable def hold (f : Nat → Int32) : Prop := f 5 = -1 ∨ ∃ h : Nat, h < 5 ∧ f 5 = nI h ∧ okP f h
theorem sdep_le {g : Nat → Int32} {k : Nat} (h : sdep g k ≠ none) : ∀ i, i ≤ k → sdep g i ≠ none := by
  induction k with
  | zero => intro i hi; rw [Nat.le_zero.mp hi]; exact h
  | succ k ih =>
    intro i hi
    have h2 : sdep g k ≠ none := fun e => h (by simp only [sdep, e])
    rcases Nat.lt_or_ge i (k + 1) with q | q
    · exact ih h2 i (by omega)
    · rw [show i = k + 1 by omega]; exact h
theorem sdep_step {g : Nat → Int32} {k i d : Nat} (h : sdep g k ≠ none) (hi : i < k) (hd : sdep g i = some d) : ∃ d' : Nat, stepd (g i) d = some d' ∧ sdep g (i + 1) = some d' := by
  have h1 := sdep_le h (i + 1) (by omega)
  have e : sdep g (i + 1) = stepd (g i) d := by simp only [sdep, hd]
  rcases hq : stepd (g i) d with _ | d'
  · exact absurd (e.trans hq) h1
  · exact ⟨d', rfl, e.trans hq⟩
theorem stepd_t {x : Int32} {d d' : Nat} (h : stepd x d = some d') (hx : ¬ x < 0) : d' = d + 1 ∧ d < 60 ∧ ∃ j : Nat, j < 6 ∧ x - x / 8 * 8 = nI j := by
  have hx' : 0 ≤ x := Int32.not_lt.mp hx
  rw [stepd, if_pos hx'] at h
  by_cases q : x - x / 8 * 8 < 6 ∧ d < 60
  · rw [if_pos q] at h
    refine ⟨(Option.some.inj h).symm, q.2, ?_⟩
    obtain ⟨j, hj, rfl⟩ := nI_of hx
    rw [show (8 : Int32) = nI 8 from rfl, pk_rem hj (by omega) (by omega)] at q ⊢
    refine ⟨j % 8, ?_, rfl⟩
    exact (nI_ltI (b := 6) (by omega) (by omega)).mp q.1
  · rw [if_neg q] at h; exact absurd h (by simp)
theorem stepd_n {d d' : Nat} (h : stepd (-1) d = some d') : d' = d ∧ 1 ≤ d := by
  rw [stepd, if_neg (by decide), if_pos rfl] at h
  by_cases q : 1 ≤ d
  · rw [if_pos q] at h; exact ⟨(Option.some.inj h).symm, q⟩
  · rw [if_neg q] at h; exact absurd h (by simp)
theorem stepd_b {x : Int32} {d d' : Nat} (h : stepd x d = some d') (h0 : x < 0) (h1 : ¬ x = -1) (h2 : ¬ x ≤ -10) : d' = d - 1 ∧ 2 ≤ d := by
  rw [stepd, if_neg (Int32.not_le.mpr h0), if_neg h1, if_pos (Int32.not_le.mp h2)] at h
  by_cases q : 2 ≤ d
  · rw [if_pos q] at h; exact ⟨(Option.some.inj h).symm, q⟩
  · rw [if_neg q] at h; exact absurd h (by simp)
theorem stepd_c {x : Int32} {d d' : Nat} (h : stepd x d = some d') (h0 : x < 0) (h1 : ¬ x = -1) (h2 : x ≤ -10) : d' = 0 := by
  rw [stepd, if_neg (Int32.not_le.mpr h0), if_neg h1, if_neg (Int32.not_lt.mpr h2)] at h
  exact (Option.some.inj h).symm
theorem sdep_cong {f g : Nat → Int32} {k : Nat} (h : ∀ i, i < k → g i = f i) : sdep g k = sdep f k := by
  induction k with
  | zero => rfl
  | succ k ih => simp only [sdep, ih (fun i hi => h i (by omega)), h k (by omega)]
theorem hold_of {f g : Nat → Int32} (h : hold f) (he : ∀ i, i < 901 → (i = 5 ∨ 191 ≤ i) → g i = f i) : hold g := by
  rcases h with h | ⟨k, hk, h, n, hn, h2, h3⟩
  · exact Or.inl ((he 5 (by omega) (Or.inl rfl)).trans h)
  · refine Or.inr ⟨k, hk, (he 5 (by omega) (Or.inl rfl)).trans h, n, hn, (he _ (by omega) (Or.inr (by omega))).trans h2, ?_⟩
    rw [sdep_cong (f := fun i => f (201 + 140 * k + i)) (fun i hi => he _ (by omega) (Or.inr (by omega)))]; exact h3
theorem rg64 (x : Int64) : -(2 ^ 63 : Int) ≤ x.toInt ∧ x.toInt < (2 ^ 63 : Int) := ⟨Int64.le_toInt x, Int64.toInt_lt x⟩
theorem lrem_lt {u v : Int64} (hv : ¬ v = 0) : (u - u / v * v).toInt.natAbs < v.toInt.natAbs := by
  have hV : v.toInt ≠ 0 := fun e => hv (Int64.toInt_inj.mp (e.trans rfl))
  have e1 : (u - u / v * v).toInt = (u.toInt - u.toInt.tdiv v.toInt * v.toInt).bmod (2 ^ 64) := by
    rw [Int64.toInt_sub, Int64.toInt_mul, Int64.toInt_div, Int.bmod_mul_bmod, Int.sub_bmod_bmod]
  have e2 : u.toInt - u.toInt.tdiv v.toInt * v.toInt = u.toInt.tmod v.toInt := by
    have := Int.tmod_add_mul_tdiv u.toInt v.toInt
    rw [Int.mul_comm] at this
    omega
  have h3 : (u.toInt.tmod v.toInt).natAbs < v.toInt.natAbs := by
    rw [Int.natAbs_tmod]; exact Nat.mod_lt _ (Int.natAbs_pos.mpr hV)
  have h4 := rg64 v
  rw [e1, e2, Int.bmod_eq_of_le (by omega) (by omega)]
  exact h3
theorem nI_nm1 {n : Nat} (h : n < 2 ^ 31) : ¬ nI n = -1 := fun e => absurd (nI_pos' h) (by rw [e]; decide)
theorem nI_dec {n : Nat} (h : 1 ≤ n) : nI n + (-1) = nI (n - 1) := by
  obtain ⟨m, rfl⟩ : ∃ m, n = m + 1 := ⟨n - 1, by omega⟩
  exact pk_m1 m
theorem rc_of2 {a b : Nat} {x y : Int32} (ha : a ≤ 5) (hb : b ≤ 5) (ex : x = nI a) (ey : y = nI b) : ∃ k : Nat, k < 36 ∧ 6 * x + y = nI k := by
  subst ex ey
  refine ⟨6 * a + b, by omega, ?_⟩
  have e := pk_mul 6 a
  have e2 := nI_add (6 * a) b
  rw [← e2, ← e]
  rfl
theorem isheap_of {r h : Int32} {n : Nat} (hn : n ≤ 100) (q : (r = 1 ∧ ¬ h < 0 ∧ ¬ nI n - 1 < h) ∨ (r = 0 ∧ (h < 0 ∨ nI n - 1 < h))) : (r = 1 ∧ ∃ j : Nat, j < n ∧ h = nI j) ∨ (r = 0 ∧ ∀ j : Nat, j < n → h ≠ nI j) := by
  rcases Nat.eq_zero_or_pos n with e | e
  · subst e
    rcases q with ⟨q1, q2, q3⟩ | ⟨q1, q2⟩
    · exfalso
      have h3 : h ≤ nI 0 - 1 := Int32.not_lt.mp q3
      have h2 : (0 : Int32) ≤ h := Int32.not_lt.mp q2
      exact absurd (Int32.le_trans h2 h3) (by decide)
    · exact Or.inr ⟨q1, fun j hj => absurd hj (Nat.not_lt_zero j)⟩
  · have e1 : nI n - 1 = nI (n - 1) := pk_sub (a := n) (b := 1) e
    rw [e1] at q
    rcases q with ⟨q1, q2, q3⟩ | ⟨q1, q2⟩
    · obtain ⟨j, hj, e2⟩ := nI_of2 (n := n - 1) (nI_toInt (by omega)) q2 (Int32.not_lt.mp q3)
      exact Or.inl ⟨q1, j, by omega, e2⟩
    · refine Or.inr ⟨q1, fun j hj e2 => ?_⟩
      subst e2
      rcases q2 with q2 | q2
      · exact absurd q2 (nI_pos (by omega))
      · exact absurd q2 (nI_nlt (by omega) (by omega))

/-! what the answers are, as functions of what is visible -/
noncomputable def hh (n : Nat) (x : Int32) : Prop := ∃ j : Nat, j < n ∧ x = nI j
theorem hh_yes {n j : Nat} (h : j < n) : hh n (nI j) := ⟨j, h, rfl⟩
theorem hh_no {n : Nat} {x : Int32} (h : ∀ j : Nat, j < n → x ≠ nI j) : ¬ hh n x := fun ⟨j, hj, e⟩ => h j hj e
theorem i32_step {a b : Nat} (hb : b + 1 < 2 ^ 31) {x : Int32} (h : nI b < x) : nI (b + 1) ≤ x := by
  rw [Int32.le_iff_toInt_le, nI_toInt (by omega)]
  rw [Int32.lt_iff_toInt_lt, nI_toInt (by omega)] at h
  omega
theorem lt6_le7 {x : Int32} (h : 6 < x) : 7 ≤ x := i32_step (a := 0) (b := 6) (by omega) h
theorem le7_lt6 {x : Int32} (h : 7 ≤ x) : 6 < x := Int32.lt_of_lt_of_le (by decide) h
theorem lt5_le6 {x : Int32} (h : 5 < x) : 6 ≤ x := i32_step (a := 0) (b := 5) (by omega) h
theorem le6_lt5 {x : Int32} (h : 6 ≤ x) : 5 < x := Int32.lt_of_lt_of_le (by decide) h
theorem le36_lt35 {x : Int32} (h : 36 ≤ x) : 35 < x := Int32.lt_of_lt_of_le (by decide) h
theorem one3b {y : Int32} (h1 : ¬ y ≤ 0) (h2 : ¬ 4 ≤ y) : y = 1 ∨ y = 2 ∨ y = 3 := by
  have h3 : 0 < y := Int32.not_le.mp h1
  have h4 : y < 4 := Int32.not_le.mp h2
  obtain ⟨j, hj, rfl⟩ := nI_of2 (n := 4) (M := 4) (x := y) rfl (Int32.not_lt.mpr (Int32.le_of_lt h3)) (Int32.le_of_lt h4)
  have h5 : ¬ j = 0 := fun e => by subst e; exact absurd h3 (by decide)
  have h6 : ¬ j = 4 := fun e => by subst e; exact absurd h4 (by decide)
  have e : j = 1 ∨ j = 2 ∨ j = 3 := by omega
  rcases e with rfl | rfl | rfl
  · exact Or.inl rfl
  · exact Or.inr (Or.inl rfl)
  · exact Or.inr (Or.inr rfl)
/-- whether a cell has a heap: the reference's number of it -/
noncomputable def hoI (yc : Nat → Int32) (x : Int32) (i : Nat) (q : Int32) : Prop := (q = -1 ∧ ∀ k, k < i → ¬ yc k = x) ∨ (¬ q = -1 ∧ ∃ k, k < i ∧ yc k = x)
theorem ho_0 {yc : Nat → Int32} {x : Int32} : hoI yc x 0 (-1) := Or.inl ⟨rfl, fun k h => absurd h (Nat.not_lt_zero k)⟩
theorem ho_hit {yc : Nat → Int32} {x : Int32} {i : Nat} (hi : i < 1000) (e : yc i = x) : hoI yc x (i + 1) (nI i) := Or.inr ⟨nI_nm1 (by omega), i, by omega, e⟩
theorem ho_miss {yc : Nat → Int32} {x q : Int32} {i : Nat} (h : hoI yc x i q) (e : ¬ yc i = x) : hoI yc x (i + 1) q := by
  rcases h with ⟨h1, h2⟩ | ⟨h1, k, hk, h2⟩
  · refine Or.inl ⟨h1, fun k hk => ?_⟩
    by_cases z : k = i
    · rw [z]; exact e
    · exact h2 k (by omega)
  · exact Or.inr ⟨h1, k, by omega, h2⟩
theorem ho_end {yc : Nat → Int32} {x q : Int32} {i n : Nat} (h1 : n ≤ i) (h2 : i ≤ n) (h : hoI yc x i q) : hoI yc x n q := by
  rw [show n = i by omega]; exact h
noncomputable def hpR (n : Nat) (yc : Nat → Int32) (x y z : Int32) : Int32 := if (x < 0 ∨ 6 < x) ∨ (z < 0 ∨ 35 < z) then -1 else if y < 0 ∨ 9 < y then -2 else @ite Int32 (∃ k, k < n ∧ yc k = z) (Classical.propDecidable _) (-3) (if n = 8 then -4 else nI n)
section
variable {n : Nat} {yc : Nat → Int32} {x y z : Int32}
theorem no_ex (h : ∀ k, k < n → ¬ yc k = z) : ¬ ∃ k, k < n ∧ yc k = z := fun ⟨k, hk, e⟩ => h k hk e
theorem hp_none (h : (x < 0 ∨ 6 < x) ∨ (z < 0 ∨ 35 < z)) : -1 = hpR n yc x y z := by rw [hpR, if_pos h]
theorem hp_g (h1 : ¬ x < 0) (h2 : ¬ 6 < x) (h3 : ¬ z < 0) (h4 : ¬ 35 < z) : ¬ ((x < 0 ∨ 6 < x) ∨ (z < 0 ∨ 35 < z)) := fun q => by
  rcases q with (q | q) | (q | q)
  · exact h1 q
  · exact h2 q
  · exact h3 q
  · exact h4 q
theorem hp_y (h5 : ¬ y < 0) (h6 : ¬ 9 < y) : ¬ (y < 0 ∨ 9 < y) := fun q => by
  rcases q with q | q
  · exact h5 q
  · exact h6 q
theorem hp_bad (h1 : ¬ x < 0) (h2 : ¬ 6 < x) (h3 : ¬ z < 0) (h4 : ¬ 35 < z) (h : y < 0 ∨ 9 < y) : -2 = hpR n yc x y z := by rw [hpR, if_neg (hp_g h1 h2 h3 h4), if_pos h]
theorem hp_state (h1 : ¬ x < 0) (h2 : ¬ 6 < x) (h3 : ¬ z < 0) (h4 : ¬ 35 < z) (h5 : ¬ y < 0) (h6 : ¬ 9 < y) (h : ∃ k, k < n ∧ yc k = z) : -3 = hpR n yc x y z := by rw [hpR, if_neg (hp_g h1 h2 h3 h4), if_neg (hp_y h5 h6), if_pos h]
theorem hp_full (h1 : ¬ x < 0) (h2 : ¬ 6 < x) (h3 : ¬ z < 0) (h4 : ¬ 35 < z) (h5 : ¬ y < 0) (h6 : ¬ 9 < y) (h : ∀ k, k < n → ¬ yc k = z) (h8 : n = 8) : -4 = hpR n yc x y z := by rw [hpR, if_neg (hp_g h1 h2 h3 h4), if_neg (hp_y h5 h6), if_neg (no_ex h), if_pos h8]
theorem hp_ok (h1 : ¬ x < 0) (h2 : ¬ 6 < x) (h3 : ¬ z < 0) (h4 : ¬ 35 < z) (h5 : ¬ y < 0) (h6 : ¬ 9 < y) (h : ∀ k, k < n → ¬ yc k = z) (h8 : ¬ n = 8) : nI n = hpR n yc x y z := by rw [hpR, if_neg (hp_g h1 h2 h3 h4), if_neg (hp_y h5 h6), if_neg (no_ex h), if_neg h8]
end
noncomputable def bkR (n bz : Nat) (x : Int32) : Int32 := if x = -1 then 0 else @ite Int32 (hh n x) (Classical.propDecidable _) (if bz = 12 then -4 else nI (bz + 1)) (-1)
noncomputable def bkN (n bz : Nat) (x : Int32) : Nat := if x = -1 then 0 else @ite Nat (hh n x) (Classical.propDecidable _) (if bz = 12 then bz else bz + 1) bz
section
variable {n bz j : Nat} {x : Int32}
theorem bo_clear (h : x = -1) : 0 = bkR n bz x ∧ 0 = bkN n bz x := ⟨by rw [bkR, if_pos h], by rw [bkN, if_pos h]⟩
theorem bo_none (h : ¬ x = -1) (h2 : ∀ j : Nat, j < n → x ≠ nI j) : -1 = bkR n bz x ∧ bz = bkN n bz x := ⟨by rw [bkR, if_neg h, if_neg (hh_no h2)], by rw [bkN, if_neg h, if_neg (hh_no h2)]⟩
theorem bo_full (hn : n ≤ 8) (hj : j < n) (h : bz = 12) : -4 = bkR n bz (nI j) ∧ bz = bkN n bz (nI j) := ⟨by rw [bkR, if_neg (nI_nm1 (by omega)), if_pos (hh_yes hj), if_pos h], by rw [bkN, if_neg (nI_nm1 (by omega)), if_pos (hh_yes hj), if_pos h]⟩
theorem bo_one (hn : n ≤ 8) (hj : j < n) (h : ¬ bz = 12) : nI (bz + 1) = bkR n bz (nI j) ∧ bz + 1 = bkN n bz (nI j) := ⟨by rw [bkR, if_neg (nI_nm1 (by omega)), if_pos (hh_yes hj), if_neg h], by rw [bkN, if_neg (nI_nm1 (by omega)), if_pos (hh_yes hj), if_neg h]⟩
theorem bkN_le (h : bz ≤ 12) : bkN n bz x ≤ 12 := by
  by_cases h1 : x = -1
  · rw [bkN, if_pos h1]; omega
  · by_cases h2 : hh n x
    · by_cases h3 : bz = 12
      · rw [bkN, if_neg h1, if_pos h2, if_pos h3]; omega
      · rw [bkN, if_neg h1, if_pos h2, if_neg h3]; omega
    · rw [bkN, if_neg h1, if_neg h2]; exact h
end
/-- one kind under another -/
noncomputable abbrev isU (kind k : Int32) : Prop := k = 0 ∨ k = kind ∨ (k = 1 ∧ kind = 4) ∨ (k = 2 ∧ kind = 5) ∨ (k = 3 ∧ kind = 6)
theorem isU_a {x y : Int32} (h0 : ¬ y = 0) (h1 : ¬ y = x) (h2 : y ≤ 0) : ¬ isU x y := fun q => by
  rcases q with h | h | ⟨h, _⟩ | ⟨h, _⟩ | ⟨h, _⟩
  · exact h0 h
  · exact h1 h
  · rw [h] at h2; exact absurd h2 (by decide)
  · rw [h] at h2; exact absurd h2 (by decide)
  · rw [h] at h2; exact absurd h2 (by decide)
theorem isU_b {x y : Int32} (h0 : ¬ y = 0) (h1 : ¬ y = x) (h2 : 4 ≤ y) : ¬ isU x y := fun q => by
  rcases q with h | h | ⟨h, _⟩ | ⟨h, _⟩ | ⟨h, _⟩
  · exact h0 h
  · exact h1 h
  · rw [h] at h2; exact absurd h2 (by decide)
  · rw [h] at h2; exact absurd h2 (by decide)
  · rw [h] at h2; exact absurd h2 (by decide)
theorem isU_1 {x : Int32} (h1 : ¬ (1 : Int32) = x) (h2 : ¬ x = 4) : ¬ isU x 1 := fun q => by
  rcases q with h | h | ⟨_, h⟩ | ⟨h, _⟩ | ⟨h, _⟩
  · exact absurd h (by decide)
  · exact h1 h
  · exact h2 h
  · exact absurd h (by decide)
  · exact absurd h (by decide)
theorem isU_2 {x : Int32} (h1 : ¬ (2 : Int32) = x) (h2 : ¬ x = 5) : ¬ isU x 2 := fun q => by
  rcases q with h | h | ⟨h, _⟩ | ⟨_, h⟩ | ⟨h, _⟩
  · exact absurd h (by decide)
  · exact h1 h
  · exact absurd h (by decide)
  · exact h2 h
  · exact absurd h (by decide)
theorem isU_3 {x : Int32} (h1 : ¬ (3 : Int32) = x) (h2 : ¬ x = 6) : ¬ isU x 3 := fun q => by
  rcases q with h | h | ⟨h, _⟩ | ⟨h, _⟩ | ⟨_, h⟩
  · exact absurd h (by decide)
  · exact h1 h
  · exact absurd h (by decide)
  · exact absurd h (by decide)
  · exact h2 h
noncomputable def asR (n : Nat) (yk yv : Nat → Int32) (x y : Int32) : Int32 := @ite Int32 (hh n x) (Classical.propDecidable _) (if y < 0 ∨ 6 < y then -1 else if isU (yk x.toNatClampNeg) y then yv x.toNatClampNeg else -6) (-1)
section
variable {n j : Nat} {yk yv : Nat → Int32} {x y : Int32}
theorem as_y (h1 : ¬ y < 0) (h2 : ¬ 6 < y) : ¬ (y < 0 ∨ 6 < y) := fun q => q.elim h1 h2
theorem as_no (h : ∀ j : Nat, j < n → x ≠ nI j) : -1 = asR n yk yv x y := by rw [asR, if_neg (hh_no h)]
theorem as_bad (hn : n ≤ 8) (hj : j < n) (h : y < 0 ∨ 6 < y) : -1 = asR n yk yv (nI j) y := by rw [asR, if_pos (hh_yes hj), if_pos h]
theorem as_yes (hn : n ≤ 8) (hj : j < n) (h1 : ¬ y < 0) (h2 : ¬ 6 < y) (hU : isU (yk j) y) : yv j = asR n yk yv (nI j) y := by rw [asR, if_pos (hh_yes hj), if_neg (as_y h1 h2), nI_clamp (by omega), if_pos hU]
theorem as_not (hn : n ≤ 8) (hj : j < n) (h1 : ¬ y < 0) (h2 : ¬ 6 < y) (hU : ¬ isU (yk j) y) : -6 = asR n yk yv (nI j) y := by rw [asR, if_pos (hh_yes hj), if_neg (as_y h1 h2), nI_clamp (by omega), if_neg hU]
end
noncomputable def nxW (a b c : Int32) : Int32 := 3 * (c / 6) - 3 * (b / 6) + a / 6
noncomputable def nxL (a b c : Int32) : Int32 := 3 * (c - c / 6 * 6) - 3 * (b - b / 6 * 6) + (a - a / 6 * 6)
noncomputable def nxA (a b c : Int32) : Int32 := if (nxW a b c < 0 ∨ 5 < nxW a b c) ∨ (nxL a b c < 0 ∨ 5 < nxL a b c) then -5 else nxW a b c * 6 + nxL a b c
noncomputable def nxR (n : Nat) (yc : Nat → Int32) (x y z : Int32) : Int32 := @ite Int32 (hh n x ∧ hh n y ∧ hh n z) (Classical.propDecidable _) (nxA (yc x.toNatClampNeg) (yc y.toNatClampNeg) (yc z.toNatClampNeg)) (-1)
section
variable {n j1 j2 j3 : Nat} {yc : Nat → Int32} {x y z : Int32}
theorem nx_no1 (h : ∀ j : Nat, j < n → x ≠ nI j) : -1 = nxR n yc x y z := by rw [nxR, if_neg (show ¬ (hh n x ∧ hh n y ∧ hh n z) from fun q => hh_no h q.1)]
theorem nx_no2 (h : ∀ j : Nat, j < n → y ≠ nI j) : -1 = nxR n yc x y z := by rw [nxR, if_neg (show ¬ (hh n x ∧ hh n y ∧ hh n z) from fun q => hh_no h q.2.1)]
theorem nx_no3 (h : ∀ j : Nat, j < n → z ≠ nI j) : -1 = nxR n yc x y z := by rw [nxR, if_neg (show ¬ (hh n x ∧ hh n y ∧ hh n z) from fun q => hh_no h q.2.2)]
theorem nx_all (hn : n ≤ 8) (h1 : j1 < n) (h2 : j2 < n) (h3 : j3 < n) : nxR n yc (nI j1) (nI j2) (nI j3) = nxA (yc j1) (yc j2) (yc j3) := by rw [nxR, if_pos ⟨hh_yes h1, hh_yes h2, hh_yes h3⟩, nI_clamp (by omega), nI_clamp (by omega), nI_clamp (by omega)]
theorem nx_off (hn : n ≤ 8) (h1 : j1 < n) (h2 : j2 < n) (h3 : j3 < n) (h : (nxW (yc j1) (yc j2) (yc j3) < 0 ∨ 5 < nxW (yc j1) (yc j2) (yc j3)) ∨ (nxL (yc j1) (yc j2) (yc j3) < 0 ∨ 5 < nxL (yc j1) (yc j2) (yc j3))) : -5 = nxR n yc (nI j1) (nI j2) (nI j3) := by rw [nx_all hn h1 h2 h3, nxA, if_pos h]
theorem nx_on (hn : n ≤ 8) (h1 : j1 < n) (h2 : j2 < n) (h3 : j3 < n) (g1 : ¬ nxW (yc j1) (yc j2) (yc j3) < 0) (g2 : ¬ 5 < nxW (yc j1) (yc j2) (yc j3)) (g3 : ¬ nxL (yc j1) (yc j2) (yc j3) < 0) (g4 : ¬ 5 < nxL (yc j1) (yc j2) (yc j3)) : nxW (yc j1) (yc j2) (yc j3) * 6 + nxL (yc j1) (yc j2) (yc j3) = nxR n yc (nI j1) (nI j2) (nI j3) := by
  have hg : ¬ ((nxW (yc j1) (yc j2) (yc j3) < 0 ∨ 5 < nxW (yc j1) (yc j2) (yc j3)) ∨ (nxL (yc j1) (yc j2) (yc j3) < 0 ∨ 5 < nxL (yc j1) (yc j2) (yc j3))) := fun q => by
    rcases q with (q | q) | (q | q)
    · exact g1 q
    · exact g2 q
    · exact g3 q
    · exact g4 q
  rw [nx_all hn h1 h2 h3, nxA, if_neg hg]
theorem nx_in (hn : n ≤ 8) (h1 : j1 < n) (h2 : j2 < n) (h3 : j3 < n) (g1 : ¬ nxW (yc j1) (yc j2) (yc j3) < 0) (g2 : ¬ 5 < nxW (yc j1) (yc j2) (yc j3)) (g3 : ¬ nxL (yc j1) (yc j2) (yc j3) < 0) (g4 : ¬ 5 < nxL (yc j1) (yc j2) (yc j3)) : 6 * nxW (yc j1) (yc j2) (yc j3) + nxL (yc j1) (yc j2) (yc j3) = nxR n yc (nI j1) (nI j2) (nI j3) := by
  rw [Int32.mul_comm]; exact nx_on hn h1 h2 h3 g1 g2 g3 g4
end
theorem hill_off {a b : Int32} (h : (a < 0 ∨ 6 ≤ a) ∨ (b < 0 ∨ 6 ≤ b)) : (a < 0 ∨ 5 < a) ∨ (b < 0 ∨ 5 < b) := by
  rcases h with (h | h) | (h | h)
  · exact Or.inl (Or.inl h)
  · exact Or.inl (Or.inr (le6_lt5 h))
  · exact Or.inr (Or.inl h)
  · exact Or.inr (Or.inr (le6_lt5 h))
theorem hp_cell {z : Int32} (h : z < 0 ∨ 36 ≤ z) : z < 0 ∨ 35 < z := h.imp id le36_lt35
/-! acts: what they answer, which bodies run -/
noncomputable def acS (k m v x : Int32) : Int32 := if isU k 1 then x * 3 + m else if k = 5 then (x + m) ^^^ m else x + m
noncomputable def acG (k m v x : Int32) : Int32 := if isU k 2 then -(acS k m v x - v) else if k = 6 then acS k m v x - v + v else acS k m v x - v
noncomputable def acL (k m v x : Int32) : Int32 := if isU k 3 then (acG k m v x * 2) ^^^ 7 else if k = 4 then acG k m v (x - 1) * 2 + acS k m v 2 else acG k m v x * 2
noncomputable def btS (k : Int32) : List Nat := if isU k 1 then [11, 1] else if k = 5 then [51, 1] else [1]
noncomputable def btG (k : Int32) : List Nat := if isU k 2 then 21 :: 2 :: btS k else if k = 6 then 61 :: 2 :: btS k else 2 :: btS k
noncomputable def btL (k : Int32) : List Nat := if isU k 3 then 31 :: 3 :: btG k else if k = 4 then 41 :: 3 :: (btG k ++ btS k) else 3 :: btG k
section
variable {k m v x : Int32}
theorem acS_1 (h : isU k 1) : x * 3 + m = acS k m v x := by rw [acS, if_pos h]
theorem acS_5 (h : ¬ isU k 1) (h2 : k = 5) : (x + m) ^^^ m = acS k m v x := by rw [acS, if_neg h, if_pos h2]
theorem acS_0 (h : ¬ isU k 1) (h2 : ¬ k = 5) : x + m = acS k m v x := by rw [acS, if_neg h, if_neg h2]
theorem acG_2 (h : isU k 2) : -(acS k m v x - v) = acG k m v x := by rw [acG, if_pos h]
theorem acG_6 (h : ¬ isU k 2) (h2 : k = 6) : acS k m v x - v + v = acG k m v x := by rw [acG, if_neg h, if_pos h2]
theorem acG_0 (h : ¬ isU k 2) (h2 : ¬ k = 6) : acS k m v x - v = acG k m v x := by rw [acG, if_neg h, if_neg h2]
theorem acL_3 (h : isU k 3) : (acG k m v x * 2) ^^^ 7 = acL k m v x := by rw [acL, if_pos h]
theorem acL_4 (h : ¬ isU k 3) (h2 : k = 4) : acG k m v (x - 1) * 2 + acS k m v 2 = acL k m v x := by rw [acL, if_neg h, if_pos h2]
theorem acL_0 (h : ¬ isU k 3) (h2 : ¬ k = 4) : acG k m v x * 2 = acL k m v x := by rw [acL, if_neg h, if_neg h2]
theorem btS_1 (h : isU k 1) : btS k = [11, 1] := if_pos h
theorem btS_5 (h : ¬ isU k 1) (h2 : k = 5) : btS k = [51, 1] := by rw [btS, if_neg h, if_pos h2]
theorem btS_0 (h : ¬ isU k 1) (h2 : ¬ k = 5) : btS k = [1] := by rw [btS, if_neg h, if_neg h2]
theorem btG_2 (h : isU k 2) : btG k = 21 :: 2 :: btS k := if_pos h
theorem btG_6 (h : ¬ isU k 2) (h2 : k = 6) : btG k = 61 :: 2 :: btS k := by rw [btG, if_neg h, if_pos h2]
theorem btG_0 (h : ¬ isU k 2) (h2 : ¬ k = 6) : btG k = 2 :: btS k := by rw [btG, if_neg h, if_neg h2]
theorem btL_3 (h : isU k 3) : btL k = 31 :: 3 :: btG k := if_pos h
theorem btL_4 (h : ¬ isU k 3) (h2 : k = 4) : btL k = 41 :: 3 :: (btG k ++ btS k) := by rw [btL, if_neg h, if_pos h2]
theorem btL_0 (h : ¬ isU k 3) (h2 : ¬ k = 4) : btL k = 3 :: btG k := by rw [btL, if_neg h, if_neg h2]
theorem btS_le (k : Int32) : (btS k).length ≤ 2 := by
  by_cases h : isU k 1
  · rw [btS_1 h]; exact Nat.le_refl _
  · by_cases h2 : k = 5
    · rw [btS_5 h h2]; exact Nat.le_refl _
    · rw [btS_0 h h2]; exact Nat.le_of_ble_eq_true rfl
theorem btG_le (k : Int32) : (btG k).length ≤ 4 := by
  have q := btS_le k
  by_cases h : isU k 2
  · rw [btG_2 h]; simp only [List.length_cons]; omega
  · by_cases h2 : k = 6
    · rw [btG_6 h h2]; simp only [List.length_cons]; omega
    · rw [btG_0 h h2]; simp only [List.length_cons]; omega
theorem btL_le (k : Int32) : (btL k).length ≤ 8 := by
  have q := btS_le k
  have q2 := btG_le k
  by_cases h : isU k 3
  · rw [btL_3 h]; simp only [List.length_cons]; omega
  · by_cases h2 : k = 4
    · rw [btL_4 h h2]; simp only [List.length_cons, List.length_append]; omega
    · rw [btL_0 h h2]; simp only [List.length_cons]; omega
end
noncomputable def acR (n : Nat) (yk yv : Nat → Int32) (x y z : Int32) : Int32 := @ite Int32 (hh n x) (Classical.propDecidable _) (if y = 0 then acS (yk x.toNatClampNeg) x (yv x.toNatClampNeg) z else if y = 1 then acG (yk x.toNatClampNeg) x (yv x.toNatClampNeg) z else if y = 2 then acL (yk x.toNatClampNeg) x (yv x.toNatClampNeg) z else 0) 0
noncomputable def acT (n : Nat) (yk : Nat → Int32) (x y : Int32) : List Nat := @ite (List Nat) (hh n x) (Classical.propDecidable _) (if y = 0 then btS (yk x.toNatClampNeg) else if y = 1 then btG (yk x.toNatClampNeg) else if y = 2 then btL (yk x.toNatClampNeg) else []) []
section
variable {n j : Nat} {yk yv : Nat → Int32} {x y z : Int32}
theorem ac_no (h : ∀ j : Nat, j < n → x ≠ nI j) : 0 = acR n yk yv x y z ∧ acT n yk x y = [] := ⟨by rw [acR, if_neg (hh_no h)], by rw [acT, if_neg (hh_no h)]⟩
theorem ac_bad (hj : j < n) (h0 : ¬ y = 0) (h1 : ¬ y = 1) (h2 : ¬ y = 2) : 0 = acR n yk yv (nI j) y z ∧ acT n yk (nI j) y = [] := ⟨by rw [acR, if_pos (hh_yes hj), if_neg h0, if_neg h1, if_neg h2], by rw [acT, if_pos (hh_yes hj), if_neg h0, if_neg h1, if_neg h2]⟩
theorem ac_bad2 (hj : j < n) (h : y < 0 ∨ 2 < y) : 0 = acR n yk yv (nI j) y z ∧ acT n yk (nI j) y = [] := by
  refine ac_bad hj (fun e => ?_) (fun e => ?_) (fun e => ?_)
  · rw [e] at h; exact absurd h (by decide)
  · rw [e] at h; exact absurd h (by decide)
  · rw [e] at h; exact absurd h (by decide)
theorem ac_0 (hn : n ≤ 8) (hj : j < n) (h : y = 0) : acS (yk j) (nI j) (yv j) z = acR n yk yv (nI j) y z ∧ acT n yk (nI j) y = btS (yk j) := ⟨by rw [acR, if_pos (hh_yes hj), if_pos h, nI_clamp (by omega)], by rw [acT, if_pos (hh_yes hj), if_pos h, nI_clamp (by omega)]⟩
theorem ac_1 (hn : n ≤ 8) (hj : j < n) (h : y = 1) : acG (yk j) (nI j) (yv j) z = acR n yk yv (nI j) y z ∧ acT n yk (nI j) y = btG (yk j) := by
  subst h
  exact ⟨by rw [acR, if_pos (hh_yes hj), if_neg (by decide), if_pos rfl, nI_clamp (by omega)], by rw [acT, if_pos (hh_yes hj), if_neg (by decide), if_pos rfl, nI_clamp (by omega)]⟩
theorem ac_2 (hn : n ≤ 8) (hj : j < n) (h : y = 2) : acL (yk j) (nI j) (yv j) z = acR n yk yv (nI j) y z ∧ acT n yk (nI j) y = btL (yk j) := by
  subst h
  exact ⟨by rw [acR, if_pos (hh_yes hj), if_neg (by decide), if_neg (by decide), if_pos rfl, nI_clamp (by omega)], by rw [acT, if_pos (hh_yes hj), if_neg (by decide), if_neg (by decide), if_pos rfl, nI_clamp (by omega)]⟩
theorem y_is2 (h1 : ¬ y < 0) (h2 : ¬ 2 < y) (h3 : ¬ y = 0) (h4 : ¬ y = 1) : y = 2 := by
  obtain ⟨i, hi, rfl⟩ := nI_of2 (n := 2) (M := 2) (x := y) rfl h1 (Int32.not_lt.mp h2)
  have e : i = 0 ∨ i = 1 ∨ i = 2 := by omega
  rcases e with rfl | rfl | rfl
  · exact absurd rfl h3
  · exact absurd rfl h4
  · rfl
theorem acT_le : (acT n yk x y).length ≤ 8 := by
  by_cases h : hh n x
  · rw [acT, if_pos h]
    have q1 := btS_le (yk x.toNatClampNeg)
    have q2 := btG_le (yk x.toNatClampNeg)
    have q3 := btL_le (yk x.toNatClampNeg)
    split
    · omega
    · split
      · omega
      · split
        · omega
        · exact Nat.zero_le _
  · rw [acT, if_neg h]; exact Nat.zero_le _
end
/-! the bodies of the last act -/
theorem getD_l {L M : List Nat} {k : Nat} (h : k < L.length) : (L ++ M).getD k 0 = L.getD k 0 := by
  rw [List.getD_eq_getElem?_getD, List.getElem?_append_left h, ← List.getD_eq_getElem?_getD]
theorem getD_r {L : List Nat} {b : Nat} : (L ++ [b]).getD L.length 0 = b := by
  rw [List.getD_eq_getElem?_getD, List.getElem?_append_right (Nat.le_refl _), Nat.sub_self]; rfl
noncomputable def okY (f : Nat → Int32) (L : List Nat) : Prop := ∀ k, k < L.length → f k = nI (L.getD k 0)
theorem okY_nil {f : Nat → Int32} : okY f [] := fun k h => absurd h (Nat.not_lt_zero k)
theorem okY_add {f : Nat → Int32} {L : List Nat} {b : Nat} (h : okY f L) : okY (upd f L.length (nI b)) (L ++ [b]) := by
  intro k hk
  rw [List.length_append] at hk
  have hk : k < L.length + 1 := hk
  by_cases q : k = L.length
  · subst q; rw [pk_us, getD_r]
  · rw [pk_un q, getD_l (by omega)]; exact h k (by omega)
noncomputable def trR (L : List Nat) (x : Int32) : Int32 := @ite Int32 (hh L.length x) (Classical.propDecidable _) (nI (L.getD x.toNatClampNeg 0)) (-1)
theorem tr_no {L : List Nat} {x : Int32} (h : ∀ j : Nat, j < L.length → x ≠ nI j) : -1 = trR L x := by rw [trR, if_neg (hh_no h)]
theorem tr_yes {L : List Nat} {j : Nat} (hL : L.length ≤ 100) (hj : j < L.length) : nI (L.getD j 0) = trR L (nI j) := by rw [trR, if_pos (hh_yes hj), nI_clamp (by omega)]
theorem trL_of {x : Int32} {k : Nat} (hk : k ≤ 20) (h1 : ¬ x < 0) (h2 : ¬ nI k - 1 < x) : ∃ j : Nat, j < k ∧ x = nI j := by
  rcases isheap_of (n := k) (r := 1) (h := x) (by omega) (Or.inl ⟨rfl, h1, h2⟩) with ⟨_, j, hj, e⟩ | ⟨e, _⟩
  · exact ⟨j, hj, e⟩
  · exact absurd e (by decide)
theorem trL_no {x : Int32} {k : Nat} (hk : k ≤ 20) (h : x < 0 ∨ nI k - 1 < x) : ∀ j : Nat, j < k → x ≠ nI j := by
  rcases isheap_of (n := k) (r := 0) (h := x) (by omega) (Or.inr ⟨rfl, h⟩) with ⟨e, _⟩ | ⟨_, q⟩
  · exact absurd e (by decide)
  · exact q

noncomputable def bt (x : Int32) (i : Nat) : Bool := x.toBitVec.getLsbD i
theorem b_ext {x y : Int32} (h : ∀ i, i < 32 → bt x i = bt y i) : x = y := Int32.toBitVec_inj.mp (BitVec.eq_of_getLsbD_eq (fun i hi => h i hi))
theorem b_or (x y : Int32) (i : Nat) : bt (x ||| y) i = (bt x i || bt y i) := by unfold bt; rw [Int32.toBitVec_or, BitVec.getLsbD_or]
theorem b_and (x y : Int32) (i : Nat) : bt (x &&& y) i = (bt x i && bt y i) := by unfold bt; rw [Int32.toBitVec_and, BitVec.getLsbD_and]
theorem b_xor (x y : Int32) (i : Nat) : bt (x ^^^ y) i = (bt x i ^^ bt y i) := by unfold bt; rw [Int32.toBitVec_xor, BitVec.getLsbD_xor]
theorem b_0 (i : Nat) : bt 0 i = false := BitVec.getLsbD_zero
theorem s_l : ∀ n, n < 32 → ((nI n &&& 31).toBitVec.smod 32).toNat = n := by decide +kernel
theorem b_shl (n : Nat) (hn : n < 32) (x : Int32) {i : Nat} (hi : i < 32) : bt (x <<< (nI n &&& 31)) i = (decide (n ≤ i) && bt x (i - n)) := by
  unfold bt
  rw [Int32.toBitVec_shiftLeft]
  show (x.toBitVec <<< ((nI n &&& 31).toBitVec.smod 32).toNat).getLsbD i = _
  rw [s_l n hn, BitVec.getLsbD_shiftLeft]
  rcases Nat.lt_or_ge i n with h | h
  · simp [h, Nat.not_le.mpr h]
  · simp [hi, h, Nat.not_lt.mpr h]
theorem b_sshr (n : Nat) (hn : n < 32) (x : Int32) {i : Nat} (hi : i < 32) : bt (x >>> (nI n &&& 31)) i = if n + i < 32 then bt x (n + i) else bt x 31 := by
  unfold bt
  rw [Int32.toBitVec_shiftRight]
  show (x.toBitVec.sshiftRight ((nI n &&& 31).toBitVec.smod 32).toNat).getLsbD i = _
  rw [s_l n hn, BitVec.getLsbD_sshiftRight, BitVec.msb_eq_getLsbD_last]
  simp [hi]
theorem wb_tb (n : Nat) : (lN n).toBitVec = BitVec.ofNat 64 n := rfl
theorem wb_inj {a b : Int64} (h : a.toBitVec = b.toBitVec) : a = b := Int64.toBitVec_inj.mp h
theorem wb_tn {n : Nat} (h : n < 2 ^ 64) : (lN n).toBitVec.toNat = n := by rw [wb_tb, BitVec.toNat_ofNat, Nat.mod_eq_of_lt h]
theorem wb_of (x : Int64) : ∃ n, n < 2 ^ 64 ∧ x = lN n := ⟨x.toBitVec.toNat, x.toBitVec.isLt, wb_inj (by rw [wb_tb]; simp)⟩
theorem wb_c : ∀ k, k < 64 → ((nI k).toInt64 &&& 63) = lN k := by decide +kernel
theorem wb_cu : ∀ k, k < 64 → ((nI k).toInt64.toUInt64 &&& Int64.toUInt64 63) = UInt64.ofNat k := by decide +kernel
theorem wb_sm : ∀ k, k < 64 → (BitVec.ofNat 64 k).smod 64 = BitVec.ofNat 64 k := by decide +kernel
theorem wb_pw {a b : Nat} (h : a ≤ b) : 2 ^ b = 2 ^ a * 2 ^ (b - a) := by rw [← Nat.pow_add]; congr 1; omega
theorem wb_lt2 {a b : Nat} (h : a < b) : 2 ^ a < 2 ^ b := Nat.pow_lt_pow_right (by decide) h
theorem wb_shr {n k : Nat} (hn : n < 2 ^ 64) (hk : k < 64) : ((lN n).toUInt64 >>> ((nI k).toInt64.toUInt64 &&& Int64.toUInt64 63)).toInt64 = lN (n / 2 ^ k) := by
  rw [wb_cu k hk]
  apply wb_inj
  apply BitVec.eq_of_toNat_eq
  show ((lN n).toUInt64 >>> UInt64.ofNat k).toNat = (BitVec.ofNat 64 _).toNat
  have h1 : (UInt64.ofNat k).toNat = k := by
    show (BitVec.ofNat 64 k).toNat = k
    rw [BitVec.toNat_ofNat, Nat.mod_eq_of_lt (by omega)]
  have h2 : (lN n).toUInt64.toNat = n := wb_tn hn
  rw [UInt64.toNat_shiftRight, h1, h2, Nat.mod_eq_of_lt hk, Nat.shiftRight_eq_div_pow, BitVec.toNat_ofNat, Nat.mod_eq_of_lt (Nat.lt_of_le_of_lt (Nat.div_le_self _ _) hn)]
theorem wb_and {a b : Nat} (ha : a < 2 ^ 64) (hb : b < 2 ^ 64) : lN a &&& lN b = lN (a &&& b) := by
  apply wb_inj
  rw [Int64.toBitVec_and, wb_tb, wb_tb, wb_tb]
  apply BitVec.eq_of_toNat_eq
  rw [BitVec.toNat_and, BitVec.toNat_ofNat, BitVec.toNat_ofNat, BitVec.toNat_ofNat, Nat.mod_eq_of_lt ha, Nat.mod_eq_of_lt hb, Nat.mod_eq_of_lt (Nat.and_lt_two_pow _ hb)]
theorem wb_mask {n k : Nat} (hn : n < 2 ^ 64) (hk : k < 64) : lN n &&& lN (2 ^ k - 1) = lN (n % 2 ^ k) := by
  rw [wb_and hn (by have := wb_lt2 hk; omega), Nat.and_two_pow_sub_one_eq_mod]
theorem wb_a1 {n : Nat} (hn : n < 2 ^ 64) : lN n &&& 1 = lN (n % 2) := wb_mask (k := 1) hn (by decide)
theorem pf_lI {a : Nat} (h : a < 2 ^ 63) : (lN a).toInt = (a : Int) := lg_ofNat_toInt h
theorem pf_shr {a d : Nat} {D : Int64} (hD : (D.toBitVec.smod 64).toNat = d) (h : a < 2 ^ 62) : lN a >>> D = lN (a / 2 ^ d) := by
  have hd : a / 2 ^ d ≤ a := Nat.div_le_self _ _
  apply Int64.toInt_inj.mp
  have e : (lN a >>> D).toInt = (lN a).toInt >>> d := by
    rw [← hD]
    exact BitVec.toInt_sshiftRight ..
  rw [e, Int.shiftRight_eq_div_pow, pf_lI (by omega), pf_lI (by omega)]
  rfl
theorem cr_bits (W U M : BitVec 64) : ((W &&& U) &&& (U &&& (M ^^^ BitVec.allOnes 64))) = 0#64 ↔ (W &&& U) &&& M = W &&& U := by
  constructor
  · intro h
    apply BitVec.eq_of_getLsbD_eq
    intro i hi
    have e := congrArg (fun x => BitVec.getLsbD x i) h
    simp only [BitVec.getLsbD_and, BitVec.getLsbD_xor, BitVec.getLsbD_allOnes, BitVec.getLsbD_zero, hi, decide_true] at e ⊢
    revert e
    cases W.getLsbD i <;> cases U.getLsbD i <;> cases M.getLsbD i <;> decide
  · intro h
    apply BitVec.eq_of_getLsbD_eq
    intro i hi
    have e := congrArg (fun x => BitVec.getLsbD x i) h
    simp only [BitVec.getLsbD_and, BitVec.getLsbD_xor, BitVec.getLsbD_allOnes, BitVec.getLsbD_zero, hi, decide_true] at e ⊢
    revert e
    cases W.getLsbD i <;> cases U.getLsbD i <;> cases M.getLsbD i <;> decide
theorem cr_mask (w U m : Int64) (n : Nat) (hm : m.toBitVec.toNat = 2 ^ n - 1) : ((w &&& U) &&& (U &&& (m ^^^ (-1)))) = 0 ↔ (w &&& U).toBitVec.toNat < 2 ^ n := by
  have e0 : (-1 : Int64).toBitVec = BitVec.allOnes 64 := by decide
  have z0 : (0 : Int64).toBitVec = 0#64 := by decide
  rw [← Int64.toBitVec_inj, z0, Int64.toBitVec_and, Int64.toBitVec_and, Int64.toBitVec_and, Int64.toBitVec_xor, e0, cr_bits]
  generalize w.toBitVec &&& U.toBitVec = T
  rw [← BitVec.toNat_inj, BitVec.toNat_and, hm, Nat.and_two_pow_sub_one_eq_mod]
  constructor
  · intro h
    have t := Nat.mod_lt T.toNat (Nat.two_pow_pos n)
    rw [h] at t
    exact t
  · exact Nat.mod_eq_of_lt
/-! how many bits a number has -/
theorem ld_sp {a b c d : Nat} (ha : a < 256) (hc : c < 256) : (256 * b + a) &&& (256 * d + c) = 256 * (b &&& d) + (a &&& c) := by
  apply Nat.eq_of_testBit_eq
  intro i
  have h : (a &&& c) < 2 ^ 8 := Nat.lt_of_le_of_lt Nat.and_le_left ha
  rw [Nat.testBit_and, show (256 : Nat) = 2 ^ 8 from rfl, Nat.testBit_two_pow_mul_add b (show a < 2 ^ 8 from ha), Nat.testBit_two_pow_mul_add d (show c < 2 ^ 8 from hc), Nat.testBit_two_pow_mul_add _ h]
  split
  · rw [Nat.testBit_and]
  · rw [Nat.testBit_and]
noncomputable def mapB (g : Nat → Nat) : Nat → Nat → Nat
  | 0, _ => 0
  | k + 1, e => 256 * mapB g k (e / 256) + g (e % 256)
noncomputable def mskB (c : Nat) : Nat → Nat
  | 0 => 0
  | k + 1 => 256 * mskB c k + c
theorem m256 (x : Nat) : x % 256 < 256 := Nat.mod_lt _ (by decide)
theorem mb_and {c : Nat} (hc : c < 256) : ∀ k x, x &&& mskB c k = mapB (fun d => d &&& c) k x
  | 0, x => Nat.and_zero x
  | k + 1, x => by
    have e : x = 256 * (x / 256) + x % 256 := (Nat.div_add_mod x 256).symm
    show x &&& (256 * mskB c k + c) = 256 * mapB (fun d => d &&& c) k (x / 256) + (x % 256 &&& c)
    rw [← mb_and hc k (x / 256), ← ld_sp (m256 x) hc, ← e]
theorem mb_2 {c : Nat} (hb : ∀ d, d < 256 → ∀ b, b < 2 → (d / 2 + 128 * b) &&& c = (d / 2) &&& c) : ∀ k x, mapB (fun d => d &&& c) k (x / 2) = mapB (fun d => (d / 2) &&& c) k x
  | 0, _ => rfl
  | k + 1, x => by
    show 256 * mapB (fun d => d &&& c) k (x / 2 / 256) + (x / 2 % 256 &&& c) = 256 * mapB (fun d => (d / 2) &&& c) k (x / 256) + (x % 256 / 2 &&& c)
    rw [show x / 2 / 256 = x / 256 / 2 by omega, mb_2 hb k (x / 256), show x / 2 % 256 = x % 256 / 2 + 128 * (x / 256 % 2) by omega, hb _ (m256 x) _ (Nat.mod_lt _ (by decide))]
theorem mb_4 {c : Nat} (hb : ∀ d, d < 256 → ∀ b, b < 4 → (d / 4 + 64 * b) &&& c = (d / 4) &&& c) : ∀ k x, mapB (fun d => d &&& c) k (x / 4) = mapB (fun d => (d / 4) &&& c) k x
  | 0, _ => rfl
  | k + 1, x => by
    show 256 * mapB (fun d => d &&& c) k (x / 4 / 256) + (x / 4 % 256 &&& c) = 256 * mapB (fun d => (d / 4) &&& c) k (x / 256) + (x % 256 / 4 &&& c)
    rw [show x / 4 / 256 = x / 256 / 4 by omega, mb_4 hb k (x / 256), show x / 4 % 256 = x % 256 / 4 + 64 * (x / 256 % 4) by omega, hb _ (m256 x) _ (Nat.mod_lt _ (by decide))]
theorem mb_sub {g : Nat → Nat} (hg : ∀ d, d < 256 → g d ≤ d) : ∀ k e, e < 256 ^ k → e - mapB g k e = mapB (fun d => d - g d) k e ∧ mapB g k e ≤ e
  | 0, e, h => by
    have h0 : e < 1 := h
    have h1 : e = 0 := by omega
    subst h1
    exact ⟨rfl, Nat.le_refl _⟩
  | k + 1, e, h => by
    have h1 : e / 256 < 256 ^ k := Nat.div_lt_of_lt_mul (by rw [Nat.mul_comm]; exact h)
    obtain ⟨h2, h3⟩ := mb_sub hg k (e / 256) h1
    have h4 := hg (e % 256) (m256 e)
    have e1 : mapB g (k + 1) e = 256 * mapB g k (e / 256) + g (e % 256) := rfl
    have e2 : mapB (fun d => d - g d) (k + 1) e = 256 * mapB (fun d => d - g d) k (e / 256) + (e % 256 - g (e % 256)) := rfl
    rw [e1, e2, ← h2]
    omega
theorem mb_add {g h : Nat → Nat} : ∀ k e, mapB g k e + mapB h k e = mapB (fun d => g d + h d) k e
  | 0, _ => rfl
  | k + 1, e => by
    have e1 : mapB g (k + 1) e = 256 * mapB g k (e / 256) + g (e % 256) := rfl
    have e2 : mapB h (k + 1) e = 256 * mapB h k (e / 256) + h (e % 256) := rfl
    have e3 : mapB (fun d => g d + h d) (k + 1) e = 256 * mapB (fun d => g d + h d) k (e / 256) + (g (e % 256) + h (e % 256)) := rfl
    rw [e1, e2, e3, ← mb_add k (e / 256)]
    omega
theorem mb_comp {g h : Nat → Nat} (hh : ∀ d, d < 256 → h d < 256) : ∀ k e, mapB g k (mapB h k e) = mapB (fun d => g (h d)) k e
  | 0, _ => rfl
  | k + 1, e => by
    have h1 := hh (e % 256) (m256 e)
    show 256 * mapB g k ((256 * mapB h k (e / 256) + h (e % 256)) / 256) + g ((256 * mapB h k (e / 256) + h (e % 256)) % 256) = 256 * mapB (fun d => g (h d)) k (e / 256) + g (h (e % 256))
    rw [show (256 * mapB h k (e / 256) + h (e % 256)) / 256 = mapB h k (e / 256) by omega, show (256 * mapB h k (e / 256) + h (e % 256)) % 256 = h (e % 256) by omega, mb_comp hh k (e / 256)]
theorem mb_cong {g h : Nat → Nat} (hh : ∀ d, d < 256 → g d = h d) : ∀ k e, mapB g k e = mapB h k e
  | 0, _ => rfl
  | k + 1, e => by
    show 256 * mapB g k (e / 256) + g (e % 256) = 256 * mapB h k (e / 256) + h (e % 256)
    rw [mb_cong hh k (e / 256), hh _ (m256 e)]
theorem mb_n4 {h : Nat → Nat} (hh : ∀ d, d < 256 → h d % 16 ≤ 4 ∧ h d / 16 ≤ 4) : ∀ k e, mapB h k e % 16 ≤ 4
  | 0, _ => by show 0 % 16 ≤ 4; omega
  | k + 1, e => by
    have h1 := hh (e % 256) (m256 e)
    show (256 * mapB h k (e / 256) + h (e % 256)) % 16 ≤ 4
    omega
theorem mb_16 {h : Nat → Nat} (hh : ∀ d, d < 256 → h d % 16 ≤ 4 ∧ h d / 16 ≤ 4) : ∀ k e, (mapB h k e + mapB h k e / 16) &&& mskB 15 k = mapB (fun d => (h d + h d / 16) % 16) k e
  | 0, _ => Nat.and_zero _
  | k + 1, e => by
    have h1 := hh (e % 256) (m256 e)
    have h2 := mb_n4 hh k (e / 256)
    show ((256 * mapB h k (e / 256) + h (e % 256)) + (256 * mapB h k (e / 256) + h (e % 256)) / 16) &&& (256 * mskB 15 k + 15) = 256 * mapB (fun d => (h d + h d / 16) % 16) k (e / 256) + (h (e % 256) + h (e % 256) / 16) % 16
    rw [← mb_16 hh k (e / 256), show (256 * mapB h k (e / 256) + h (e % 256)) + (256 * mapB h k (e / 256) + h (e % 256)) / 16 = 256 * (mapB h k (e / 256) + mapB h k (e / 256) / 16) + (h (e % 256) + h (e % 256) / 16 + 16 * (mapB h k (e / 256) % 16)) by omega, ld_sp (by omega) (by decide)]
    have h3 : (h (e % 256) + h (e % 256) / 16 + 16 * (mapB h k (e / 256) % 16)) &&& 15 = (h (e % 256) + h (e % 256) / 16 + 16 * (mapB h k (e / 256) % 16)) % 16 := Nat.and_two_pow_sub_one_eq_mod _ 4
    rw [h3]
    omega
noncomputable def bsum : Nat → Nat → Nat
  | 0, _ => 0
  | m + 1, e => e % 2 + bsum m (e / 2)
noncomputable def sw1 (e : Nat) : Nat := e - ((e / 2) &&& 6148914691236517205)
noncomputable def sw2 (a : Nat) : Nat := (a &&& 3689348814741910323) + ((a / 4) &&& 3689348814741910323)
noncomputable def sw3 (a : Nat) : Nat := (a + a / 16) &&& 1085102592571150095
noncomputable def swb (d : Nat) : Nat := ((d - (d / 2 &&& 85)) &&& 51) + ((d - (d / 2 &&& 85)) / 4 &&& 51)
theorem swb_ok : ∀ d, d < 256 → swb d % 16 ≤ 4 ∧ swb d / 16 ≤ 4 := by decide +kernel
theorem swb_pc : ∀ d, d < 256 → (swb d + swb d / 16) % 16 = bsum 8 d := by decide +kernel
theorem pc_8 : ∀ d, d < 256 → bsum 8 d ≤ 8 := by decide +kernel
theorem sw_b2 : ∀ d, d < 256 → ∀ b, b < 2 → (d / 2 + 128 * b) &&& 85 = (d / 2) &&& 85 := by decide +kernel
theorem sw_b4 : ∀ d, d < 256 → ∀ b, b < 4 → (d / 4 + 64 * b) &&& 51 = (d / 4) &&& 51 := by decide +kernel
theorem sw_s1 : ∀ d, d < 256 → (d / 2 &&& 85) ≤ d := by decide +kernel
theorem sw_s2 : ∀ d, d < 256 → d - (d / 2 &&& 85) < 256 := by decide +kernel
theorem sw_m {e : Nat} (h : e < 2 ^ 64) : sw3 (sw2 (sw1 e)) = mapB (bsum 8) 8 e := by
  have m5 : (6148914691236517205 : Nat) = mskB 85 8 := rfl
  have m3 : (3689348814741910323 : Nat) = mskB 51 8 := rfl
  have mf : (1085102592571150095 : Nat) = mskB 15 8 := rfl
  have h1 : sw1 e = mapB (fun d => d - (d / 2 &&& 85)) 8 e := by
    rw [sw1, m5, mb_and (by decide), mb_2 sw_b2]
    exact (mb_sub sw_s1 8 e (Nat.lt_of_lt_of_le h (by decide))).1
  have h2 : sw2 (sw1 e) = mapB swb 8 e := by
    rw [sw2, m3, mb_and (by decide), mb_and (by decide), mb_4 sw_b4, mb_add, h1, mb_comp sw_s2]
    rfl
  rw [sw3, h2, mf, mb_16 swb_ok]
  exact mb_cong swb_pc 8 e
theorem bs_8 (m e : Nat) : bsum (m + 8) e = bsum 8 (e % 256) + bsum m (e / 256) := by
  have h : e / 2 / 2 / 2 / 2 / 2 / 2 / 2 / 2 = e / 256 := by omega
  simp only [bsum, h]
  omega
theorem bs_z : ∀ m j e, e < 2 ^ m → bsum (m + j) e = bsum m e
  | 0, j, e, h => by
    have h0 : e < 1 := h
    have h1 : e = 0 := by omega
    subst h1
    rw [Nat.zero_add]
    induction j with
    | zero => rfl
    | succ j ih => show 0 % 2 + bsum j (0 / 2) = 0; rw [show (0 : Nat) / 2 = 0 from rfl, ih]; rfl
  | m + 1, j, e, h => by
    rw [show m + 1 + j = (m + j) + 1 by omega]
    show e % 2 + bsum (m + j) (e / 2) = e % 2 + bsum m (e / 2)
    rw [bs_z m j (e / 2) (by rw [Nat.pow_succ] at h; omega)]
theorem bs_s : ∀ i e, bsum (i + 1) e = bsum i e + e / 2 ^ i % 2
  | 0, e => by show e % 2 + 0 = 0 + e / 1 % 2; rw [Nat.div_one]; omega
  | i + 1, e => by
    show e % 2 + bsum (i + 1) (e / 2) = e % 2 + bsum i (e / 2) + e / 2 ^ (i + 1) % 2
    rw [bs_s i (e / 2), Nat.div_div_eq_div_mul, show 2 * 2 ^ i = 2 ^ (i + 1) by rw [Nat.pow_succ]; omega]
    omega
theorem bs_le : ∀ i e, bsum i e ≤ i
  | 0, _ => Nat.le_refl _
  | i + 1, e => by
    have := bs_le i (e / 2)
    show e % 2 + bsum i (e / 2) ≤ i + 1
    omega
theorem sw_fin {M A B C D E F p0 p1 p2 p3 p4 p5 p6 p7 : Nat} (h0 : p0 ≤ 8) (h1 : p1 ≤ 8) (h2 : p2 ≤ 8) (h3 : p3 ≤ 8) (h4 : p4 ≤ 8) (h5 : p5 ≤ 8) (h6 : p6 ≤ 8) (h7 : p7 ≤ 8) (hM : M = 256 * A + p0) (hA : A = 256 * B + p1) (hB : B = 256 * C + p2) (hC : C = 256 * D + p3) (hD : D = 256 * E + p4) (hE : E = 256 * F + p5) (hF : F = 256 * p7 + p6) : (M + M / 256 + (M + M / 256) / 65536 + (M + M / 256 + (M + M / 256) / 65536) / 4294967296) % 128 = p0 + (p1 + (p2 + (p3 + (p4 + (p5 + (p6 + p7)))))) := by
  have d1 : M / 256 = A := by omega
  rw [d1]
  have d2 : (M + A) / 65536 = B + C := by omega
  rw [d2]
  have d3 : (M + A + (B + C)) / 4294967296 = D + E + F + p7 := by omega
  rw [d3]
  omega
/-- the JDK's way of counting bits -/
theorem sw_all {e : Nat} (h : e < 2 ^ 36) : ((sw3 (sw2 (sw1 e)) + sw3 (sw2 (sw1 e)) / 256 + (sw3 (sw2 (sw1 e)) + sw3 (sw2 (sw1 e)) / 256) / 65536) + (sw3 (sw2 (sw1 e)) + sw3 (sw2 (sw1 e)) / 256 + (sw3 (sw2 (sw1 e)) + sw3 (sw2 (sw1 e)) / 256) / 65536) / 4294967296) % 128 = bsum 36 e := by
  have hb : bsum 36 e = bsum 8 (e % 256) + (bsum 8 (e / 256 % 256) + (bsum 8 (e / 256 / 256 % 256) + (bsum 8 (e / 256 / 256 / 256 % 256) + (bsum 8 (e / 256 / 256 / 256 / 256 % 256) + (bsum 8 (e / 256 / 256 / 256 / 256 / 256 % 256) + (bsum 8 (e / 256 / 256 / 256 / 256 / 256 / 256 % 256) + bsum 8 (e / 256 / 256 / 256 / 256 / 256 / 256 / 256))))))) := by
    rw [← bs_z 36 28 e h]
    exact (bs_8 56 e).trans (congrArg _ ((bs_8 48 _).trans (congrArg _ ((bs_8 40 _).trans (congrArg _ ((bs_8 32 _).trans (congrArg _ ((bs_8 24 _).trans (congrArg _ ((bs_8 16 _).trans (congrArg _ (bs_8 8 _))))))))))))
  rw [hb, sw_m (by omega)]
  have hm : mapB (bsum 8) 8 e = 256 * (256 * (256 * (256 * (256 * (256 * (256 * (256 * 0 + bsum 8 (e / 256 / 256 / 256 / 256 / 256 / 256 / 256 % 256)) + bsum 8 (e / 256 / 256 / 256 / 256 / 256 / 256 % 256)) + bsum 8 (e / 256 / 256 / 256 / 256 / 256 % 256)) + bsum 8 (e / 256 / 256 / 256 / 256 % 256)) + bsum 8 (e / 256 / 256 / 256 % 256)) + bsum 8 (e / 256 / 256 % 256)) + bsum 8 (e / 256 % 256)) + bsum 8 (e % 256) := rfl
  rw [hm]
  have h0 := pc_8 _ (m256 e)
  have h1 := pc_8 _ (m256 (e / 256))
  have h2 := pc_8 _ (m256 (e / 256 / 256))
  have h3 := pc_8 _ (m256 (e / 256 / 256 / 256))
  have h4 := pc_8 _ (m256 (e / 256 / 256 / 256 / 256))
  have h5 := pc_8 _ (m256 (e / 256 / 256 / 256 / 256 / 256))
  have h6 := pc_8 _ (m256 (e / 256 / 256 / 256 / 256 / 256 / 256))
  have h7 := pc_8 _ (m256 (e / 256 / 256 / 256 / 256 / 256 / 256 / 256))
  have h8 : bsum 8 (e / 256 / 256 / 256 / 256 / 256 / 256 / 256) = bsum 8 (e / 256 / 256 / 256 / 256 / 256 / 256 / 256 % 256) := by rw [Nat.mod_eq_of_lt (show e / 256 / 256 / 256 / 256 / 256 / 256 / 256 < 256 by omega)]
  rw [h8]
  generalize bsum 8 (e % 256) = p0 at *
  generalize bsum 8 (e / 256 % 256) = p1 at *
  generalize bsum 8 (e / 256 / 256 % 256) = p2 at *
  generalize bsum 8 (e / 256 / 256 / 256 % 256) = p3 at *
  generalize bsum 8 (e / 256 / 256 / 256 / 256 % 256) = p4 at *
  generalize bsum 8 (e / 256 / 256 / 256 / 256 / 256 % 256) = p5 at *
  generalize bsum 8 (e / 256 / 256 / 256 / 256 / 256 / 256 % 256) = p6 at *
  generalize bsum 8 (e / 256 / 256 / 256 / 256 / 256 / 256 / 256 % 256) = p7 at *
  exact sw_fin (by omega) (by omega) (by omega) (by omega) (by omega) (by omega) (by omega) (by omega) rfl rfl rfl rfl rfl rfl (by omega)
theorem ed_mask (x : Int64) : (x &&& (-68719476736)) = 0 ↔ (¬ x < 0 ∧ x >>> ((36 : Int32).toInt64 &&& 63) = 0) := by
  have e0 : (-1 : Int64).toBitVec = BitVec.allOnes 64 := by decide
  have ea : x &&& (-1) = x := Int64.toBitVec_inj.mp (by rw [Int64.toBitVec_and, e0, BitVec.and_allOnes])
  have e1 : (x &&& (-68719476736)) = 0 ↔ x.toBitVec.toNat < 2 ^ 36 := by
    have h := cr_mask x (-1) 68719476735 36 (by decide)
    rw [show (-1 : Int64) &&& (68719476735 ^^^ (-1)) = -68719476736 by decide, ea] at h
    exact h
  have e2 : x < 0 ↔ x.toInt < 0 := Int64.lt_iff_toInt_lt
  have e3 : x >>> ((36 : Int32).toInt64 &&& 63) = 0 ↔ x.toInt / 2 ^ 36 = 0 := by
    rw [← Int64.toInt_inj]
    have : (x >>> ((36 : Int32).toInt64 &&& 63)).toInt = x.toInt >>> 36 := by
      show (x.toBitVec.sshiftRight (((36 : Int32).toInt64 &&& 63).toBitVec.smod 64).toNat).toInt = _
      rw [show (((36 : Int32).toInt64 &&& 63).toBitVec.smod 64).toNat = 36 by decide, BitVec.toInt_sshiftRight]
      rfl
    rw [this, Int.shiftRight_eq_div_pow]
    exact Iff.rfl
  have e4 : x.toInt = if 2 * x.toBitVec.toNat < 2 ^ 64 then (x.toBitVec.toNat : Int) else (x.toBitVec.toNat : Int) - ((2 ^ 64 : Nat) : Int) := BitVec.toInt_eq_toNat_cond x.toBitVec
  have e5 : x.toBitVec.toNat < 2 ^ 64 := x.toBitVec.isLt
  rw [e1, e2, e3]
  split at e4 <;> omega
/-- which cells may be edges -/
noncomputable def edK (x : Int64) : Prop := (x &&& (-68719476736)) = 0
theorem ed_of {x : Int64} (h : edK x) : ∃ e : Nat, e < 2 ^ 36 ∧ x = lN e := by
  have e0 : (-1 : Int64).toBitVec = BitVec.allOnes 64 := by decide
  have ea : x &&& (-1) = x := Int64.toBitVec_inj.mp (by rw [Int64.toBitVec_and, e0, BitVec.and_allOnes])
  have h1 := cr_mask x (-1) 68719476735 36 (by decide)
  rw [show (-1 : Int64) &&& (68719476735 ^^^ (-1)) = -68719476736 by decide, ea] at h1
  obtain ⟨n, hn, rfl⟩ := wb_of x
  have h2 := h1.mp h
  rw [wb_tn hn] at h2
  exact ⟨n, h2, rfl⟩
noncomputable def edR (ee : Nat) (x : Int64) : Int32 := @ite Int32 (edK x) (Classical.propDecidable _) (nI (bsum 36 ee)) (-2)
theorem ed_yes {ee : Nat} {x : Int64} (h : edK x) : nI (bsum 36 ee) = edR ee x := by rw [edR, if_pos h]
theorem ed_no {ee : Nat} {x : Int64} (h : ¬ edK x) : -2 = edR ee x := by rw [edR, if_neg h]
noncomputable def edN (ee : Nat) (x : Int64) : Nat := @ite Nat (edK x) (Classical.propDecidable _) x.toBitVec.toNat ee
theorem edN_yes {ee e : Nat} (he : e < 2 ^ 36) (h : edK (lN e)) : e = edN ee (lN e) := by rw [edN, if_pos h, wb_tn (by omega)]
theorem edN_no {ee : Nat} {x : Int64} (h : ¬ edK x) : ee = edN ee x := by rw [edN, if_neg h]
theorem lsr_i {e i : Nat} (he : e < 2 ^ 36) (hi : i < 36) : lN e >>> ((nI i).toInt64 &&& 63) = lN (e / 2 ^ i) := by
  rw [wb_c i (by omega)]
  exact pf_shr (by rw [wb_tb, wb_sm i (by omega), BitVec.toNat_ofNat, Nat.mod_eq_of_lt (by omega)]) (by omega)
theorem ed_step {f fS : Nat → Int32} {e i : Nat} (hi : i < 36) (h : (∀ k, k < i → f (37 + k) = nI (e / 2 ^ k % 2)) ∧ ∀ k, ¬ (37 ≤ k ∧ k < 73) → f k = fS k) : (∀ k, k < i + 1 → upd f (37 + i) (nI (e / 2 ^ i % 2)) (37 + k) = nI (e / 2 ^ k % 2)) ∧ ∀ k, ¬ (37 ≤ k ∧ k < 73) → upd f (37 + i) (nI (e / 2 ^ i % 2)) k = fS k := by
  refine ⟨fun k hk => ?_, fun k hk => (pk_un (by omega)).trans (h.2 k hk)⟩
  by_cases q : k = i
  · subst q; exact pk_us
  · exact (pk_un (by omega)).trans (h.1 k (by omega))
noncomputable def tdR (mi sn : Int32) (sg ee : Nat) (x : Int32) : Int32 := if x = 0 then mi else if x = 1 then sn else if x = 2 then nI sg else if x = 3 then nI (bsum 36 ee) else -1
section
variable {mi sn x : Int32} {sg ee : Nat}
theorem td_0 (h : x = 0) : mi = tdR mi sn sg ee x := by rw [tdR, if_pos h]
theorem td_1 (h : x = 1) : sn = tdR mi sn sg ee x := by subst h; rw [tdR, if_neg (by decide), if_pos rfl]
theorem td_2 (h : x = 2) : nI sg = tdR mi sn sg ee x := by subst h; rw [tdR, if_neg (by decide), if_neg (by decide), if_pos rfl]
theorem td_3 (h : x = 3) : nI (bsum 36 ee) = tdR mi sn sg ee x := by subst h; rw [tdR, if_neg (by decide), if_neg (by decide), if_neg (by decide), if_pos rfl]
theorem td_n (h0 : ¬ x = 0) (h1 : ¬ x = 1) (h2 : ¬ x = 2) (h3 : ¬ x = 3) : -1 = tdR mi sn sg ee x := by rw [tdR, if_neg h0, if_neg h1, if_neg h2, if_neg h3]
end
theorem sw1_le (e : Nat) : sw1 e ≤ e := Nat.sub_le _ _
theorem sw2_le (a : Nat) : sw2 a ≤ 7378697629483820646 := by
  have h1 : a &&& 3689348814741910323 ≤ 3689348814741910323 := Nat.and_le_right
  have h2 : a / 4 &&& 3689348814741910323 ≤ 3689348814741910323 := Nat.and_le_right
  show (a &&& 3689348814741910323) + (a / 4 &&& 3689348814741910323) ≤ _
  omega
theorem sw3_le (a : Nat) : sw3 a ≤ 1085102592571150095 := Nat.and_le_right
theorem and127 (n : Nat) : nI n &&& 127 = nI (n % 128) := by
  rw [pk_and (nI n) (m := 127) 7 (by decide)]
  congr 1
  show (BitVec.ofNat 32 n).toNat % 2 ^ 7 = n % 128
  rw [BitVec.toNat_ofNat]
  omega
